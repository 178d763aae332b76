set_option maxRecDepth 20000 in
theorem wi_wsL_law_r26 : ∀ w ∈ wsL_law_r26, w ∈ lw_tbl := lp_mem _ [550, 853, 854, 855, 856, 551, 552, 553, 554, 555, 556, 557, 558, 132, 857, 858, 859, 860, 559, 560, 561, 562, 563,     861] (by decide +kernel)
set_option maxRecDepth 20000 in
theorem wi_wsL_law_r27 : ∀ w ∈ wsL_law_r27, w ∈ lw_tbl := lp_mem _ [862, 863, 864, 564, 565, 566, 567, 865, 866, 867, 868, 568, 569, 570, 571, 869, 870, 871, 872, 572, 573, 574, 575,     576] (by decide +kernel)
set_option maxRecDepth 20000 in
theorem wi_wsL_law_r28 : ∀ w ∈ wsL_law_r28, w ∈ lw_tbl := lp_mem _ [577, 578, 873, 874, 875, 876, 579, 580, 581, 582, 583, 584, 585, 586, 456, 473, 478, 480, 475, 587, 588, 589, 590,     591] (by decide +kernel)
set_option maxRecDepth 20000 in
theorem wi_wsL_law_r29 : ∀ w ∈ wsL_law_r29, w ∈ lw_tbl := lp_mem _ [592, 593, 594, 595, 596, 597, 598, 599, 600, 601, 602, 603, 604, 606, 607, 608, 609, 877, 878, 879, 880, 610, 611,     612] (by decide +kernel)
set_option maxRecDepth 20000 in
theorem wi_wsL_law_r30 : ∀ w ∈ wsL_law_r30, w ∈ lw_tbl := lp_mem _ [613, 881, 882, 883, 884] (by decide +kernel)
