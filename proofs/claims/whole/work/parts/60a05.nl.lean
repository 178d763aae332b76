set_option maxRecDepth 20000 in
theorem wi_wsL_law_r21 : ∀ w ∈ wsL_law_r21, w ∈ lw_tbl := lp_mem _ [469, 470, 471, 472, 474, 476, 477, 479, 492, 493, 495, 12, 496, 497, 498, 499, 500, 501, 804, 805, 806, 807, 743,     808] (by decide +kernel)
set_option maxRecDepth 20000 in
theorem wi_wsL_law_r22 : ∀ w ∈ wsL_law_r22, w ∈ lw_tbl := lp_mem _ [809, 810, 811, 813, 22, 814, 815, 817, 23, 818, 819, 820, 821, 822, 823, 824, 825, 827, 24, 828, 829, 831, 25, 832] (by decide +kernel)
set_option maxRecDepth 20000 in
theorem wi_wsL_law_r23 : ∀ w ∈ wsL_law_r23, w ∈ lw_tbl := lp_mem _ [742, 502, 503, 504, 505, 136, 133, 506, 833, 834, 835, 836, 741, 507, 508, 509, 510, 837, 838, 839, 840, 511, 512,     513] (by decide +kernel)
set_option maxRecDepth 20000 in
theorem wi_wsL_law_r24 : ∀ w ∈ wsL_law_r24, w ∈ lw_tbl := lp_mem _ [514, 515, 517, 13, 518, 519, 520, 521, 522, 523, 524, 525, 526, 527, 528, 529, 530, 531, 532, 841, 842, 843, 844,     533] (by decide +kernel)
set_option maxRecDepth 20000 in
theorem wi_wsL_law_r25 : ∀ w ∈ wsL_law_r25, w ∈ lw_tbl := lp_mem _ [534, 535, 536, 845, 846, 847, 848, 537, 538, 539, 540, 849, 850, 851, 852, 541, 542, 543, 544, 545, 546, 547, 548,     549] (by decide +kernel)
