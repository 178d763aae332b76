set_option maxRecDepth 20000 in
theorem wi_wsL_law_r11 : ∀ w ∈ wsL_law_r11, w ∈ lw_tbl := lp_mem _ [619, 620, 621, 622, 623, 624, 625, 626, 627, 628, 629, 630, 631, 632, 633, 634, 635, 636, 637, 638, 639, 640, 641,     642] (by decide +kernel)
set_option maxRecDepth 20000 in
theorem wi_wsL_law_r12 : ∀ w ∈ wsL_law_r12, w ∈ lw_tbl := lp_mem _ [643, 644, 645, 646, 647, 648, 649, 650, 651, 652, 653, 654, 655, 656, 657, 658, 659, 660, 661, 662, 663, 664, 665,     666] (by decide +kernel)
set_option maxRecDepth 20000 in
theorem wi_wsL_law_r13 : ∀ w ∈ wsL_law_r13, w ∈ lw_tbl := lp_mem _ [667, 668, 669, 670, 671, 672, 673, 674, 675, 676, 677, 678, 679, 680, 681, 682, 683, 730, 684, 685, 686, 687, 688,     689] (by decide +kernel)
set_option maxRecDepth 20000 in
theorem wi_wsL_law_r14 : ∀ w ∈ wsL_law_r14, w ∈ lw_tbl := lp_mem _ [690, 691, 731, 732, 733, 734, 735, 736, 737, 738, 740, 744, 746, 747, 748, 749, 750, 751, 692, 694, 14, 695, 745,     696] (by decide +kernel)
set_option maxRecDepth 20000 in
theorem wi_wsL_law_r15 : ∀ w ∈ wsL_law_r15, w ∈ lw_tbl := lp_mem _ [698, 15, 699, 700, 702, 16, 703, 704, 706, 17, 707, 708, 709, 710, 711, 713, 18, 714, 752, 715, 717, 19, 718, 719] (by decide +kernel)
