set_option maxRecDepth 20000 in
theorem wi_wsX80 : ∀ w ∈ wsX80, w ∈ lw_tbl := lp_mem _ [337, 339, 341, 343, 345, 347, 349, 351, 353, 355, 357, 359, 361, 363] (by decide +kernel)
set_option maxRecDepth 20000 in
theorem wi_wsX90 : ∀ w ∈ wsX90, w ∈ lw_tbl := lp_mem _ [753, 755, 757, 759, 761, 763, 765, 767, 769, 771, 773, 775, 777, 779, 781, 783, 785, 787, 789, 791, 793, 795, 797] (by decide +kernel)
set_option maxRecDepth 20000 in
theorem wi_wsX40 : ∀ w ∈ wsX40, w ∈ lw_tbl := lp_mem _ [64, 66, 68, 70] (by decide +kernel)
set_option maxRecDepth 20000 in
theorem wi_wsX20 : ∀ w ∈ wsX20, w ∈ lw_tbl := lp_mem _ [84, 86] (by decide +kernel)
set_option maxRecDepth 20000 in
theorem wi_wsJx4a65c0 : ∀ w ∈ wsJx4a65c0, w ∈ lw_tbl := lp_mem _ [112, 108, 110] (by decide +kernel)
