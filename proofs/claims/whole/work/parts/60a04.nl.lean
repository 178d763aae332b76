set_option maxRecDepth 20000 in
theorem wi_wsX20 : ∀ w ∈ wsX20, w ∈ lw_tbl := lp_mem _ [84, 86] (by decide +kernel)
set_option maxRecDepth 20000 in
theorem wi_wsJx4a65c0 : ∀ w ∈ wsJx4a65c0, w ∈ lw_tbl := lp_mem _ [112, 108, 110] (by decide +kernel)
set_option maxRecDepth 20000 in
theorem wi_wsX10 : ∀ w ∈ wsX10, w ∈ lw_tbl := lp_mem _ [146, 148, 150] (by decide +kernel)
set_option maxRecDepth 20000 in
theorem wi_wsX70 : ∀ w ∈ wsX70, w ∈ lw_tbl := lp_mem _ [188, 190, 192] (by decide +kernel)
set_option maxRecDepth 20000 in
theorem wi_wsX50 : ∀ w ∈ wsX50, w ∈ lw_tbl := lp_mem _ [179] (by decide +kernel)
set_option maxRecDepth 20000 in
theorem wi_wsX00 : ∀ w ∈ wsX00, w ∈ lw_tbl := lp_mem _ [138, 140] (by decide +kernel)
set_option maxRecDepth 20000 in
theorem wi_wsX60 : ∀ w ∈ wsX60, w ∈ lw_tbl := lp_mem _ [169] (by decide +kernel)
set_option maxRecDepth 20000 in
theorem wi_wsX30 : ∀ w ∈ wsX30, w ∈ lw_tbl := lp_mem _ [481, 483, 485, 487, 489] (by decide +kernel)
