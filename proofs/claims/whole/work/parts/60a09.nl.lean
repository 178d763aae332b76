set_option maxRecDepth 20000 in
theorem wi_wsX30 : ∀ w ∈ wsX30, w ∈ lw_tbl := lp_mem _ [481, 483, 485, 487, 489] (by decide +kernel)
