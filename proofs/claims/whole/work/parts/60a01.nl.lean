set_option maxRecDepth 20000 in
theorem wi_wsL_law_r1 : ∀ w ∈ wsL_law_r1, w ∈ lw_tbl := lp_mem _ [46, 47, 27, 614, 615, 42, 48, 49, 50, 51, 52, 53, 54, 55, 28, 323, 74, 75, 29, 324, 73, 325, 89, 90] (by decide +kernel)
set_option maxRecDepth 20000 in
theorem wi_wsL_law_r2 : ∀ w ∈ wsL_law_r2, w ∈ lw_tbl := lp_mem _ [32, 326, 115, 327, 328, 329, 330, 331, 332, 117, 118, 33, 333, 334, 335, 336, 153, 154, 35, 187, 185, 172, 37, 183] (by decide +kernel)
set_option maxRecDepth 20000 in
theorem wi_wsL_law_r3 : ∀ w ∈ wsL_law_r3, w ∈ lw_tbl := lp_mem _ [57, 58, 59, 60, 61, 62, 63, 77, 78, 79, 80, 82, 83, 91, 92, 93, 101, 103, 94, 95, 31, 96, 105, 97] (by decide +kernel)
set_option maxRecDepth 20000 in
theorem wi_wsL_law_r4 : ∀ w ∈ wsL_law_r4, w ∈ lw_tbl := lp_mem _ [98, 30, 99, 100, 120, 121, 122, 123, 143, 144, 125, 126, 34, 145, 124, 128, 129, 130, 131, 135, 155, 156, 157, 158] (by decide +kernel)
set_option maxRecDepth 20000 in
theorem wi_wsL_law_r5 : ∀ w ∈ wsL_law_r5, w ∈ lw_tbl := lp_mem _ [159, 182, 160, 184, 162, 163, 36, 186, 165, 166, 167, 168, 173, 174, 175, 176, 177, 195, 196, 197, 198, 199, 201, 0] (by decide +kernel)
