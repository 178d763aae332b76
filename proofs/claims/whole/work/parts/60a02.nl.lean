set_option maxRecDepth 20000 in
theorem wi_wsL_law_r6 : ∀ w ∈ wsL_law_r6, w ∈ lw_tbl := lp_mem _ [202, 137, 134, 203, 204, 205, 206, 207, 209, 211, 210, 38, 212, 213, 214, 215, 216, 218, 1, 219, 220, 222, 2, 223] (by decide +kernel)
set_option maxRecDepth 20000 in
theorem wi_wsL_law_r7 : ∀ w ∈ wsL_law_r7, w ∈ lw_tbl := lp_mem _ [224, 226, 227, 228, 229, 230, 231, 232, 233, 234, 235, 236, 238, 3, 239, 240, 241, 243, 4, 244, 178, 245, 246, 247] (by decide +kernel)
set_option maxRecDepth 20000 in
theorem wi_wsL_law_r8 : ∀ w ∈ wsL_law_r8, w ∈ lw_tbl := lp_mem _ [248, 249, 250, 251, 252, 253, 254, 256, 5, 257, 258, 259, 260, 261, 262, 263, 264, 265, 266, 267, 268, 269, 270,     106] (by decide +kernel)
set_option maxRecDepth 20000 in
theorem wi_wsL_law_r9 : ∀ w ∈ wsL_law_r9, w ∈ lw_tbl := lp_mem _ [107, 104, 271, 273, 6, 274, 275, 277, 7, 278, 279, 281, 8, 282, 321, 287, 40, 288, 322, 283, 284, 39, 285, 286] (by decide +kernel)
set_option maxRecDepth 20000 in
theorem wi_wsL_law_r10 : ∀ w ∈ wsL_law_r10, w ∈ lw_tbl := lp_mem _ [289, 290, 291, 292, 293, 294, 41, 295, 296, 888, 297, 310, 311, 312, 313, 314, 316, 317, 318, 319, 320, 616, 617,     618] (by decide +kernel)
