set_option maxRecDepth 20000 in
theorem wi_wsL_law_r16 : ∀ w ∈ wsL_law_r16, w ∈ lw_tbl := lp_mem _ [721, 20, 722, 723, 725, 21, 726, 727, 728, 729, 366, 367, 368, 369, 800, 801, 802, 803, 739, 370, 371, 372, 373,     153] (by decide +kernel)
set_option maxRecDepth 20000 in
theorem wi_wsL_law_r17 : ∀ w ∈ wsL_law_r17, w ∈ lw_tbl := lp_mem _ [374, 375, 376, 377, 378, 379, 380, 381, 382, 383, 384, 385, 43, 386, 387, 388, 44, 389, 390, 391, 392, 393, 394,     396] (by decide +kernel)
set_option maxRecDepth 20000 in
theorem wi_wsL_law_r18 : ∀ w ∈ wsL_law_r18, w ∈ lw_tbl := lp_mem _ [9, 397, 398, 400, 10, 401, 402, 403, 404, 405, 406, 407, 408, 409, 410, 411, 412, 413, 414, 415, 416, 417, 418, 419] (by decide +kernel)
set_option maxRecDepth 20000 in
theorem wi_wsL_law_r19 : ∀ w ∈ wsL_law_r19, w ∈ lw_tbl := lp_mem _ [420, 421, 422, 423, 424, 425, 426, 427, 428, 429, 431, 433, 11, 434, 435, 436, 437, 438, 439, 440, 441, 442, 443,     444] (by decide +kernel)
set_option maxRecDepth 20000 in
theorem wi_wsL_law_r20 : ∀ w ∈ wsL_law_r20, w ∈ lw_tbl := lp_mem _ [445, 446, 447, 448, 449, 450, 451, 456, 457, 45, 452, 453, 454, 455, 458, 459, 460, 461, 462, 463, 464, 465, 467,     468] (by decide +kernel)
