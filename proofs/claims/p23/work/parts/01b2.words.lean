set_option maxRecDepth 20000 in
theorem qz_wsL_law_r4_in : ∀ w ∈ wsL_law_r4, w ∈ lw_tbl := qz_in _ [142, 144, 0, 145, 120, 146, 148, 1, 149, 150, 151, 152, 153, 43, 154, 156, 155, 18, 157, 158, 159, 160, 192, 193] (by decide +kernel)
set_option maxRecDepth 20000 in
theorem qz_wsL_law_r5_in : ∀ w ∈ wsL_law_r5, w ∈ lw_tbl := qz_in _ [194, 195, 263, 196, 197, 198, 199, 200, 202, 2, 203, 204, 205, 206, 207, 208, 210, 3, 211, 212, 213, 214, 215, 216] (by decide +kernel)
set_option maxRecDepth 20000 in
theorem qz_wsL_law_r6_in : ∀ w ∈ wsL_law_r6, w ∈ lw_tbl := qz_in _ [217, 218, 220, 4, 221, 226, 227, 19, 228, 222, 224, 5, 225, 169, 170, 171, 172, 229, 231, 6, 232, 233, 235, 7] (by decide +kernel)
