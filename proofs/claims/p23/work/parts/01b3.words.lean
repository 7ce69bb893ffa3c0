set_option maxRecDepth 20000 in
theorem qz_wsL_law_r7_in : ∀ w ∈ wsL_law_r7, w ∈ lw_tbl := qz_in _ [236, 237, 239, 8, 240, 241, 243, 9, 244, 245, 246, 247, 248, 250, 10, 251, 252, 254, 11, 255, 256, 258, 12, 259] (by decide +kernel)
set_option maxRecDepth 20000 in
theorem qz_wsL_law_r8_in : ∀ w ∈ wsL_law_r8, w ∈ lw_tbl := qz_in _ [260, 261, 262, 267, 264, 265, 266, 268, 269, 270, 271, 272, 273, 274, 275, 276, 277, 278, 279, 280, 281, 282, 283, 284] (by decide +kernel)
