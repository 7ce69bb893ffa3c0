set_option maxRecDepth 20000 in
theorem qz_wsL_law_r10_in : ∀ w ∈ wsL_law_r10, w ∈ lw_tbl := qz_in _ [174, 175, 176, 56, 69, 177, 178, 179, 180, 58, 62, 161, 162, 163, 164, 54, 60, 48, 52, 108, 165, 166, 167, 168] (by decide +kernel)
set_option maxRecDepth 20000 in
theorem qz_wsL_law_r11_in : ∀ w ∈ wsL_law_r11, w ∈ lw_tbl := qz_in _ [304, 305, 306, 307] (by decide +kernel)
set_option maxRecDepth 20000 in
theorem qz_wsX20_in : ∀ w ∈ wsX20, w ∈ lw_tbl := qz_in _ [122, 124, 126, 128, 130, 132] (by decide +kernel)
set_option maxRecDepth 20000 in
theorem qz_wsX00_in : ∀ w ∈ wsX00, w ∈ lw_tbl := qz_in _ [70, 72, 74, 76, 78, 80, 82, 84, 86, 88, 90, 92, 94, 96] (by decide +kernel)
set_option maxRecDepth 20000 in
theorem qz_wsX10_in : ∀ w ∈ wsX10, w ∈ lw_tbl := qz_in _ [109, 111, 113] (by decide +kernel)
theorem wsL_law_in : ∀ w ∈ wsL_law, w ∈ lw_tbl := (fun w h => (List.mem_append.mp h).elim ((fun w h => (List.mem_append.mp h).elim ((fun w h => (List.mem_append.mp h).elim ((fun w h => (List.mem_append.mp h).elim ((fun w h => (List.mem_append.mp h).elim (qz_wsL_law_r1_in w) ((fun w h => (List.mem_append.mp h).elim (qz_wsL_law_r2_in w) ((fun w h => (List.mem_append.mp h).elim (qz_wsL_law_r3_in w) ((fun w h => (List.mem_append.mp h).elim (qz_wsL_law_r4_in w) ((fun w h => (List.mem_append.mp h).elim (qz_wsL_law_r5_in w) ((fun w h => (List.mem_append.mp h).elim (qz_wsL_law_r6_in w) ((fun w h => (List.mem_append.mp h).elim (qz_wsL_law_r7_in w) ((fun w h => (List.mem_append.mp h).elim (qz_wsL_law_r8_in w) ((fun w h => (List.mem_append.mp h).elim (qz_wsL_law_r9_in w) ((fun w h => (List.mem_append.mp h).elim (qz_wsL_law_r10_in w) (qz_wsL_law_r11_in w)) w)) w)) w)) w)) w)) w)) w)) w)) w)) w) (qz_wsX20_in w)) w) (qz_wsX00_in w)) w) (qz_wsX10_in w)) w) ((fun w h => absurd h List.not_mem_nil) w))
theorem inlX0 : ∀ w ∈ wsX00, w ∈ wsL_law := fun _ h => List.mem_append_left _ (List.mem_append_left _ (List.mem_append_right _ h))
theorem inX0 : ∀ w ∈ wsX00, w ∈ lw_tbl := fun w h => wsL_law_in w (inlX0 w h)
theorem inlX1 : ∀ w ∈ wsX10, w ∈ wsL_law := fun _ h => List.mem_append_left _ (List.mem_append_right _ h)
theorem inX1 : ∀ w ∈ wsX10, w ∈ lw_tbl := fun w h => wsL_law_in w (inlX1 w h)
theorem inlX2 : ∀ w ∈ wsX20, w ∈ wsL_law := fun _ h => List.mem_append_left _ (List.mem_append_left _ (List.mem_append_left _ (List.mem_append_right _ h)))
theorem inX2 : ∀ w ∈ wsX20, w ∈ lw_tbl := fun w h => wsL_law_in w (inlX2 w h)
theorem inX3 : ∀ w ∈ wsX30, w ∈ lw_tbl := by decide +kernel
theorem inJ9 : ∀ w ∈ wsJ90, w ∈ lw_tbl := by decide +kernel
theorem inJ10 : ∀ w ∈ wsJ100, w ∈ lw_tbl := by decide +kernel
theorem inJ7 : ∀ w ∈ wsJ70, w ∈ lw_tbl := by decide +kernel
