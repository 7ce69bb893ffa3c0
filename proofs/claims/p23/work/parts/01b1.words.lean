set_option maxRecDepth 20000 in
theorem qz_in {big : List Cond} (ws : List Cond) (ps : List Nat) (hp : ws = ps.filterMap (fun i => big[i]?)) : ∀ w ∈ ws, w ∈ big := by
  intro w hw
  rw [hp] at hw
  obtain ⟨i, -, hi⟩ := List.mem_filterMap.mp hw
  exact List.mem_of_getElem? hi
set_option maxRecDepth 20000 in
theorem qz_wsL_law_r1_in : ∀ w ∈ wsL_law_r1, w ∈ lw_tbl := qz_in _ [20, 21, 14, 99, 308, 22, 23, 24, 25, 26, 27, 28, 29, 15, 116, 117, 118, 119, 101, 102, 17, 121, 30, 31] (by decide +kernel)
set_option maxRecDepth 20000 in
theorem qz_wsL_law_r2_in : ∀ w ∈ wsL_law_r2, w ∈ lw_tbl := qz_in _ [32, 33, 57, 59, 61, 34, 63, 65, 67, 68, 36, 37, 38, 39, 45, 47, 49, 51, 53, 55, 40, 41, 16, 42] (by decide +kernel)
set_option maxRecDepth 20000 in
theorem qz_wsL_law_r3_in : ∀ w ∈ wsL_law_r3, w ∈ lw_tbl := qz_in _ [104, 105, 106, 107, 189, 190, 13, 191, 181, 182, 183, 184, 185, 186, 187, 188, 135, 136, 137, 138, 46, 139, 140, 141] (by decide +kernel)
