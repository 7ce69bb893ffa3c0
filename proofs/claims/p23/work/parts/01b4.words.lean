def qz_r9a : List Cond := [Cond.instanceMethod yX2_raise, Cond.selects RX2 yX2_raise yX2_raise, Cond.code yX2_raise cX2_raise 2 (some .int), Cond.methodLink RL 56 yX2_setRepair, Cond.instanceMethod yX2_setRepair, Cond.selects RX2 yX2_setRepair yX2_setRepair, Cond.code yX2_setRepair cX2_setRepair 3 (some .int), Cond.fieldLink RX2 41 "ReturnPile$State" "repair" "I", Cond.methodLink RL 95 yL_isSo, Cond.static yL_isSo]
def qz_r9b : List Cond := [Cond.constantLong RL 75 (3), Cond.methodLink RL 66 yX2_frame, Cond.instanceMethod yX2_frame, Cond.selects RX2 yX2_frame yX2_frame, Cond.code yX2_frame cX2_frame 3 (some .int), Cond.fieldLink RX2 75 "ReturnPile$State" "height" "I", Cond.fieldLink RX2 100 "ReturnPile$State" "frames" "[[I", Cond.methodLink RL 69 yX2_slot, Cond.instanceMethod yX2_slot, Cond.selects RX2 yX2_slot yX2_slot, Cond.code yX2_slot cX2_slot 3 (some .int), Cond.fieldLink RX2 104 "ReturnPile$State" "slots" "[[I", Cond.methodLink RL 72 yX2_confession]
set_option maxRecDepth 100000 in
set_option maxHeartbeats 4000000 in
theorem qz_isSo_code : Cond.code yL_isSo cL_isSo 15 (some .boolean) ∈ lw_tbl := List.mem_of_getElem? (i := 294) rfl
set_option maxRecDepth 20000 in
theorem qz_r9a_in : ∀ w ∈ qz_r9a, w ∈ lw_tbl := qz_in _ [285, 286, 287, 288, 289, 290, 291, 44, 292, 293] (by decide +kernel)
set_option maxRecDepth 20000 in
theorem qz_r9b_in : ∀ w ∈ qz_r9b, w ∈ lw_tbl := qz_in _ [303, 295, 296, 297, 298, 50, 64, 299, 300, 301, 302, 66, 173] (by decide +kernel)
theorem qz_wsL_law_r9_in : ∀ w ∈ wsL_law_r9, w ∈ lw_tbl := fun w hw => (List.mem_append.mp (show w ∈ qz_r9a ++ (Cond.code yL_isSo cL_isSo 15 (some .boolean) :: qz_r9b) from hw)).elim (qz_r9a_in w) (fun h => (List.mem_cons.mp h).elim (fun e => e ▸ qz_isSo_code) (qz_r9b_in w))
