def rm_X2_dropOldest : Room := { frames := 0, cells := 0, slots := 0, locals := 0 }
theorem e_X2_dropOldest : qw_hd yX2_dropOldest RX2 0 := by decide +kernel
set_option maxRecDepth 100000 in
set_option maxHeartbeats 4000000 in
theorem qb_X2_dropOldest_34 {p : Program} {l : Launch} {e : Env} {s : State} {mi : MethodId} {args : Array Value} {below : List Frame} {meth : Method} {co : Code} {Q : State → Prop} {L : wL} {M9 : wM} {h9 : Nat → Nat} {o1 : Nat} (F : CallFix p mi co cX2_dropOldest 3 s args wsX2_dropOldest RX2) (G : qw_G L (qw_A L) s) (hv : qw_R L) (ho1 : o1 < 8) (hQ : qw_RV p l e rm_X2_dropOldest s mi args below meth co cX2_dropOldest Q L M9 h9) : ∀ (M : wM) (h : (Nat → Nat)) (H : Heap) (locs : List Loc) (ls : Array Slot), qf_X2_dropOldest_34 o1 M h = some (M9, h9) → qw_P L M h H → va_S (qw_A L) s.heap H locs → lv_has ls 3 [(0, .ref (qw_ad L 8 0)), (1, .ref (qw_ad L o1 0))] → W p l e rm_X2_dropOldest s mi args below meth co H locs 0 0 Q (F0 mi 34 ls []) := by
  intro M h H locs ls hf hP hS hl
  unfold qf_X2_dropOldest_34 at hf
  refine lv_aload_n F.1 F.2.1 dX2_dropOldest_34 rfl (lv_at hl 0 rfl) ?_
  refine qr_gRr F G hv.1 (fun w h => F.2.2.2.2 w (List.mem_cons_of_mem _ (List.mem_append_right _ h))) hP 3 8 1 (by decide) (List.mem_of_getElem? (i := 1) rfl) dX2_dropOldest_35 ?_
  refine lv_iconst (v := (nI 4)) F.1 F.2.1 dX2_dropOldest_38 (by decide) ?_
  refine lv_aload_n F.1 F.2.1 dX2_dropOldest_39 rfl (lv_at hl 1 rfl) ?_
  obtain ⟨h1, eh1, hf⟩ := qn_x hf
  refine qr_hisW F G hv.1 hP hS (by unfold vp_in; decide) (by decide) (hv.2 _ ho1) eh1.symm dX2_dropOldest_40 (fun H locs hP hS => ?_)
  refine lv_aload_n F.1 F.2.1 dX2_dropOldest_41 rfl (lv_at hl 0 rfl) ?_
  refine lv_iconst (v := (nI 4)) F.1 F.2.1 dX2_dropOldest_42 (by decide) ?_
  obtain ⟨M2, eM2, hf⟩ := qn_x hf
  refine qr_pR F G hv.1 (fun w h => F.2.2.2.2 w (List.mem_cons_of_mem _ (List.mem_append_right _ h))) hP hS rfl (List.mem_of_getElem? (i := 2) rfl) eM2.symm dX2_dropOldest_43 (fun H locs hP hS => ?_)
  obtain ⟨e8, e7⟩ := qs2 hf
  subst e8
  subst e7
  exact hQ _ _ _ _ hP hS dX2_dropOldest_46
set_option maxRecDepth 100000 in
set_option maxHeartbeats 4000000 in
theorem qb_X2_dropOldest_9 {p : Program} {l : Launch} {e : Env} {s : State} {mi : MethodId} {args : Array Value} {below : List Frame} {meth : Method} {co : Code} {Q : State → Prop} {L : wL} {M9 : wM} {h9 : Nat → Nat} {o1 : Nat} (F : CallFix p mi co cX2_dropOldest 3 s args wsX2_dropOldest RX2) (G : qw_G L (qw_A L) s) (hv : qw_R L) (ho1 : o1 < 8) (hQ : qw_RV p l e rm_X2_dropOldest s mi args below meth co cX2_dropOldest Q L M9 h9) : ∀ (n : Nat) (x2 : Int32) (M : wM) (h : (Nat → Nat)) (H : Heap) (locs : List Loc) (ls : Array Slot), qf_X2_dropOldest_9 n o1 x2 M h = some (M9, h9) → qw_P L M h H → va_S (qw_A L) s.heap H locs → lv_has ls 3 [(0, .ref (qw_ad L 8 0)), (1, .ref (qw_ad L o1 0)), (2, .int x2)] → W p l e rm_X2_dropOldest s mi args below meth co H locs 0 0 Q (F0 mi 9 ls []) := by
  intro n
  induction n with
  | zero =>
    intro x2 M h H locs ls hf hP hS hl
    rw [qf_X2_dropOldest_9] at hf
    cases hf
  | succ n ih =>
    intro x2 M h H locs ls hf hP hS hl
    rw [qf_X2_dropOldest_9] at hf
    refine lv_iload_n F.1 F.2.1 dX2_dropOldest_9 rfl (lv_at hl 2 rfl) ?_
    refine lv_iconst (v := (nI 5)) F.1 F.2.1 dX2_dropOldest_10 (by decide) ?_
    refine lv_icmp_ge (tgt := 34) F.1 F.2.1 dX2_dropOldest_11 (by decide) (fun c1 => ?_) (fun c1 => ?_)
    · replace hf := qi_t c1 hf
      exact qb_X2_dropOldest_34 F G hv ho1 hQ _ _ _ _ _ hf hP hS (lv_sub hl [0, 1] rfl)
    · replace hf := qi_f c1 hf
      refine lv_aload_n F.1 F.2.1 dX2_dropOldest_14 rfl (lv_at hl 0 rfl) ?_
      refine qr_gRr F G hv.1 (fun w h => F.2.2.2.2 w (List.mem_cons_of_mem _ (List.mem_append_right _ h))) hP 3 8 1 (by decide) (List.mem_of_getElem? (i := 1) rfl) dX2_dropOldest_15 ?_
      refine lv_iload_n F.1 F.2.1 dX2_dropOldest_18 rfl (lv_at hl 2 rfl) ?_
      refine lv_iconst (v := (nI 1)) F.1 F.2.1 dX2_dropOldest_19 (by decide) ?_
      obtain ⟨z2, ez2, hf⟩ := qn_x hf
      refine qr_isub F ez2 dX2_dropOldest_20 ?_
      refine lv_aload_n F.1 F.2.1 dX2_dropOldest_21 rfl (lv_at hl 0 rfl) ?_
      refine qr_gRr F G hv.1 (fun w h => F.2.2.2.2 w (List.mem_cons_of_mem _ (List.mem_append_right _ h))) hP 3 8 1 (by decide) (List.mem_of_getElem? (i := 1) rfl) dX2_dropOldest_22 ?_
      refine lv_iload_n F.1 F.2.1 dX2_dropOldest_25 rfl (lv_at hl 2 rfl) ?_
      obtain ⟨g3, hf⟩ := qg_x hf
      obtain ⟨o4, eo4, hf⟩ := qn_x hf
      obtain ⟨g5, hf⟩ := qg_x hf
      refine qr_his F G hv.1 hP g3 eo4.symm dX2_dropOldest_26 ?_
      obtain ⟨g6, hf⟩ := qg_x hf
      obtain ⟨h7, eh7, hf⟩ := qn_x hf
      refine qr_hisW F G hv.1 hP hS g6 rfl (hv.2 _ g5) eh7.symm dX2_dropOldest_27 (fun H locs hP hS => ?_)
      obtain ⟨z8, ez8, hf⟩ := qn_x hf
      refine lv_iinc (v := z8) (lv' := [(2, .int z8), (0, .ref (qw_ad L 8 0)), (1, .ref (qw_ad L o1 0))]) F.1 F.2.1 dX2_dropOldest_28 hl (k := 2) rfl ((qw_ii1 _).trans ez8.symm) (by decide) rfl (fun ls hl => ?_)
      refine lv_goto (tgt := 9) F.1 F.2.1 dX2_dropOldest_31 (by decide) ?_
      exact ih _ _ _ _ _ _ hf hP hS (lv_sub hl [1, 2, 0] rfl)
set_option maxRecDepth 100000 in
set_option maxHeartbeats 4000000 in
theorem qb_X2_dropOldest {p : Program} {l : Launch} {e : Env} {s : State} {mi : MethodId} {args : Array Value} {below : List Frame} {meth : Method} {co : Code} {Q : State → Prop} {L : wL} {M9 : wM} {h9 : Nat → Nat} (F : CallFix p mi co cX2_dropOldest 3 s args wsX2_dropOldest RX2) (G : qw_G L (qw_A L) s) (hv : qw_R L) (hQ : qw_RV p l e rm_X2_dropOldest s mi args below meth co cX2_dropOldest Q L M9 h9) : ∀ (M : wM) (h : (Nat → Nat)) (H : Heap) (locs : List Loc) (ls : Array Slot), qf_X2_dropOldest M h = some (M9, h9) → qw_P L M h H → va_S (qw_A L) s.heap H locs → lv_has ls 3 [(0, .ref (qw_ad L 8 0))] → W p l e rm_X2_dropOldest s mi args below meth co H locs 0 0 Q (F0 mi 0 ls []) := by
  intro M h H locs ls hf hP hS hl
  unfold qf_X2_dropOldest at hf
  refine lv_aload_n F.1 F.2.1 dX2_dropOldest_0 rfl (lv_at hl 0 rfl) ?_
  refine qr_gRr F G hv.1 (fun w h => F.2.2.2.2 w (List.mem_cons_of_mem _ (List.mem_append_right _ h))) hP 3 8 1 (by decide) (List.mem_of_getElem? (i := 1) rfl) dX2_dropOldest_1 ?_
  refine lv_iconst (v := (nI 0)) F.1 F.2.1 dX2_dropOldest_4 (by decide) ?_
  obtain ⟨o1, eo1, hf⟩ := qn_x hf
  obtain ⟨g2, hf⟩ := qg_x hf
  refine qr_his F G hv.1 hP (by unfold vp_in; decide) (show h ((nI 0)).toNatClampNeg = o1 by rw [show ((nI 0)).toNatClampNeg = 0 by decide]; exact eo1.symm) dX2_dropOldest_5 ?_
  refine lv_astore_n (lv' := [(1, .ref (qw_ad L o1 0)), (0, .ref (qw_ad L 8 0))]) F.1 F.2.1 dX2_dropOldest_6 rfl hl (by decide) rfl (fun ls hl => ?_)
  refine lv_iconst (v := (nI 1)) F.1 F.2.1 dX2_dropOldest_7 (by decide) ?_
  refine lv_istore_n (lv' := [(2, .int (nI 1)), (1, .ref (qw_ad L o1 0)), (0, .ref (qw_ad L 8 0))]) F.1 F.2.1 dX2_dropOldest_8 rfl hl (by decide) rfl (fun ls hl => ?_)
  exact qb_X2_dropOldest_9 F G hv g2 hQ _ _ _ _ _ _ _ hf hP hS (lv_sub hl [2, 1, 0] rfl)
set_option maxRecDepth 100000 in
set_option maxHeartbeats 4000000 in
theorem qc_X2_dropOldest (l : Launch) {L : wL} (hJ : qw_J L) {M M9 : wM} {h h9 : Nat → Nat} (hv : qw_R L) (hf : qf_X2_dropOldest M h = some (M9, h9)) : qw_MV l yX2_dropOldest wsX2_dropOldest rm_X2_dropOldest L (.ref (qw_ad L 8 0) :: []) M h M9 h9 := by
  refine qw_MV_of (cc := cX2_dropOldest) (maxL := 3) (by decide) rfl hJ (Nat.le_of_ble_eq_true rfl) ?_
  intro p e s mi below meth co Q ls F G hP hQ hl
  exact qb_X2_dropOldest F G hv hQ _ _ _ _ _ hf hP va_S.rf hl
def rm_X2_record : Room := { frames := 3, cells := 0, slots := 0, locals := 84 }
theorem e_X2_record : qw_hd yX2_record RX2 1 := by decide +kernel
set_option maxRecDepth 100000 in
set_option maxHeartbeats 4000000 in
theorem qb_X2_record_12 {p : Program} {l : Launch} {e : Env} {s : State} {mi : MethodId} {args : Array Value} {below : List Frame} {meth : Method} {co : Code} {Q : State → Prop} {L : wL} {M9 : wM} {h9 : Nat → Nat} {o : Nat} (F : CallFix p mi co cX2_record 2 s args wsX2_record RX2) (G : qw_G L (qw_A L) s) (hv : qw_R L) (hQ : qw_RV p l e rm_X2_record s mi args below meth co cX2_record Q L M9 h9) : ∀ (M : wM) (h : (Nat → Nat)) (H : Heap) (locs : List Loc) (ls : Array Slot), qf_X2_record_12 o M h = some (M9, h9) → qw_P L M h H → va_S (qw_A L) s.heap H locs → lv_has ls 2 [(0, .ref (qw_ad L 8 0)), (1, .ref (qw_ad L o 0))] → W p l e rm_X2_record s mi args below meth co H locs 0 0 Q (F0 mi 12 ls []) := by
  intro M h H locs ls hf hP hS hl
  unfold qf_X2_record_12 at hf
  refine lv_aload_n F.1 F.2.1 dX2_record_12 rfl (lv_at hl 0 rfl) ?_
  refine qr_gRr F G hv.1 (fun w h => F.2.2.2.2 w (List.mem_cons_of_mem _ (List.mem_append_left _ (List.mem_append_right _ h)))) hP 3 8 1 (by decide) (List.mem_of_getElem? (i := 2) rfl) dX2_record_13 ?_
  refine lv_aload_n F.1 F.2.1 dX2_record_16 rfl (lv_at hl 0 rfl) ?_
  obtain ⟨z1, ez1, hf⟩ := qn_x hf
  refine qr_gR F G hv.1 (fun w h => F.2.2.2.2 w (List.mem_cons_of_mem _ (List.mem_append_left _ (List.mem_append_right _ h)))) hP rfl (List.mem_of_getElem? (i := 1) rfl) ez1 dX2_record_17 ?_
  obtain ⟨g2, hf⟩ := qg_x hf
  obtain ⟨o3, eo3, hf⟩ := qn_x hf
  obtain ⟨g4, hf⟩ := qg_x hf
  refine qr_his F G hv.1 hP g2 eo3.symm dX2_record_20 ?_
  refine lv_aload_n F.1 F.2.1 dX2_record_21 rfl (lv_at hl 1 rfl) ?_
  obtain ⟨g5, hf⟩ := qg_x hf
  obtain ⟨g6, hf⟩ := qg_x hf
  obtain ⟨m8, k7, hf⟩ := qb1_x hf
  obtain ⟨M9, eM9, hf⟩ := qn_x hf
  refine qr_cVv F G hP hS (qc_X0_copyFrom l G.2.1 rfl eM9.symm (hv.2 _ g4) (hv.2 _ g6) g5 rfl k7) (qw_rcS (hv.2 _ g4)) gX2_record_X0_copyFrom rfl ⟨rfl, rfl⟩ e_X0_copyFrom ⟨Nat.le_of_ble_eq_true rfl, Nat.le_of_ble_eq_true rfl⟩ rfl hl.1 rfl (Nat.le_of_ble_eq_true rfl) ⟨Nat.zero_le _, Nat.zero_le _⟩ dX2_record_22 (fun H locs hP hS => ?_)
  refine lv_aload_n F.1 F.2.1 dX2_record_25 rfl (lv_at hl 0 rfl) ?_
  refine lv_dup F.1 F.2.1 dX2_record_26 rfl ?_
  obtain ⟨z10, ez10, hf⟩ := qn_x hf
  refine qr_gR F G hv.1 (fun w h => F.2.2.2.2 w (List.mem_cons_of_mem _ (List.mem_append_left _ (List.mem_append_right _ h)))) hP rfl (List.mem_of_getElem? (i := 1) rfl) ez10 dX2_record_27 ?_
  refine lv_iconst (v := (nI 1)) F.1 F.2.1 dX2_record_30 (by decide) ?_
  obtain ⟨z11, ez11, hf⟩ := qn_x hf
  refine qr_iadd F ez11 dX2_record_31 ?_
  obtain ⟨M12, eM12, hf⟩ := qn_x hf
  refine qr_pR F G hv.1 (fun w h => F.2.2.2.2 w (List.mem_cons_of_mem _ (List.mem_append_left _ (List.mem_append_right _ h)))) hP hS rfl (List.mem_of_getElem? (i := 1) rfl) eM12.symm dX2_record_32 (fun H locs hP hS => ?_)
  obtain ⟨e8, e7⟩ := qs2 hf
  subst e8
  subst e7
  exact hQ _ _ _ _ hP hS dX2_record_35
set_option maxRecDepth 100000 in
set_option maxHeartbeats 4000000 in
theorem qb_X2_record {p : Program} {l : Launch} {e : Env} {s : State} {mi : MethodId} {args : Array Value} {below : List Frame} {meth : Method} {co : Code} {Q : State → Prop} {L : wL} {M9 : wM} {h9 : Nat → Nat} {o : Nat} (F : CallFix p mi co cX2_record 2 s args wsX2_record RX2) (G : qw_G L (qw_A L) s) (hv : qw_R L) (hQ : qw_RV p l e rm_X2_record s mi args below meth co cX2_record Q L M9 h9) : ∀ (M : wM) (h : (Nat → Nat)) (H : Heap) (locs : List Loc) (ls : Array Slot), qf_X2_record o M h = some (M9, h9) → qw_P L M h H → va_S (qw_A L) s.heap H locs → lv_has ls 2 [(0, .ref (qw_ad L 8 0)), (1, .ref (qw_ad L o 0))] → W p l e rm_X2_record s mi args below meth co H locs 0 0 Q (F0 mi 0 ls []) := by
  intro M h H locs ls hf hP hS hl
  unfold qf_X2_record at hf
  refine lv_aload_n F.1 F.2.1 dX2_record_0 rfl (lv_at hl 0 rfl) ?_
  obtain ⟨z1, ez1, hf⟩ := qn_x hf
  refine qr_gR F G hv.1 (fun w h => F.2.2.2.2 w (List.mem_cons_of_mem _ (List.mem_append_left _ (List.mem_append_right _ h)))) hP rfl (List.mem_of_getElem? (i := 1) rfl) ez1 dX2_record_1 ?_
  refine lv_iconst (v := (nI 5)) F.1 F.2.1 dX2_record_4 (by decide) ?_
  refine lv_icmp_ne (tgt := 12) F.1 F.2.1 dX2_record_5 (by decide) (fun c2 => ?_) (fun c2 => ?_)
  · replace hf := qi_f c2 hf
    exact qb_X2_record_12 F G hv hQ _ _ _ _ _ hf hP hS (lv_sub hl [0, 1] rfl)
  · replace hf := qi_t c2 hf
    refine lv_aload_n F.1 F.2.1 dX2_record_8 rfl (lv_at hl 0 rfl) ?_
    obtain ⟨M4, h5, k3, hf⟩ := qb2_x hf
    refine qr_cVv F G hP hS (qc_X2_dropOldest l G.2.1 hv k3) (qw_rcR hv.1) gX2_record_X2_dropOldest rfl ⟨rfl, rfl⟩ e_X2_dropOldest ⟨Nat.le_of_ble_eq_true rfl, Nat.le_of_ble_eq_true rfl⟩ rfl hl.1 rfl (Nat.le_of_ble_eq_true rfl) ⟨Nat.zero_le _, Nat.zero_le _⟩ dX2_record_9 (fun H locs hP hS => ?_)
    exact qb_X2_record_12 F G hv hQ _ _ _ _ _ hf hP hS (lv_sub hl [0, 1] rfl)
set_option maxRecDepth 100000 in
set_option maxHeartbeats 4000000 in
theorem qc_X2_record (l : Launch) {L : wL} (hJ : qw_J L) {o : Nat} {M M9 : wM} {h h9 : Nat → Nat} (hv : qw_R L) (hf : qf_X2_record o M h = some (M9, h9)) : qw_MV l yX2_record wsX2_record rm_X2_record L (.ref (qw_ad L 8 0) :: [.ref (qw_ad L o 0)]) M h M9 h9 := by
  refine qw_MV_of (cc := cX2_record) (maxL := 2) (by decide) rfl hJ (Nat.le_of_ble_eq_true rfl) ?_
  intro p e s mi below meth co Q ls F G hP hQ hl
  exact qb_X2_record F G hv hQ _ _ _ _ _ hf hP va_S.rf hl
def rm_X2_takeAsAction : Room := { frames := 4, cells := 0, slots := 0, locals := 111 }
theorem e_X2_takeAsAction : qw_hd yX2_takeAsAction RX2 3 := by decide +kernel
set_option maxRecDepth 100000 in
set_option maxHeartbeats 4000000 in
theorem qb_X2_takeAsAction {p : Program} {l : Launch} {e : Env} {s : State} {mi : MethodId} {args : Array Value} {below : List Frame} {meth : Method} {co : Code} {Q : State → Prop} {L : wL} {M9 : wM} {h9 : Nat → Nat} {r : Int32} (F : CallFix p mi co cX2_takeAsAction 5 s args wsX2_takeAsAction RX2) (G : qw_G L (qw_A L) s) (hv : qw_R L) (hQ : qw_RI p l e rm_X2_takeAsAction s mi args below meth co cX2_takeAsAction .int Q L r M9 h9) : ∀ (x1 : Int32) (x2 : Int32) (x3 : Int32) (M : wM) (h : (Nat → Nat)) (H : Heap) (locs : List Loc) (ls : Array Slot), qf_X2_takeAsAction x1 x2 x3 M h = some (r, M9, h9) → qw_P L M h H → va_S (qw_A L) s.heap H locs → lv_has ls 5 [(0, .ref (qw_ad L 8 0)), (1, .int x1), (2, .int x2), (3, .int x3)] → W p l e rm_X2_takeAsAction s mi args below meth co H locs 0 0 Q (F0 mi 0 ls []) := by
  intro x1 x2 x3 M h H locs ls hf hP hS hl
  unfold qf_X2_takeAsAction at hf
  refine lv_aload_n F.1 F.2.1 dX2_takeAsAction_0 rfl (lv_at hl 0 rfl) ?_
  refine qr_gRr F G hv.1 (fun w h => F.2.2.2.2 w (List.mem_cons_of_mem _ (List.mem_append_left _ (List.mem_append_right _ h)))) hP 1 1 0 (by decide) (List.mem_of_getElem? (i := 1) rfl) dX2_takeAsAction_1 ?_
  refine lv_aload_n F.1 F.2.1 dX2_takeAsAction_4 rfl (lv_at hl 0 rfl) ?_
  refine qr_gRr F G hv.1 (fun w h => F.2.2.2.2 w (List.mem_cons_of_mem _ (List.mem_append_left _ (List.mem_append_right _ h)))) hP 0 0 0 (by decide) (List.mem_of_getElem? (i := 2) rfl) dX2_takeAsAction_5 ?_
  obtain ⟨m2, k1, hf⟩ := qb1_x hf
  obtain ⟨M3, eM3, hf⟩ := qn_x hf
  refine qr_cVv F G hP hS (qc_X0_copyFrom l G.2.1 rfl eM3.symm (hv.2 _ (by decide : 1 < 8)) (hv.2 _ (by decide : 0 < 8)) (by decide) rfl k1) (qw_rcS (hv.2 _ (by decide : 1 < 8))) gX2_takeAsAction_X0_copyFrom rfl ⟨rfl, rfl⟩ e_X0_copyFrom ⟨Nat.le_of_ble_eq_true rfl, Nat.le_of_ble_eq_true rfl⟩ rfl hl.1 rfl (Nat.le_of_ble_eq_true rfl) ⟨Nat.zero_le _, Nat.zero_le _⟩ dX2_takeAsAction_8 (fun H locs hP hS => ?_)
  refine lv_aload_n F.1 F.2.1 dX2_takeAsAction_11 rfl (lv_at hl 0 rfl) ?_
  refine qr_gRr F G hv.1 (fun w h => F.2.2.2.2 w (List.mem_cons_of_mem _ (List.mem_append_left _ (List.mem_append_right _ h)))) hP 0 0 0 (by decide) (List.mem_of_getElem? (i := 2) rfl) dX2_takeAsAction_12 ?_
  refine lv_iload_n F.1 F.2.1 dX2_takeAsAction_15 rfl (lv_at hl 1 rfl) ?_
  refine lv_iload_n F.1 F.2.1 dX2_takeAsAction_16 rfl (lv_at hl 2 rfl) ?_
  refine lv_iload_n F.1 F.2.1 dX2_takeAsAction_17 rfl (lv_at hl 3 rfl) ?_
  obtain ⟨r4, m6, k5, hf⟩ := qb2_x hf
  obtain ⟨M7, eM7, hf⟩ := qn_x hf
  refine qr_cVi F G hP hS (qc_X0_take l G.2.1 rfl eM7.symm (hv.2 _ (by decide : 0 < 8)) k5) (qw_rcS (hv.2 _ (by decide : 0 < 8))) gX2_takeAsAction_X0_take rfl ⟨rfl, rfl⟩ e_X0_take ⟨Nat.le_of_ble_eq_true rfl, Nat.le_of_ble_eq_true rfl⟩ rfl hl.1 rfl (Nat.le_of_ble_eq_true rfl) ⟨Nat.zero_le _, Nat.zero_le _⟩ dX2_takeAsAction_18 (fun H locs hP hS => ?_)
  refine lv_istore (lv' := [(4, .int r4), (0, .ref (qw_ad L 8 0)), (1, .int x1), (2, .int x2), (3, .int x3)]) F.1 F.2.1 dX2_takeAsAction_21 hl (by decide) rfl (fun ls hl => ?_)
  refine lv_iload F.1 F.2.1 dX2_takeAsAction_23 (lv_at hl 0 rfl) ?_
  refine lv_if_lt (tgt := 36) F.1 F.2.1 dX2_takeAsAction_25 (by decide) (fun c8 => ?_) (fun c8 => ?_)
  · replace hf := qi_t c8 hf
    refine lv_iload F.1 F.2.1 dX2_takeAsAction_36 (lv_at hl 0 rfl) ?_
    obtain ⟨e9, e8, e7⟩ := qs3 hf
    subst e9
    subst e8
    subst e7
    exact hQ _ _ _ _ hP hS rfl dX2_takeAsAction_38
  · replace hf := qi_f c8 hf
    refine lv_aload_n F.1 F.2.1 dX2_takeAsAction_28 rfl (lv_at hl 1 rfl) ?_
    refine lv_aload_n F.1 F.2.1 dX2_takeAsAction_29 rfl (lv_at hl 1 rfl) ?_
    refine qr_gRr F G hv.1 (fun w h => F.2.2.2.2 w (List.mem_cons_of_mem _ (List.mem_append_left _ (List.mem_append_right _ h)))) hP 1 1 0 (by decide) (List.mem_of_getElem? (i := 1) rfl) dX2_takeAsAction_30 ?_
    obtain ⟨M10, h11, k9, hf⟩ := qb2_x hf
    refine qr_cVv F G hP hS (qc_X2_record l G.2.1 hv k9) (qw_rcR hv.1) gX2_takeAsAction_X2_record rfl ⟨rfl, rfl⟩ e_X2_record ⟨Nat.le_of_ble_eq_true rfl, Nat.le_of_ble_eq_true rfl⟩ rfl hl.1 rfl (Nat.le_of_ble_eq_true rfl) ⟨Nat.zero_le _, Nat.zero_le _⟩ dX2_takeAsAction_33 (fun H locs hP hS => ?_)
    refine lv_iload F.1 F.2.1 dX2_takeAsAction_36 (lv_at hl 0 rfl) ?_
    obtain ⟨e9, e8, e7⟩ := qs3 hf
    subst e9
    subst e8
    subst e7
    exact hQ _ _ _ _ hP hS rfl dX2_takeAsAction_38
set_option maxRecDepth 100000 in
set_option maxHeartbeats 4000000 in
theorem qc_X2_takeAsAction (l : Launch) {L : wL} (hJ : qw_J L) {M M9 : wM} {h h9 : Nat → Nat} {x1 : Int32} {x2 : Int32} {x3 : Int32} {r : Int32} (hv : qw_R L) (hf : qf_X2_takeAsAction x1 x2 x3 M h = some (r, M9, h9)) : qw_MI l yX2_takeAsAction wsX2_takeAsAction rm_X2_takeAsAction L (.ref (qw_ad L 8 0) :: [.int x1, .int x2, .int x3]) M h r M9 h9 := by
  refine qw_MI_of (cc := cX2_takeAsAction) (maxL := 5) (ty := .int) (by decide) rfl hJ (Nat.le_of_ble_eq_true rfl) ?_
  intro p e s mi below meth co Q ls F G hP hQ hl
  exact qb_X2_takeAsAction F G hv hQ _ _ _ _ _ _ _ _ hf hP va_S.rf hl
def rm_X2_call : Room := { frames := 5, cells := 0, slots := 0, locals := 135 }
theorem e_X2_call : qw_hd yX2_call RX2 2 := by decide +kernel
set_option maxRecDepth 100000 in
set_option maxHeartbeats 4000000 in
theorem qb_X2_call {p : Program} {l : Launch} {e : Env} {s : State} {mi : MethodId} {args : Array Value} {below : List Frame} {meth : Method} {co : Code} {Q : State → Prop} {L : wL} {M9 : wM} {h9 : Nat → Nat} {r : Int32} (F : CallFix p mi co cX2_call 3 s args wsX2_call RX2) (G : qw_G L (qw_A L) s) (hv : qw_R L) (hQ : qw_RI p l e rm_X2_call s mi args below meth co cX2_call .int Q L r M9 h9) : ∀ (x1 : Int32) (x2 : Int32) (M : wM) (h : (Nat → Nat)) (H : Heap) (locs : List Loc) (ls : Array Slot), qf_X2_call x1 x2 M h = some (r, M9, h9) → qw_P L M h H → va_S (qw_A L) s.heap H locs → lv_has ls 3 [(0, .ref (qw_ad L 8 0)), (1, .int x1), (2, .int x2)] → W p l e rm_X2_call s mi args below meth co H locs 0 0 Q (F0 mi 0 ls []) := by
  intro x1 x2 M h H locs ls hf hP hS hl
  unfold qf_X2_call at hf
  refine lv_aload_n F.1 F.2.1 dX2_call_0 rfl (lv_at hl 0 rfl) ?_
  refine lv_iconst (v := (nI 0)) F.1 F.2.1 dX2_call_1 (by decide) ?_
  refine lv_iload_n F.1 F.2.1 dX2_call_2 rfl (lv_at hl 1 rfl) ?_
  refine lv_iload_n F.1 F.2.1 dX2_call_3 rfl (lv_at hl 2 rfl) ?_
  obtain ⟨r1, M3, h4, k2, hf⟩ := qb3_x hf
  refine qr_cVi F G hP hS (qc_X2_takeAsAction l G.2.1 hv k2) (qw_rcR hv.1) gX2_call_X2_takeAsAction rfl ⟨rfl, rfl⟩ e_X2_takeAsAction ⟨Nat.le_of_ble_eq_true rfl, Nat.le_of_ble_eq_true rfl⟩ rfl hl.1 rfl (Nat.le_of_ble_eq_true rfl) ⟨Nat.zero_le _, Nat.zero_le _⟩ dX2_call_4 (fun H locs hP hS => ?_)
  obtain ⟨e9, e8, e7⟩ := qs3 hf
  subst e9
  subst e8
  subst e7
  exact hQ _ _ _ _ hP hS rfl dX2_call_7
set_option maxRecDepth 100000 in
set_option maxHeartbeats 4000000 in
theorem qc_X2_call (l : Launch) {L : wL} (hJ : qw_J L) {M M9 : wM} {h h9 : Nat → Nat} {x1 : Int32} {x2 : Int32} {r : Int32} (hv : qw_R L) (hf : qf_X2_call x1 x2 M h = some (r, M9, h9)) : qw_MI l yX2_call wsX2_call rm_X2_call L (.ref (qw_ad L 8 0) :: [.int x1, .int x2]) M h r M9 h9 := by
  refine qw_MI_of (cc := cX2_call) (maxL := 3) (ty := .int) (by decide) rfl hJ (Nat.le_of_ble_eq_true rfl) ?_
  intro p e s mi below meth co Q ls F G hP hQ hl
  exact qb_X2_call F G hv hQ _ _ _ _ _ _ _ hf hP va_S.rf hl
def rm_X2_tail : Room := { frames := 5, cells := 0, slots := 0, locals := 135 }
theorem e_X2_tail : qw_hd yX2_tail RX2 1 := by decide +kernel
set_option maxRecDepth 100000 in
set_option maxHeartbeats 4000000 in
theorem qb_X2_tail {p : Program} {l : Launch} {e : Env} {s : State} {mi : MethodId} {args : Array Value} {below : List Frame} {meth : Method} {co : Code} {Q : State → Prop} {L : wL} {M9 : wM} {h9 : Nat → Nat} {r : Int32} (F : CallFix p mi co cX2_tail 2 s args wsX2_tail RX2) (G : qw_G L (qw_A L) s) (hv : qw_R L) (hQ : qw_RI p l e rm_X2_tail s mi args below meth co cX2_tail .int Q L r M9 h9) : ∀ (x1 : Int32) (M : wM) (h : (Nat → Nat)) (H : Heap) (locs : List Loc) (ls : Array Slot), qf_X2_tail x1 M h = some (r, M9, h9) → qw_P L M h H → va_S (qw_A L) s.heap H locs → lv_has ls 2 [(0, .ref (qw_ad L 8 0)), (1, .int x1)] → W p l e rm_X2_tail s mi args below meth co H locs 0 0 Q (F0 mi 0 ls []) := by
  intro x1 M h H locs ls hf hP hS hl
  unfold qf_X2_tail at hf
  refine lv_aload_n F.1 F.2.1 dX2_tail_0 rfl (lv_at hl 0 rfl) ?_
  refine lv_iconst (v := (nI 1)) F.1 F.2.1 dX2_tail_1 (by decide) ?_
  refine lv_iload_n F.1 F.2.1 dX2_tail_2 rfl (lv_at hl 1 rfl) ?_
  refine lv_iconst (v := (nI 0)) F.1 F.2.1 dX2_tail_3 (by decide) ?_
  obtain ⟨r1, M3, h4, k2, hf⟩ := qb3_x hf
  refine qr_cVi F G hP hS (qc_X2_takeAsAction l G.2.1 hv k2) (qw_rcR hv.1) gX2_tail_X2_takeAsAction rfl ⟨rfl, rfl⟩ e_X2_takeAsAction ⟨Nat.le_of_ble_eq_true rfl, Nat.le_of_ble_eq_true rfl⟩ rfl hl.1 rfl (Nat.le_of_ble_eq_true rfl) ⟨Nat.zero_le _, Nat.zero_le _⟩ dX2_tail_4 (fun H locs hP hS => ?_)
  obtain ⟨e9, e8, e7⟩ := qs3 hf
  subst e9
  subst e8
  subst e7
  exact hQ _ _ _ _ hP hS rfl dX2_tail_7
set_option maxRecDepth 100000 in
set_option maxHeartbeats 4000000 in
theorem qc_X2_tail (l : Launch) {L : wL} (hJ : qw_J L) {M M9 : wM} {h h9 : Nat → Nat} {x1 : Int32} {r : Int32} (hv : qw_R L) (hf : qf_X2_tail x1 M h = some (r, M9, h9)) : qw_MI l yX2_tail wsX2_tail rm_X2_tail L (.ref (qw_ad L 8 0) :: [.int x1]) M h r M9 h9 := by
  refine qw_MI_of (cc := cX2_tail) (maxL := 2) (ty := .int) (by decide) rfl hJ (Nat.le_of_ble_eq_true rfl) ?_
  intro p e s mi below meth co Q ls F G hP hQ hl
  exact qb_X2_tail F G hv hQ _ _ _ _ _ _ hf hP va_S.rf hl
def rm_X2_ret : Room := { frames := 5, cells := 0, slots := 0, locals := 135 }
theorem e_X2_ret : qw_hd yX2_ret RX2 0 := by decide +kernel
set_option maxRecDepth 100000 in
set_option maxHeartbeats 4000000 in
theorem qb_X2_ret {p : Program} {l : Launch} {e : Env} {s : State} {mi : MethodId} {args : Array Value} {below : List Frame} {meth : Method} {co : Code} {Q : State → Prop} {L : wL} {M9 : wM} {h9 : Nat → Nat} {r : Int32} (F : CallFix p mi co cX2_ret 1 s args wsX2_ret RX2) (G : qw_G L (qw_A L) s) (hv : qw_R L) (hQ : qw_RI p l e rm_X2_ret s mi args below meth co cX2_ret .int Q L r M9 h9) : ∀ (M : wM) (h : (Nat → Nat)) (H : Heap) (locs : List Loc) (ls : Array Slot), qf_X2_ret M h = some (r, M9, h9) → qw_P L M h H → va_S (qw_A L) s.heap H locs → lv_has ls 1 [(0, .ref (qw_ad L 8 0))] → W p l e rm_X2_ret s mi args below meth co H locs 0 0 Q (F0 mi 0 ls []) := by
  intro M h H locs ls hf hP hS hl
  unfold qf_X2_ret at hf
  refine lv_aload_n F.1 F.2.1 dX2_ret_0 rfl (lv_at hl 0 rfl) ?_
  refine lv_iconst (v := (nI 2)) F.1 F.2.1 dX2_ret_1 (by decide) ?_
  refine lv_iconst (v := (nI 0)) F.1 F.2.1 dX2_ret_2 (by decide) ?_
  refine lv_iconst (v := (nI 0)) F.1 F.2.1 dX2_ret_3 (by decide) ?_
  obtain ⟨r1, M3, h4, k2, hf⟩ := qb3_x hf
  refine qr_cVi F G hP hS (qc_X2_takeAsAction l G.2.1 hv k2) (qw_rcR hv.1) gX2_ret_X2_takeAsAction rfl ⟨rfl, rfl⟩ e_X2_takeAsAction ⟨Nat.le_of_ble_eq_true rfl, Nat.le_of_ble_eq_true rfl⟩ rfl hl.1 rfl (Nat.le_of_ble_eq_true rfl) ⟨Nat.zero_le _, Nat.zero_le _⟩ dX2_ret_4 (fun H locs hP hS => ?_)
  obtain ⟨e9, e8, e7⟩ := qs3 hf
  subst e9
  subst e8
  subst e7
  exact hQ _ _ _ _ hP hS rfl dX2_ret_7
set_option maxRecDepth 100000 in
set_option maxHeartbeats 4000000 in
theorem qc_X2_ret (l : Launch) {L : wL} (hJ : qw_J L) {M M9 : wM} {h h9 : Nat → Nat} {r : Int32} (hv : qw_R L) (hf : qf_X2_ret M h = some (r, M9, h9)) : qw_MI l yX2_ret wsX2_ret rm_X2_ret L (.ref (qw_ad L 8 0) :: []) M h r M9 h9 := by
  refine qw_MI_of (cc := cX2_ret) (maxL := 1) (ty := .int) (by decide) rfl hJ (Nat.le_of_ble_eq_true rfl) ?_
  intro p e s mi below meth co Q ls F G hP hQ hl
  exact qb_X2_ret F G hv hQ _ _ _ _ _ hf hP va_S.rf hl
def rm_X2_raise : Room := { frames := 5, cells := 0, slots := 0, locals := 135 }
theorem e_X2_raise : qw_hd yX2_raise RX2 1 := by decide +kernel
set_option maxRecDepth 100000 in
set_option maxHeartbeats 4000000 in
theorem qb_X2_raise {p : Program} {l : Launch} {e : Env} {s : State} {mi : MethodId} {args : Array Value} {below : List Frame} {meth : Method} {co : Code} {Q : State → Prop} {L : wL} {M9 : wM} {h9 : Nat → Nat} {r : Int32} (F : CallFix p mi co cX2_raise 2 s args wsX2_raise RX2) (G : qw_G L (qw_A L) s) (hv : qw_R L) (hQ : qw_RI p l e rm_X2_raise s mi args below meth co cX2_raise .int Q L r M9 h9) : ∀ (x1 : Int32) (M : wM) (h : (Nat → Nat)) (H : Heap) (locs : List Loc) (ls : Array Slot), qf_X2_raise x1 M h = some (r, M9, h9) → qw_P L M h H → va_S (qw_A L) s.heap H locs → lv_has ls 2 [(0, .ref (qw_ad L 8 0)), (1, .int x1)] → W p l e rm_X2_raise s mi args below meth co H locs 0 0 Q (F0 mi 0 ls []) := by
  intro x1 M h H locs ls hf hP hS hl
  unfold qf_X2_raise at hf
  refine lv_aload_n F.1 F.2.1 dX2_raise_0 rfl (lv_at hl 0 rfl) ?_
  refine lv_iconst (v := (nI 3)) F.1 F.2.1 dX2_raise_1 (by decide) ?_
  refine lv_iconst (v := (nI 0)) F.1 F.2.1 dX2_raise_2 (by decide) ?_
  refine lv_iload_n F.1 F.2.1 dX2_raise_3 rfl (lv_at hl 1 rfl) ?_
  obtain ⟨r1, M3, h4, k2, hf⟩ := qb3_x hf
  refine qr_cVi F G hP hS (qc_X2_takeAsAction l G.2.1 hv k2) (qw_rcR hv.1) gX2_raise_X2_takeAsAction rfl ⟨rfl, rfl⟩ e_X2_takeAsAction ⟨Nat.le_of_ble_eq_true rfl, Nat.le_of_ble_eq_true rfl⟩ rfl hl.1 rfl (Nat.le_of_ble_eq_true rfl) ⟨Nat.zero_le _, Nat.zero_le _⟩ dX2_raise_4 (fun H locs hP hS => ?_)
  obtain ⟨e9, e8, e7⟩ := qs3 hf
  subst e9
  subst e8
  subst e7
  exact hQ _ _ _ _ hP hS rfl dX2_raise_7
set_option maxRecDepth 100000 in
set_option maxHeartbeats 4000000 in
theorem qc_X2_raise (l : Launch) {L : wL} (hJ : qw_J L) {M M9 : wM} {h h9 : Nat → Nat} {x1 : Int32} {r : Int32} (hv : qw_R L) (hf : qf_X2_raise x1 M h = some (r, M9, h9)) : qw_MI l yX2_raise wsX2_raise rm_X2_raise L (.ref (qw_ad L 8 0) :: [.int x1]) M h r M9 h9 := by
  refine qw_MI_of (cc := cX2_raise) (maxL := 2) (ty := .int) (by decide) rfl hJ (Nat.le_of_ble_eq_true rfl) ?_
  intro p e s mi below meth co Q ls F G hP hQ hl
  exact qb_X2_raise F G hv hQ _ _ _ _ _ _ hf hP va_S.rf hl
def rm_X2_setRepair : Room := { frames := 4, cells := 0, slots := 0, locals := 105 }
theorem e_X2_setRepair : qw_hd yX2_setRepair RX2 1 := by decide +kernel
set_option maxRecDepth 100000 in
set_option maxHeartbeats 4000000 in
theorem qb_X2_setRepair {p : Program} {l : Launch} {e : Env} {s : State} {mi : MethodId} {args : Array Value} {below : List Frame} {meth : Method} {co : Code} {Q : State → Prop} {L : wL} {M9 : wM} {h9 : Nat → Nat} {r : Int32} (F : CallFix p mi co cX2_setRepair 3 s args wsX2_setRepair RX2) (G : qw_G L (qw_A L) s) (hv : qw_R L) (hQ : qw_RI p l e rm_X2_setRepair s mi args below meth co cX2_setRepair .int Q L r M9 h9) : ∀ (x1 : Int32) (M : wM) (h : (Nat → Nat)) (H : Heap) (locs : List Loc) (ls : Array Slot), qf_X2_setRepair x1 M h = some (r, M9, h9) → qw_P L M h H → va_S (qw_A L) s.heap H locs → lv_has ls 3 [(0, .ref (qw_ad L 8 0)), (1, .int x1)] → W p l e rm_X2_setRepair s mi args below meth co H locs 0 0 Q (F0 mi 0 ls []) := by
  intro x1 M h H locs ls hf hP hS hl
  unfold qf_X2_setRepair at hf
  refine lv_iload_n F.1 F.2.1 dX2_setRepair_0 rfl (lv_at hl 1 rfl) ?_
  refine lv_if_lt (tgt := 9) F.1 F.2.1 dX2_setRepair_1 (by decide) (fun c1 => ?_) (fun c1 => ?_)
  · replace hf := qi_t c1 hf
    refine lv_iconst (v := (-1 : Int32)) F.1 F.2.1 dX2_setRepair_9 (by decide) ?_
    obtain ⟨e9, e8, e7⟩ := qs3 hf
    subst e9
    subst e8
    subst e7
    exact hQ _ _ _ _ hP hS rfl dX2_setRepair_10
  · replace hf := qi_f c1 hf
    refine lv_iload_n F.1 F.2.1 dX2_setRepair_4 rfl (lv_at hl 1 rfl) ?_
    refine lv_iconst (v := (nI 1)) F.1 F.2.1 dX2_setRepair_5 (by decide) ?_
    refine lv_icmp_le (tgt := 11) F.1 F.2.1 dX2_setRepair_6 (by decide) (fun c2 => ?_) (fun c2 => ?_)
    · replace hf := qi_t c2 hf
      refine lv_aload_n F.1 F.2.1 dX2_setRepair_11 rfl (lv_at hl 0 rfl) ?_
      refine lv_aload_n F.1 F.2.1 dX2_setRepair_12 rfl (lv_at hl 0 rfl) ?_
      refine qr_gRr F G hv.1 (fun w h => F.2.2.2.2 w (List.mem_cons_of_mem _ (List.mem_append_left _ (List.mem_append_right _ h)))) hP 0 0 0 (by decide) (List.mem_of_getElem? (i := 1) rfl) dX2_setRepair_13 ?_
      obtain ⟨M4, h5, k3, hf⟩ := qb2_x hf
      refine qr_cVv F G hP hS (qc_X2_record l G.2.1 hv k3) (qw_rcR hv.1) gX2_setRepair_X2_record rfl ⟨rfl, rfl⟩ e_X2_record ⟨Nat.le_of_ble_eq_true rfl, Nat.le_of_ble_eq_true rfl⟩ rfl hl.1 rfl (Nat.le_of_ble_eq_true rfl) ⟨Nat.zero_le _, Nat.zero_le _⟩ dX2_setRepair_16 (fun H locs hP hS => ?_)
      refine lv_aload_n F.1 F.2.1 dX2_setRepair_19 rfl (lv_at hl 0 rfl) ?_
      refine qr_gRr F G hv.1 (fun w h => F.2.2.2.2 w (List.mem_cons_of_mem _ (List.mem_append_left _ (List.mem_append_right _ h)))) hP 0 0 0 (by decide) (List.mem_of_getElem? (i := 1) rfl) dX2_setRepair_20 ?_
      obtain ⟨z6, ez6, hf⟩ := qn_x hf
      refine qr_gS F G (fun w h => F.2.2.2.2 w (List.mem_cons_of_mem _ (List.mem_append_right _ h))) hP (hv.2 _ (by decide : 0 < 8)) rfl 0 (by decide) (List.mem_of_getElem? (i := 2) rfl) ez6 dX2_setRepair_23 ?_
      refine lv_istore_n (lv' := [(2, .int z6), (0, .ref (qw_ad L 8 0)), (1, .int x1)]) F.1 F.2.1 dX2_setRepair_26 rfl hl (by decide) rfl (fun ls hl => ?_)
      refine lv_aload_n F.1 F.2.1 dX2_setRepair_27 rfl (lv_at hl 1 rfl) ?_
      refine qr_gRr F G hv.1 (fun w h => F.2.2.2.2 w (List.mem_cons_of_mem _ (List.mem_append_left _ (List.mem_append_right _ h)))) hP 0 0 0 (by decide) (List.mem_of_getElem? (i := 1) rfl) dX2_setRepair_28 ?_
      refine lv_iload_n F.1 F.2.1 dX2_setRepair_31 rfl (lv_at hl 2 rfl) ?_
      obtain ⟨M7, eM7, hf⟩ := qn_x hf
      refine qr_pS F G (fun w h => F.2.2.2.2 w (List.mem_cons_of_mem _ (List.mem_append_right _ h))) hP hS (hv.2 _ (by decide : 0 < 8)) rfl 0 (by decide) (List.mem_of_getElem? (i := 2) rfl) eM7.symm dX2_setRepair_32 (fun H locs hP hS => ?_)
      refine lv_iload_n F.1 F.2.1 dX2_setRepair_35 rfl (lv_at hl 0 rfl) ?_
      obtain ⟨e9, e8, e7⟩ := qs3 hf
      subst e9
      subst e8
      subst e7
      exact hQ _ _ _ _ hP hS rfl dX2_setRepair_36
    · replace hf := qi_f c2 hf
      refine lv_iconst (v := (-1 : Int32)) F.1 F.2.1 dX2_setRepair_9 (by decide) ?_
      obtain ⟨e9, e8, e7⟩ := qs3 hf
      subst e9
      subst e8
      subst e7
      exact hQ _ _ _ _ hP hS rfl dX2_setRepair_10
set_option maxRecDepth 100000 in
set_option maxHeartbeats 4000000 in
theorem qc_X2_setRepair (l : Launch) {L : wL} (hJ : qw_J L) {M M9 : wM} {h h9 : Nat → Nat} {x1 : Int32} {r : Int32} (hv : qw_R L) (hf : qf_X2_setRepair x1 M h = some (r, M9, h9)) : qw_MI l yX2_setRepair wsX2_setRepair rm_X2_setRepair L (.ref (qw_ad L 8 0) :: [.int x1]) M h r M9 h9 := by
  refine qw_MI_of (cc := cX2_setRepair) (maxL := 3) (ty := .int) (by decide) rfl hJ (Nat.le_of_ble_eq_true rfl) ?_
  intro p e s mi below meth co Q ls F G hP hQ hl
  exact qb_X2_setRepair F G hv hQ _ _ _ _ _ _ hf hP va_S.rf hl
def rm_X2_isSize : Room := { frames := 0, cells := 0, slots := 0, locals := 0 }
theorem e_X2_isSize : qw_hd yX2_isSize RX2 1 := by decide +kernel
set_option maxRecDepth 100000 in
set_option maxHeartbeats 4000000 in
theorem qb_X2_isSize {p : Program} {l : Launch} {e : Env} {s : State} {mi : MethodId} {args : Array Value} {below : List Frame} {meth : Method} {co : Code} {Q : State → Prop} {L : wL} {X : wM} {h : Nat → Nat} {r : Int32} (F : CallFix p mi co cX2_isSize 1 s args wsX2_isSize RX2) (G : qw_G L (qw_A L) s) (hQ : qw_RI p l e rm_X2_isSize s mi args below meth co cX2_isSize .boolean Q L r X h) : ∀ (x0 : Int32) (H : Heap) (locs : List Loc) (ls : Array Slot), qf_X2_isSize x0 = some r → qw_P L X h H → va_S (qw_A L) s.heap H locs → lv_has ls 1 [(0, .int x0)] → W p l e rm_X2_isSize s mi args below meth co H locs 0 0 Q (F0 mi 0 ls []) := by
  intro x0 H locs ls hf hP hS hl
  unfold qf_X2_isSize at hf
  refine lv_iload_n F.1 F.2.1 dX2_isSize_0 rfl (lv_at hl 0 rfl) ?_
  refine lv_iconst (v := (nI 2)) F.1 F.2.1 dX2_isSize_1 (by decide) ?_
  refine lv_icmp_lt (tgt := 15) F.1 F.2.1 dX2_isSize_2 (by decide) (fun c1 => ?_) (fun c1 => ?_)
  · replace hf := qi_t c1 hf
    refine lv_iconst (v := (nI 0)) F.1 F.2.1 dX2_isSize_15 (by decide) ?_
    have e9 := qs1 hf
    subst e9
    exact hQ _ _ _ _ hP hS rfl dX2_isSize_16
  · replace hf := qi_f c1 hf
    refine lv_iload_n F.1 F.2.1 dX2_isSize_5 rfl (lv_at hl 0 rfl) ?_
    refine lv_bipush (v := (nI 16)) F.1 F.2.1 dX2_isSize_6 (by decide) ?_
    refine lv_icmp_gt (tgt := 15) F.1 F.2.1 dX2_isSize_8 (by decide) (fun c2 => ?_) (fun c2 => ?_)
    · replace hf := qi_t c2 hf
      refine lv_iconst (v := (nI 0)) F.1 F.2.1 dX2_isSize_15 (by decide) ?_
      have e9 := qs1 hf
      subst e9
      exact hQ _ _ _ _ hP hS rfl dX2_isSize_16
    · replace hf := qi_f c2 hf
      refine lv_iconst (v := (nI 1)) F.1 F.2.1 dX2_isSize_11 (by decide) ?_
      refine lv_goto (tgt := 16) F.1 F.2.1 dX2_isSize_12 (by decide) ?_
      have e9 := qs1 hf
      subst e9
      exact hQ _ _ _ _ hP hS rfl dX2_isSize_16
set_option maxRecDepth 100000 in
set_option maxHeartbeats 4000000 in
theorem qc_X2_isSize (l : Launch) {L : wL} (hJ : qw_J L) {X : wM} {h : Nat → Nat} {x0 : Int32} {r : Int32} (hf : qf_X2_isSize x0 = some r) : qw_MI l yX2_isSize wsX2_isSize rm_X2_isSize L [.int x0] X h r X h := by
  refine qw_MI_of (cc := cX2_isSize) (maxL := 1) (ty := .boolean) (by decide) rfl hJ (Nat.le_of_ble_eq_true rfl) ?_
  intro p e s mi below meth co Q ls F G hP hQ hl
  exact qb_X2_isSize F G  hQ _ _ _ _ hf hP va_S.rf hl
def rm_X2_begin : Room := { frames := 4, cells := 0, slots := 0, locals := 105 }
theorem e_X2_begin : qw_hd yX2_begin RX2 1 := by decide +kernel
set_option maxRecDepth 100000 in
set_option maxHeartbeats 4000000 in
theorem qb_X2_begin {p : Program} {l : Launch} {e : Env} {s : State} {mi : MethodId} {args : Array Value} {below : List Frame} {meth : Method} {co : Code} {Q : State → Prop} {L : wL} {M9 : wM} {h9 : Nat → Nat} {r : Int32} (F : CallFix p mi co cX2_begin 3 s args wsX2_begin RX2) (G : qw_G L (qw_A L) s) (hv : qw_R L) (hQ : qw_RI p l e rm_X2_begin s mi args below meth co cX2_begin .int Q L r M9 h9) : ∀ (x1 : Int32) (M : wM) (h : (Nat → Nat)) (H : Heap) (locs : List Loc) (ls : Array Slot), qf_X2_begin x1 M h = some (r, M9, h9) → qw_P L M h H → va_S (qw_A L) s.heap H locs → lv_has ls 3 [(0, .ref (qw_ad L 8 0)), (1, .int x1)] → W p l e rm_X2_begin s mi args below meth co H locs 0 0 Q (F0 mi 0 ls []) := by
  intro x1 M h H locs ls hf hP hS hl
  unfold qf_X2_begin at hf
  refine lv_iload_n F.1 F.2.1 dX2_begin_0 rfl (lv_at hl 1 rfl) ?_
  obtain ⟨r1, k2, hf⟩ := qb1_x hf
  refine qr_cSi F G hP hS (qc_X2_isSize l G.2.1 k2) gX2_begin_X2_isSize rfl ⟨rfl, rfl⟩ e_X2_isSize ⟨Nat.le_of_ble_eq_true rfl, Nat.le_of_ble_eq_true rfl⟩ rfl hl.1 rfl (Nat.le_of_ble_eq_true rfl) ⟨Nat.zero_le _, Nat.zero_le _⟩ dX2_begin_1 (fun H locs hP hS => ?_)
  refine lv_if_ne (tgt := 9) F.1 F.2.1 dX2_begin_4 (by decide) (fun c3 => ?_) (fun c3 => ?_)
  · replace hf := qi_f c3 hf
    refine lv_aload_n F.1 F.2.1 dX2_begin_9 rfl (lv_at hl 0 rfl) ?_
    refine lv_aload_n F.1 F.2.1 dX2_begin_10 rfl (lv_at hl 0 rfl) ?_
    refine qr_gRr F G hv.1 (fun w h => F.2.2.2.2 w (List.mem_cons_of_mem _ (List.mem_append_left _ (List.mem_append_right _ h)))) hP 0 0 0 (by decide) (List.mem_of_getElem? (i := 1) rfl) dX2_begin_11 ?_
    obtain ⟨M5, h6, k4, hf⟩ := qb2_x hf
    refine qr_cVv F G hP hS (qc_X2_record l G.2.1 hv k4) (qw_rcR hv.1) gX2_begin_X2_record rfl ⟨rfl, rfl⟩ e_X2_record ⟨Nat.le_of_ble_eq_true rfl, Nat.le_of_ble_eq_true rfl⟩ rfl hl.1 rfl (Nat.le_of_ble_eq_true rfl) ⟨Nat.zero_le _, Nat.zero_le _⟩ dX2_begin_14 (fun H locs hP hS => ?_)
    refine lv_aload_n F.1 F.2.1 dX2_begin_17 rfl (lv_at hl 0 rfl) ?_
    refine qr_gRr F G hv.1 (fun w h => F.2.2.2.2 w (List.mem_cons_of_mem _ (List.mem_append_left _ (List.mem_append_right _ h)))) hP 0 0 0 (by decide) (List.mem_of_getElem? (i := 1) rfl) dX2_begin_18 ?_
    obtain ⟨z7, ez7, hf⟩ := qn_x hf
    refine qr_gS F G (fun w h => F.2.2.2.2 w (List.mem_cons_of_mem _ (List.mem_append_right _ h))) hP (hv.2 _ (by decide : 0 < 8)) rfl 1 (by decide) (List.mem_of_getElem? (i := 2) rfl) ez7 dX2_begin_21 ?_
    refine lv_istore_n (lv' := [(2, .int z7), (0, .ref (qw_ad L 8 0)), (1, .int x1)]) F.1 F.2.1 dX2_begin_24 rfl hl (by decide) rfl (fun ls hl => ?_)
    refine lv_aload_n F.1 F.2.1 dX2_begin_25 rfl (lv_at hl 1 rfl) ?_
    refine qr_gRr F G hv.1 (fun w h => F.2.2.2.2 w (List.mem_cons_of_mem _ (List.mem_append_left _ (List.mem_append_right _ h)))) hP 0 0 0 (by decide) (List.mem_of_getElem? (i := 1) rfl) dX2_begin_26 ?_
    refine lv_iload_n F.1 F.2.1 dX2_begin_29 rfl (lv_at hl 2 rfl) ?_
    obtain ⟨m9, k8, hf⟩ := qb1_x hf
    obtain ⟨M10, eM10, hf⟩ := qn_x hf
    refine qr_cVv F G hP hS (qc_X0_beginAnew l G.2.1 rfl eM10.symm (hv.2 _ (by decide : 0 < 8)) k8) (qw_rcS (hv.2 _ (by decide : 0 < 8))) gX2_begin_X0_beginAnew rfl ⟨rfl, rfl⟩ e_X0_beginAnew ⟨Nat.le_of_ble_eq_true rfl, Nat.le_of_ble_eq_true rfl⟩ rfl hl.1 rfl (Nat.le_of_ble_eq_true rfl) ⟨Nat.zero_le _, Nat.zero_le _⟩ dX2_begin_30 (fun H locs hP hS => ?_)
    refine lv_iload_n F.1 F.2.1 dX2_begin_33 rfl (lv_at hl 0 rfl) ?_
    obtain ⟨e9, e8, e7⟩ := qs3 hf
    subst e9
    subst e8
    subst e7
    exact hQ _ _ _ _ hP hS rfl dX2_begin_34
  · replace hf := qi_t c3 hf
    refine lv_iconst (v := (-1 : Int32)) F.1 F.2.1 dX2_begin_7 (by decide) ?_
    obtain ⟨e9, e8, e7⟩ := qs3 hf
    subst e9
    subst e8
    subst e7
    exact hQ _ _ _ _ hP hS rfl dX2_begin_8
set_option maxRecDepth 100000 in
set_option maxHeartbeats 4000000 in
theorem qc_X2_begin (l : Launch) {L : wL} (hJ : qw_J L) {M M9 : wM} {h h9 : Nat → Nat} {x1 : Int32} {r : Int32} (hv : qw_R L) (hf : qf_X2_begin x1 M h = some (r, M9, h9)) : qw_MI l yX2_begin wsX2_begin rm_X2_begin L (.ref (qw_ad L 8 0) :: [.int x1]) M h r M9 h9 := by
  refine qw_MI_of (cc := cX2_begin) (maxL := 3) (ty := .int) (by decide) rfl hJ (Nat.le_of_ble_eq_true rfl) ?_
  intro p e s mi below meth co Q ls F G hP hQ hl
  exact qb_X2_begin F G hv hQ _ _ _ _ _ _ hf hP va_S.rf hl
def rm_X2_count : Room := { frames := 2, cells := 0, slots := 0, locals := 43 }
theorem e_X2_count : qw_hd yX2_count RX2 1 := by decide +kernel
set_option maxRecDepth 100000 in
set_option maxHeartbeats 4000000 in
theorem qb_X2_count {p : Program} {l : Launch} {e : Env} {s : State} {mi : MethodId} {args : Array Value} {below : List Frame} {meth : Method} {co : Code} {Q : State → Prop} {L : wL} {r : Int32} {M : wM} {h : (Nat → Nat)} (F : CallFix p mi co cX2_count 2 s args wsX2_count RX2) (G : qw_G L (qw_A L) s) (hv : qw_R L) (hQ : qw_RI p l e rm_X2_count s mi args below meth co cX2_count .int Q L r M h) : ∀ (x1 : Int32) (H : Heap) (locs : List Loc) (ls : Array Slot), qf_X2_count x1 M h = some r → qw_P L M h H → va_S (qw_A L) s.heap H locs → lv_has ls 2 [(0, .ref (qw_ad L 8 0)), (1, .int x1)] → W p l e rm_X2_count s mi args below meth co H locs 0 0 Q (F0 mi 0 ls []) := by
  intro x1 H locs ls hf hP hS hl
  unfold qf_X2_count at hf
  refine lv_iload_n F.1 F.2.1 dX2_count_0 rfl (lv_at hl 1 rfl) ?_
  by_cases c1 : x1 = (nI 0)
  · replace hf := qi_t c1 hf
    rw [c1]
    refine lv_tableIn (tgt := 88) F.1 F.2.1 dX2_count_1 (x := (nI 0)) (by decide) (by decide) rfl (by decide) ?_
    refine lv_aload_n F.1 F.2.1 dX2_count_88 rfl (lv_at hl 0 rfl) ?_
    refine qr_gRr F G hv.1 (fun w h => F.2.2.2.2 w (List.mem_cons_of_mem _ (List.mem_append_left _ (List.mem_append_left _ (List.mem_append_right _ h))))) hP 0 0 0 (by decide) (List.mem_of_getElem? (i := 1) rfl) dX2_count_89 ?_
    obtain ⟨z2, ez2, hf⟩ := qn_x hf
    refine qr_gS F G (fun w h => F.2.2.2.2 w (List.mem_cons_of_mem _ (List.mem_append_left _ (List.mem_append_right _ h)))) hP (hv.2 _ (by decide : 0 < 8)) rfl 3 (by decide) (List.mem_of_getElem? (i := 2) rfl) ez2 dX2_count_92 ?_
    have e9 := qs1 hf
    subst e9
    exact hQ _ _ _ _ hP hS rfl dX2_count_95
  replace hf := qi_f c1 hf
  by_cases c3 : x1 = (nI 1)
  · replace hf := qi_t c3 hf
    rw [c3]
    refine lv_tableIn (tgt := 96) F.1 F.2.1 dX2_count_1 (x := (nI 1)) (by decide) (by decide) rfl (by decide) ?_
    refine lv_aload_n F.1 F.2.1 dX2_count_96 rfl (lv_at hl 0 rfl) ?_
    refine qr_gRr F G hv.1 (fun w h => F.2.2.2.2 w (List.mem_cons_of_mem _ (List.mem_append_left _ (List.mem_append_left _ (List.mem_append_right _ h))))) hP 0 0 0 (by decide) (List.mem_of_getElem? (i := 1) rfl) dX2_count_97 ?_
    obtain ⟨z4, ez4, hf⟩ := qn_x hf
    refine qr_gS F G (fun w h => F.2.2.2.2 w (List.mem_cons_of_mem _ (List.mem_append_left _ (List.mem_append_right _ h)))) hP (hv.2 _ (by decide : 0 < 8)) rfl 5 (by decide) (List.mem_of_getElem? (i := 3) rfl) ez4 dX2_count_100 ?_
    have e9 := qs1 hf
    subst e9
    exact hQ _ _ _ _ hP hS rfl dX2_count_103
  replace hf := qi_f c3 hf
  by_cases c5 : x1 = (nI 2)
  · replace hf := qi_t c5 hf
    rw [c5]
    refine lv_tableIn (tgt := 104) F.1 F.2.1 dX2_count_1 (x := (nI 2)) (by decide) (by decide) rfl (by decide) ?_
    refine lv_aload_n F.1 F.2.1 dX2_count_104 rfl (lv_at hl 0 rfl) ?_
    refine qr_gRr F G hv.1 (fun w h => F.2.2.2.2 w (List.mem_cons_of_mem _ (List.mem_append_left _ (List.mem_append_left _ (List.mem_append_right _ h))))) hP 0 0 0 (by decide) (List.mem_of_getElem? (i := 1) rfl) dX2_count_105 ?_
    refine qr_gSr F G (fun w h => F.2.2.2.2 w (List.mem_cons_of_mem _ (List.mem_append_left _ (List.mem_append_right _ h)))) hP (hv.2 _ (by decide : 0 < 8)) 1 (by decide) (List.mem_of_getElem? (i := 4) rfl) dX2_count_108 ?_
    refine lv_iconst (v := (nI 0)) F.1 F.2.1 dX2_count_111 (by decide) ?_
    obtain ⟨z6, ez6, hf⟩ := qn_x hf
    refine qr_ald F G hP rfl (qw_IS (c := 1) (n := 4) (hv.2 _ (by decide : 0 < 8)) (by decide)) (by unfold vp_in; decide) (by decide) ez6 dX2_count_112 ?_
    have e9 := qs1 hf
    subst e9
    exact hQ _ _ _ _ hP hS rfl dX2_count_113
  replace hf := qi_f c5 hf
  by_cases c7 : x1 = (nI 3)
  · replace hf := qi_t c7 hf
    rw [c7]
    refine lv_tableIn (tgt := 114) F.1 F.2.1 dX2_count_1 (x := (nI 3)) (by decide) (by decide) rfl (by decide) ?_
    refine lv_aload_n F.1 F.2.1 dX2_count_114 rfl (lv_at hl 0 rfl) ?_
    refine qr_gRr F G hv.1 (fun w h => F.2.2.2.2 w (List.mem_cons_of_mem _ (List.mem_append_left _ (List.mem_append_left _ (List.mem_append_right _ h))))) hP 0 0 0 (by decide) (List.mem_of_getElem? (i := 1) rfl) dX2_count_115 ?_
    refine qr_gSr F G (fun w h => F.2.2.2.2 w (List.mem_cons_of_mem _ (List.mem_append_left _ (List.mem_append_right _ h)))) hP (hv.2 _ (by decide : 0 < 8)) 1 (by decide) (List.mem_of_getElem? (i := 4) rfl) dX2_count_118 ?_
    refine lv_iconst (v := (nI 1)) F.1 F.2.1 dX2_count_121 (by decide) ?_
    obtain ⟨z8, ez8, hf⟩ := qn_x hf
    refine qr_ald F G hP rfl (qw_IS (c := 1) (n := 4) (hv.2 _ (by decide : 0 < 8)) (by decide)) (by unfold vp_in; decide) (by decide) ez8 dX2_count_122 ?_
    have e9 := qs1 hf
    subst e9
    exact hQ _ _ _ _ hP hS rfl dX2_count_123
  replace hf := qi_f c7 hf
  by_cases c9 : x1 = (nI 4)
  · replace hf := qi_t c9 hf
    rw [c9]
    refine lv_tableIn (tgt := 124) F.1 F.2.1 dX2_count_1 (x := (nI 4)) (by decide) (by decide) rfl (by decide) ?_
    refine lv_aload_n F.1 F.2.1 dX2_count_124 rfl (lv_at hl 0 rfl) ?_
    refine qr_gRr F G hv.1 (fun w h => F.2.2.2.2 w (List.mem_cons_of_mem _ (List.mem_append_left _ (List.mem_append_left _ (List.mem_append_right _ h))))) hP 0 0 0 (by decide) (List.mem_of_getElem? (i := 1) rfl) dX2_count_125 ?_
    refine qr_gSr F G (fun w h => F.2.2.2.2 w (List.mem_cons_of_mem _ (List.mem_append_left _ (List.mem_append_right _ h)))) hP (hv.2 _ (by decide : 0 < 8)) 1 (by decide) (List.mem_of_getElem? (i := 4) rfl) dX2_count_128 ?_
    refine lv_iconst (v := (nI 2)) F.1 F.2.1 dX2_count_131 (by decide) ?_
    obtain ⟨z10, ez10, hf⟩ := qn_x hf
    refine qr_ald F G hP rfl (qw_IS (c := 1) (n := 4) (hv.2 _ (by decide : 0 < 8)) (by decide)) (by unfold vp_in; decide) (by decide) ez10 dX2_count_132 ?_
    have e9 := qs1 hf
    subst e9
    exact hQ _ _ _ _ hP hS rfl dX2_count_133
  replace hf := qi_f c9 hf
  by_cases c11 : x1 = (nI 5)
  · replace hf := qi_t c11 hf
    rw [c11]
    refine lv_tableIn (tgt := 134) F.1 F.2.1 dX2_count_1 (x := (nI 5)) (by decide) (by decide) rfl (by decide) ?_
    refine lv_aload_n F.1 F.2.1 dX2_count_134 rfl (lv_at hl 0 rfl) ?_
    refine qr_gRr F G hv.1 (fun w h => F.2.2.2.2 w (List.mem_cons_of_mem _ (List.mem_append_left _ (List.mem_append_left _ (List.mem_append_right _ h))))) hP 0 0 0 (by decide) (List.mem_of_getElem? (i := 1) rfl) dX2_count_135 ?_
    refine qr_gSr F G (fun w h => F.2.2.2.2 w (List.mem_cons_of_mem _ (List.mem_append_left _ (List.mem_append_right _ h)))) hP (hv.2 _ (by decide : 0 < 8)) 1 (by decide) (List.mem_of_getElem? (i := 4) rfl) dX2_count_138 ?_
    refine lv_iconst (v := (nI 3)) F.1 F.2.1 dX2_count_141 (by decide) ?_
    obtain ⟨z12, ez12, hf⟩ := qn_x hf
    refine qr_ald F G hP rfl (qw_IS (c := 1) (n := 4) (hv.2 _ (by decide : 0 < 8)) (by decide)) (by unfold vp_in; decide) (by decide) ez12 dX2_count_142 ?_
    have e9 := qs1 hf
    subst e9
    exact hQ _ _ _ _ hP hS rfl dX2_count_143
  replace hf := qi_f c11 hf
  by_cases c13 : x1 = (nI 6)
  · replace hf := qi_t c13 hf
    rw [c13]
    refine lv_tableIn (tgt := 144) F.1 F.2.1 dX2_count_1 (x := (nI 6)) (by decide) (by decide) rfl (by decide) ?_
    refine lv_aload_n F.1 F.2.1 dX2_count_144 rfl (lv_at hl 0 rfl) ?_
    refine qr_gRr F G hv.1 (fun w h => F.2.2.2.2 w (List.mem_cons_of_mem _ (List.mem_append_left _ (List.mem_append_left _ (List.mem_append_right _ h))))) hP 0 0 0 (by decide) (List.mem_of_getElem? (i := 1) rfl) dX2_count_145 ?_
    refine qr_gSr F G (fun w h => F.2.2.2.2 w (List.mem_cons_of_mem _ (List.mem_append_left _ (List.mem_append_right _ h)))) hP (hv.2 _ (by decide : 0 < 8)) 2 (by decide) (List.mem_of_getElem? (i := 5) rfl) dX2_count_148 ?_
    refine lv_iconst (v := (nI 0)) F.1 F.2.1 dX2_count_151 (by decide) ?_
    obtain ⟨z14, ez14, hf⟩ := qn_x hf
    refine qr_ald F G hP rfl (qw_IS (c := 2) (n := 4) (hv.2 _ (by decide : 0 < 8)) (by decide)) (by unfold vp_in; decide) (by decide) ez14 dX2_count_152 ?_
    refine lv_aload_n F.1 F.2.1 dX2_count_153 rfl (lv_at hl 0 rfl) ?_
    refine qr_gRr F G hv.1 (fun w h => F.2.2.2.2 w (List.mem_cons_of_mem _ (List.mem_append_left _ (List.mem_append_left _ (List.mem_append_right _ h))))) hP 0 0 0 (by decide) (List.mem_of_getElem? (i := 1) rfl) dX2_count_154 ?_
    refine qr_gSr F G (fun w h => F.2.2.2.2 w (List.mem_cons_of_mem _ (List.mem_append_left _ (List.mem_append_right _ h)))) hP (hv.2 _ (by decide : 0 < 8)) 2 (by decide) (List.mem_of_getElem? (i := 5) rfl) dX2_count_157 ?_
    refine lv_iconst (v := (nI 1)) F.1 F.2.1 dX2_count_160 (by decide) ?_
    obtain ⟨z15, ez15, hf⟩ := qn_x hf
    refine qr_ald F G hP rfl (qw_IS (c := 2) (n := 4) (hv.2 _ (by decide : 0 < 8)) (by decide)) (by unfold vp_in; decide) (by decide) ez15 dX2_count_161 ?_
    obtain ⟨z16, ez16, hf⟩ := qn_x hf
    refine qr_iadd F ez16 dX2_count_162 ?_
    have e9 := qs1 hf
    subst e9
    exact hQ _ _ _ _ hP hS rfl dX2_count_163
  replace hf := qi_f c13 hf
  by_cases c17 : x1 = (nI 7)
  · replace hf := qi_t c17 hf
    rw [c17]
    refine lv_tableIn (tgt := 164) F.1 F.2.1 dX2_count_1 (x := (nI 7)) (by decide) (by decide) rfl (by decide) ?_
    refine lv_aload_n F.1 F.2.1 dX2_count_164 rfl (lv_at hl 0 rfl) ?_
    refine qr_gRr F G hv.1 (fun w h => F.2.2.2.2 w (List.mem_cons_of_mem _ (List.mem_append_left _ (List.mem_append_left _ (List.mem_append_right _ h))))) hP 0 0 0 (by decide) (List.mem_of_getElem? (i := 1) rfl) dX2_count_165 ?_
    refine qr_gSr F G (fun w h => F.2.2.2.2 w (List.mem_cons_of_mem _ (List.mem_append_left _ (List.mem_append_right _ h)))) hP (hv.2 _ (by decide : 0 < 8)) 2 (by decide) (List.mem_of_getElem? (i := 5) rfl) dX2_count_168 ?_
    refine lv_iconst (v := (nI 1)) F.1 F.2.1 dX2_count_171 (by decide) ?_
    obtain ⟨z18, ez18, hf⟩ := qn_x hf
    refine qr_ald F G hP rfl (qw_IS (c := 2) (n := 4) (hv.2 _ (by decide : 0 < 8)) (by decide)) (by unfold vp_in; decide) (by decide) ez18 dX2_count_172 ?_
    have e9 := qs1 hf
    subst e9
    exact hQ _ _ _ _ hP hS rfl dX2_count_173
  replace hf := qi_f c17 hf
  by_cases c19 : x1 = (nI 8)
  · replace hf := qi_t c19 hf
    rw [c19]
    refine lv_tableIn (tgt := 174) F.1 F.2.1 dX2_count_1 (x := (nI 8)) (by decide) (by decide) rfl (by decide) ?_
    refine lv_aload_n F.1 F.2.1 dX2_count_174 rfl (lv_at hl 0 rfl) ?_
    refine qr_gRr F G hv.1 (fun w h => F.2.2.2.2 w (List.mem_cons_of_mem _ (List.mem_append_left _ (List.mem_append_left _ (List.mem_append_right _ h))))) hP 0 0 0 (by decide) (List.mem_of_getElem? (i := 1) rfl) dX2_count_175 ?_
    refine qr_gSr F G (fun w h => F.2.2.2.2 w (List.mem_cons_of_mem _ (List.mem_append_left _ (List.mem_append_right _ h)))) hP (hv.2 _ (by decide : 0 < 8)) 2 (by decide) (List.mem_of_getElem? (i := 5) rfl) dX2_count_178 ?_
    refine lv_iconst (v := (nI 2)) F.1 F.2.1 dX2_count_181 (by decide) ?_
    obtain ⟨z20, ez20, hf⟩ := qn_x hf
    refine qr_ald F G hP rfl (qw_IS (c := 2) (n := 4) (hv.2 _ (by decide : 0 < 8)) (by decide)) (by unfold vp_in; decide) (by decide) ez20 dX2_count_182 ?_
    have e9 := qs1 hf
    subst e9
    exact hQ _ _ _ _ hP hS rfl dX2_count_183
  replace hf := qi_f c19 hf
  by_cases c21 : x1 = (nI 9)
  · replace hf := qi_t c21 hf
    rw [c21]
    refine lv_tableIn (tgt := 184) F.1 F.2.1 dX2_count_1 (x := (nI 9)) (by decide) (by decide) rfl (by decide) ?_
    refine lv_aload_n F.1 F.2.1 dX2_count_184 rfl (lv_at hl 0 rfl) ?_
    refine qr_gRr F G hv.1 (fun w h => F.2.2.2.2 w (List.mem_cons_of_mem _ (List.mem_append_left _ (List.mem_append_left _ (List.mem_append_right _ h))))) hP 0 0 0 (by decide) (List.mem_of_getElem? (i := 1) rfl) dX2_count_185 ?_
    refine qr_gSr F G (fun w h => F.2.2.2.2 w (List.mem_cons_of_mem _ (List.mem_append_left _ (List.mem_append_right _ h)))) hP (hv.2 _ (by decide : 0 < 8)) 2 (by decide) (List.mem_of_getElem? (i := 5) rfl) dX2_count_188 ?_
    refine lv_iconst (v := (nI 3)) F.1 F.2.1 dX2_count_191 (by decide) ?_
    obtain ⟨z22, ez22, hf⟩ := qn_x hf
    refine qr_ald F G hP rfl (qw_IS (c := 2) (n := 4) (hv.2 _ (by decide : 0 < 8)) (by decide)) (by unfold vp_in; decide) (by decide) ez22 dX2_count_192 ?_
    have e9 := qs1 hf
    subst e9
    exact hQ _ _ _ _ hP hS rfl dX2_count_193
  replace hf := qi_f c21 hf
  by_cases c23 : x1 = (nI 10)
  · replace hf := qi_t c23 hf
    rw [c23]
    refine lv_tableIn (tgt := 194) F.1 F.2.1 dX2_count_1 (x := (nI 10)) (by decide) (by decide) rfl (by decide) ?_
    refine lv_aload_n F.1 F.2.1 dX2_count_194 rfl (lv_at hl 0 rfl) ?_
    refine qr_gRr F G hv.1 (fun w h => F.2.2.2.2 w (List.mem_cons_of_mem _ (List.mem_append_left _ (List.mem_append_left _ (List.mem_append_right _ h))))) hP 0 0 0 (by decide) (List.mem_of_getElem? (i := 1) rfl) dX2_count_195 ?_
    obtain ⟨z24, ez24, hf⟩ := qn_x hf
    refine qr_gS F G (fun w h => F.2.2.2.2 w (List.mem_cons_of_mem _ (List.mem_append_left _ (List.mem_append_right _ h)))) hP (hv.2 _ (by decide : 0 < 8)) rfl 6 (by decide) (List.mem_of_getElem? (i := 6) rfl) ez24 dX2_count_198 ?_
    have e9 := qs1 hf
    subst e9
    exact hQ _ _ _ _ hP hS rfl dX2_count_201
  replace hf := qi_f c23 hf
  by_cases c25 : x1 = (nI 11)
  · replace hf := qi_t c25 hf
    rw [c25]
    refine lv_tableIn (tgt := 202) F.1 F.2.1 dX2_count_1 (x := (nI 11)) (by decide) (by decide) rfl (by decide) ?_
    refine lv_aload_n F.1 F.2.1 dX2_count_202 rfl (lv_at hl 0 rfl) ?_
    refine qr_gRr F G hv.1 (fun w h => F.2.2.2.2 w (List.mem_cons_of_mem _ (List.mem_append_left _ (List.mem_append_left _ (List.mem_append_right _ h))))) hP 0 0 0 (by decide) (List.mem_of_getElem? (i := 1) rfl) dX2_count_203 ?_
    obtain ⟨z26, ez26, hf⟩ := qn_x hf
    refine qr_gS F G (fun w h => F.2.2.2.2 w (List.mem_cons_of_mem _ (List.mem_append_left _ (List.mem_append_right _ h)))) hP (hv.2 _ (by decide : 0 < 8)) rfl 1 (by decide) (List.mem_of_getElem? (i := 7) rfl) ez26 dX2_count_206 ?_
    have e9 := qs1 hf
    subst e9
    exact hQ _ _ _ _ hP hS rfl dX2_count_209
  replace hf := qi_f c25 hf
  by_cases c27 : x1 = (nI 12)
  · replace hf := qi_t c27 hf
    rw [c27]
    refine lv_tableIn (tgt := 210) F.1 F.2.1 dX2_count_1 (x := (nI 12)) (by decide) (by decide) rfl (by decide) ?_
    refine lv_aload_n F.1 F.2.1 dX2_count_210 rfl (lv_at hl 0 rfl) ?_
    refine qr_gRr F G hv.1 (fun w h => F.2.2.2.2 w (List.mem_cons_of_mem _ (List.mem_append_left _ (List.mem_append_left _ (List.mem_append_right _ h))))) hP 0 0 0 (by decide) (List.mem_of_getElem? (i := 1) rfl) dX2_count_211 ?_
    obtain ⟨z28, ez28, hf⟩ := qn_x hf
    refine qr_gS F G (fun w h => F.2.2.2.2 w (List.mem_cons_of_mem _ (List.mem_append_left _ (List.mem_append_right _ h)))) hP (hv.2 _ (by decide : 0 < 8)) rfl 2 (by decide) (List.mem_of_getElem? (i := 8) rfl) ez28 dX2_count_214 ?_
    have e9 := qs1 hf
    subst e9
    exact hQ _ _ _ _ hP hS rfl dX2_count_217
  replace hf := qi_f c27 hf
  by_cases c29 : x1 = (nI 13)
  · replace hf := qi_t c29 hf
    rw [c29]
    refine lv_tableIn (tgt := 218) F.1 F.2.1 dX2_count_1 (x := (nI 13)) (by decide) (by decide) rfl (by decide) ?_
    refine lv_aload_n F.1 F.2.1 dX2_count_218 rfl (lv_at hl 0 rfl) ?_
    refine qr_gRr F G hv.1 (fun w h => F.2.2.2.2 w (List.mem_cons_of_mem _ (List.mem_append_left _ (List.mem_append_left _ (List.mem_append_right _ h))))) hP 0 0 0 (by decide) (List.mem_of_getElem? (i := 1) rfl) dX2_count_219 ?_
    obtain ⟨z30, ez30, hf⟩ := qn_x hf
    refine qr_gS F G (fun w h => F.2.2.2.2 w (List.mem_cons_of_mem _ (List.mem_append_left _ (List.mem_append_right _ h)))) hP (hv.2 _ (by decide : 0 < 8)) rfl 4 (by decide) (List.mem_of_getElem? (i := 9) rfl) ez30 dX2_count_222 ?_
    have e9 := qs1 hf
    subst e9
    exact hQ _ _ _ _ hP hS rfl dX2_count_225
  replace hf := qi_f c29 hf
  by_cases c31 : x1 = (nI 14)
  · replace hf := qi_t c31 hf
    rw [c31]
    refine lv_tableIn (tgt := 226) F.1 F.2.1 dX2_count_1 (x := (nI 14)) (by decide) (by decide) rfl (by decide) ?_
    refine lv_aload_n F.1 F.2.1 dX2_count_226 rfl (lv_at hl 0 rfl) ?_
    refine qr_gRr F G hv.1 (fun w h => F.2.2.2.2 w (List.mem_cons_of_mem _ (List.mem_append_left _ (List.mem_append_left _ (List.mem_append_right _ h))))) hP 0 0 0 (by decide) (List.mem_of_getElem? (i := 1) rfl) dX2_count_227 ?_
    obtain ⟨z32, ez32, hf⟩ := qn_x hf
    refine qr_gS F G (fun w h => F.2.2.2.2 w (List.mem_cons_of_mem _ (List.mem_append_left _ (List.mem_append_right _ h)))) hP (hv.2 _ (by decide : 0 < 8)) rfl 0 (by decide) (List.mem_of_getElem? (i := 10) rfl) ez32 dX2_count_230 ?_
    have e9 := qs1 hf
    subst e9
    exact hQ _ _ _ _ hP hS rfl dX2_count_233
  replace hf := qi_f c31 hf
  by_cases c33 : x1 = (nI 15)
  · replace hf := qi_t c33 hf
    rw [c33]
    refine lv_tableIn (tgt := 234) F.1 F.2.1 dX2_count_1 (x := (nI 15)) (by decide) (by decide) rfl (by decide) ?_
    refine lv_aload_n F.1 F.2.1 dX2_count_234 rfl (lv_at hl 0 rfl) ?_
    obtain ⟨z34, ez34, hf⟩ := qn_x hf
    refine qr_gR F G hv.1 (fun w h => F.2.2.2.2 w (List.mem_cons_of_mem _ (List.mem_append_left _ (List.mem_append_left _ (List.mem_append_right _ h))))) hP rfl (List.mem_of_getElem? (i := 11) rfl) ez34 dX2_count_235 ?_
    have e9 := qs1 hf
    subst e9
    exact hQ _ _ _ _ hP hS rfl dX2_count_238
  replace hf := qi_f c33 hf
  by_cases c35 : x1 = (nI 16)
  · replace hf := qi_t c35 hf
    rw [c35]
    refine lv_tableIn (tgt := 239) F.1 F.2.1 dX2_count_1 (x := (nI 16)) (by decide) (by decide) rfl (by decide) ?_
    refine lv_aload_n F.1 F.2.1 dX2_count_239 rfl (lv_at hl 0 rfl) ?_
    refine qr_gRr F G hv.1 (fun w h => F.2.2.2.2 w (List.mem_cons_of_mem _ (List.mem_append_left _ (List.mem_append_left _ (List.mem_append_right _ h))))) hP 5 8 2 (by decide) (List.mem_of_getElem? (i := 12) rfl) dX2_count_240 ?_
    obtain ⟨z36, ez36, hf⟩ := qn_x hf
    refine qr_gX F G hv.1 (fun w h => F.2.2.2.2 w (List.mem_cons_of_mem _ (List.mem_append_right _ h))) hP rfl 1 (by decide) (List.mem_of_getElem? (i := 13) rfl) ez36 dX2_count_243 ?_
    have e9 := qs1 hf
    subst e9
    exact hQ _ _ _ _ hP hS rfl dX2_count_246
  replace hf := qi_f c35 hf
  by_cases c37 : x1 = (nI 17)
  · replace hf := qi_t c37 hf
    rw [c37]
    refine lv_tableIn (tgt := 247) F.1 F.2.1 dX2_count_1 (x := (nI 17)) (by decide) (by decide) rfl (by decide) ?_
    refine lv_aload_n F.1 F.2.1 dX2_count_247 rfl (lv_at hl 0 rfl) ?_
    refine qr_gRr F G hv.1 (fun w h => F.2.2.2.2 w (List.mem_cons_of_mem _ (List.mem_append_left _ (List.mem_append_left _ (List.mem_append_right _ h))))) hP 0 0 0 (by decide) (List.mem_of_getElem? (i := 1) rfl) dX2_count_248 ?_
    obtain ⟨r38, k39, hf⟩ := qb1_x hf
    refine qr_cVi F G hP hS (qc_X0_overrunFrames l G.2.1 rfl (hv.2 _ (by decide : 0 < 8)) k39) (qw_rcS (hv.2 _ (by decide : 0 < 8))) gX2_count_X0_overrunFrames rfl ⟨rfl, rfl⟩ e_X0_overrunFrames ⟨Nat.le_of_ble_eq_true rfl, Nat.le_of_ble_eq_true rfl⟩ rfl hl.1 rfl (Nat.le_of_ble_eq_true rfl) ⟨Nat.zero_le _, Nat.zero_le _⟩ dX2_count_251 (fun H locs hP hS => ?_)
    have e9 := qs1 hf
    subst e9
    exact hQ _ _ _ _ hP hS rfl dX2_count_254
  replace hf := qi_f c37 hf
  refine qr_swD (n := 17) (tgt := 255) F dX2_count_1 rfl (by decide) (fun j hj => ?_) (by decide) ?_
  · rcases (show j = 0 ∨ j = 1 ∨ j = 2 ∨ j = 3 ∨ j = 4 ∨ j = 5 ∨ j = 6 ∨ j = 7 ∨ j = 8 ∨ j = 9 ∨ j = 10 ∨ j = 11 ∨ j = 12 ∨ j = 13 ∨ j = 14 ∨ j = 15 ∨ j = 16 ∨ j = 17 by omega) with rfl | rfl | rfl | rfl | rfl | rfl | rfl | rfl | rfl | rfl | rfl | rfl | rfl | rfl | rfl | rfl | rfl | rfl
    · exact c1
    · exact c3
    · exact c5
    · exact c7
    · exact c9
    · exact c11
    · exact c13
    · exact c17
    · exact c19
    · exact c21
    · exact c23
    · exact c25
    · exact c27
    · exact c29
    · exact c31
    · exact c33
    · exact c35
    · exact c37
  · refine lv_iconst (v := (-1 : Int32)) F.1 F.2.1 dX2_count_255 (by decide) ?_
    have e9 := qs1 hf
    subst e9
    exact hQ _ _ _ _ hP hS rfl dX2_count_256
set_option maxRecDepth 100000 in
set_option maxHeartbeats 4000000 in
theorem qc_X2_count (l : Launch) {L : wL} (hJ : qw_J L) {M : wM} {h : Nat → Nat} {x1 : Int32} {r : Int32} (hv : qw_R L) (hf : qf_X2_count x1 M h = some r) : qw_MI l yX2_count wsX2_count rm_X2_count L (.ref (qw_ad L 8 0) :: [.int x1]) M h r M h := by
  refine qw_MI_of (cc := cX2_count) (maxL := 2) (ty := .int) (by decide) rfl hJ (Nat.le_of_ble_eq_true rfl) ?_
  intro p e s mi below meth co Q ls F G hP hQ hl
  exact qb_X2_count F G hv hQ _ _ _ _ hf hP va_S.rf hl
def rm_X2_frame : Room := { frames := 0, cells := 0, slots := 0, locals := 0 }
theorem e_X2_frame : qw_hd yX2_frame RX2 2 := by decide +kernel
set_option maxRecDepth 100000 in
set_option maxHeartbeats 4000000 in
theorem qb_X2_frame {p : Program} {l : Launch} {e : Env} {s : State} {mi : MethodId} {args : Array Value} {below : List Frame} {meth : Method} {co : Code} {Q : State → Prop} {L : wL} {r : Int32} {M : wM} {h : (Nat → Nat)} (F : CallFix p mi co cX2_frame 3 s args wsX2_frame RX2) (G : qw_G L (qw_A L) s) (hv : qw_R L) (hQ : qw_RI p l e rm_X2_frame s mi args below meth co cX2_frame .int Q L r M h) : ∀ (x1 : Int32) (x2 : Int32) (H : Heap) (locs : List Loc) (ls : Array Slot), qf_X2_frame x1 x2 M h = some r → qw_P L M h H → va_S (qw_A L) s.heap H locs → lv_has ls 3 [(0, .ref (qw_ad L 8 0)), (1, .int x1), (2, .int x2)] → W p l e rm_X2_frame s mi args below meth co H locs 0 0 Q (F0 mi 0 ls []) := by
  intro x1 x2 H locs ls hf hP hS hl
  unfold qf_X2_frame at hf
  refine lv_iload_n F.1 F.2.1 dX2_frame_0 rfl (lv_at hl 1 rfl) ?_
  refine lv_if_lt (tgt := 24) F.1 F.2.1 dX2_frame_1 (by decide) (fun c1 => ?_) (fun c1 => ?_)
  · replace hf := qi_t c1 hf
    refine lv_iconst (v := (-1 : Int32)) F.1 F.2.1 dX2_frame_24 (by decide) ?_
    have e9 := qs1 hf
    subst e9
    exact hQ _ _ _ _ hP hS rfl dX2_frame_25
  · replace hf := qi_f c1 hf
    refine lv_iload_n F.1 F.2.1 dX2_frame_4 rfl (lv_at hl 1 rfl) ?_
    refine lv_aload_n F.1 F.2.1 dX2_frame_5 rfl (lv_at hl 0 rfl) ?_
    refine qr_gRr F G hv.1 (fun w h => F.2.2.2.2 w (List.mem_cons_of_mem _ (List.mem_append_left _ (List.mem_append_right _ h)))) hP 0 0 0 (by decide) (List.mem_of_getElem? (i := 1) rfl) dX2_frame_6 ?_
    obtain ⟨z2, ez2, hf⟩ := qn_x hf
    refine qr_gS F G (fun w h => F.2.2.2.2 w (List.mem_cons_of_mem _ (List.mem_append_right _ h))) hP (hv.2 _ (by decide : 0 < 8)) rfl 3 (by decide) (List.mem_of_getElem? (i := 2) rfl) ez2 dX2_frame_9 ?_
    refine lv_icmp_ge (tgt := 24) F.1 F.2.1 dX2_frame_12 (by decide) (fun c3 => ?_) (fun c3 => ?_)
    · replace hf := qi_t c3 hf
      refine lv_iconst (v := (-1 : Int32)) F.1 F.2.1 dX2_frame_24 (by decide) ?_
      have e9 := qs1 hf
      subst e9
      exact hQ _ _ _ _ hP hS rfl dX2_frame_25
    · replace hf := qi_f c3 hf
      refine lv_iload_n F.1 F.2.1 dX2_frame_15 rfl (lv_at hl 2 rfl) ?_
      refine lv_if_lt (tgt := 24) F.1 F.2.1 dX2_frame_16 (by decide) (fun c4 => ?_) (fun c4 => ?_)
      · replace hf := qi_t c4 hf
        refine lv_iconst (v := (-1 : Int32)) F.1 F.2.1 dX2_frame_24 (by decide) ?_
        have e9 := qs1 hf
        subst e9
        exact hQ _ _ _ _ hP hS rfl dX2_frame_25
      · replace hf := qi_f c4 hf
        refine lv_iload_n F.1 F.2.1 dX2_frame_19 rfl (lv_at hl 2 rfl) ?_
        refine lv_iconst (v := (nI 5)) F.1 F.2.1 dX2_frame_20 (by decide) ?_
        refine lv_icmp_lt (tgt := 26) F.1 F.2.1 dX2_frame_21 (by decide) (fun c5 => ?_) (fun c5 => ?_)
        · replace hf := qi_t c5 hf
          refine lv_aload_n F.1 F.2.1 dX2_frame_26 rfl (lv_at hl 0 rfl) ?_
          refine qr_gRr F G hv.1 (fun w h => F.2.2.2.2 w (List.mem_cons_of_mem _ (List.mem_append_left _ (List.mem_append_right _ h)))) hP 0 0 0 (by decide) (List.mem_of_getElem? (i := 1) rfl) dX2_frame_27 ?_
          refine qr_gSr F G (fun w h => F.2.2.2.2 w (List.mem_cons_of_mem _ (List.mem_append_right _ h))) hP (hv.2 _ (by decide : 0 < 8)) 4 (by decide) (List.mem_of_getElem? (i := 3) rfl) dX2_frame_30 ?_
          refine lv_iload_n F.1 F.2.1 dX2_frame_33 rfl (lv_at hl 2 rfl) ?_
          obtain ⟨g6, hf⟩ := qg_x hf
          refine qr_row (c := (8 + x2.toNatClampNeg)) F G hP (hv.2 _ (by decide : 0 < 8)) (by decide) (by decide) rfl rfl g6 rfl dX2_frame_34 ?_
          refine lv_aload_n F.1 F.2.1 dX2_frame_35 rfl (lv_at hl 0 rfl) ?_
          refine qr_gRr F G hv.1 (fun w h => F.2.2.2.2 w (List.mem_cons_of_mem _ (List.mem_append_left _ (List.mem_append_right _ h)))) hP 0 0 0 (by decide) (List.mem_of_getElem? (i := 1) rfl) dX2_frame_36 ?_
          obtain ⟨z7, ez7, hf⟩ := qn_x hf
          refine qr_gS F G (fun w h => F.2.2.2.2 w (List.mem_cons_of_mem _ (List.mem_append_right _ h))) hP (hv.2 _ (by decide : 0 < 8)) rfl 3 (by decide) (List.mem_of_getElem? (i := 2) rfl) ez7 dX2_frame_39 ?_
          refine lv_iconst (v := (nI 1)) F.1 F.2.1 dX2_frame_42 (by decide) ?_
          obtain ⟨z8, ez8, hf⟩ := qn_x hf
          refine qr_isub F ez8 dX2_frame_43 ?_
          refine lv_iload_n F.1 F.2.1 dX2_frame_44 rfl (lv_at hl 1 rfl) ?_
          obtain ⟨z9, ez9, hf⟩ := qn_x hf
          refine qr_isub F ez9 dX2_frame_45 ?_
          obtain ⟨g11, hf⟩ := qg_x hf
          obtain ⟨z10, ez10, hf⟩ := qn_x hf
          refine qr_ald F G hP rfl (qw_row4 (hv.2 _ (by decide : 0 < 8)) (qw_lt g6)) g11 rfl ez10 dX2_frame_46 ?_
          have e9 := qs1 hf
          subst e9
          exact hQ _ _ _ _ hP hS rfl dX2_frame_47
        · replace hf := qi_f c5 hf
          refine lv_iconst (v := (-1 : Int32)) F.1 F.2.1 dX2_frame_24 (by decide) ?_
          have e9 := qs1 hf
          subst e9
          exact hQ _ _ _ _ hP hS rfl dX2_frame_25
set_option maxRecDepth 100000 in
set_option maxHeartbeats 4000000 in
theorem qc_X2_frame (l : Launch) {L : wL} (hJ : qw_J L) {M : wM} {h : Nat → Nat} {x1 : Int32} {x2 : Int32} {r : Int32} (hv : qw_R L) (hf : qf_X2_frame x1 x2 M h = some r) : qw_MI l yX2_frame wsX2_frame rm_X2_frame L (.ref (qw_ad L 8 0) :: [.int x1, .int x2]) M h r M h := by
  refine qw_MI_of (cc := cX2_frame) (maxL := 3) (ty := .int) (by decide) rfl hJ (Nat.le_of_ble_eq_true rfl) ?_
  intro p e s mi below meth co Q ls F G hP hQ hl
  exact qb_X2_frame F G hv hQ _ _ _ _ _ hf hP va_S.rf hl
def rm_X2_slot : Room := { frames := 0, cells := 0, slots := 0, locals := 0 }
theorem e_X2_slot : qw_hd yX2_slot RX2 2 := by decide +kernel
set_option maxRecDepth 100000 in
set_option maxHeartbeats 4000000 in
theorem qb_X2_slot {p : Program} {l : Launch} {e : Env} {s : State} {mi : MethodId} {args : Array Value} {below : List Frame} {meth : Method} {co : Code} {Q : State → Prop} {L : wL} {r : Int32} {M : wM} {h : (Nat → Nat)} (F : CallFix p mi co cX2_slot 3 s args wsX2_slot RX2) (G : qw_G L (qw_A L) s) (hv : qw_R L) (hQ : qw_RI p l e rm_X2_slot s mi args below meth co cX2_slot .int Q L r M h) : ∀ (x1 : Int32) (x2 : Int32) (H : Heap) (locs : List Loc) (ls : Array Slot), qf_X2_slot x1 x2 M h = some r → qw_P L M h H → va_S (qw_A L) s.heap H locs → lv_has ls 3 [(0, .ref (qw_ad L 8 0)), (1, .int x1), (2, .int x2)] → W p l e rm_X2_slot s mi args below meth co H locs 0 0 Q (F0 mi 0 ls []) := by
  intro x1 x2 H locs ls hf hP hS hl
  unfold qf_X2_slot at hf
  refine lv_iload_n F.1 F.2.1 dX2_slot_0 rfl (lv_at hl 1 rfl) ?_
  refine lv_if_lt (tgt := 24) F.1 F.2.1 dX2_slot_1 (by decide) (fun c1 => ?_) (fun c1 => ?_)
  · replace hf := qi_t c1 hf
    refine lv_iconst (v := (-1 : Int32)) F.1 F.2.1 dX2_slot_24 (by decide) ?_
    have e9 := qs1 hf
    subst e9
    exact hQ _ _ _ _ hP hS rfl dX2_slot_25
  · replace hf := qi_f c1 hf
    refine lv_iload_n F.1 F.2.1 dX2_slot_4 rfl (lv_at hl 1 rfl) ?_
    refine lv_aload_n F.1 F.2.1 dX2_slot_5 rfl (lv_at hl 0 rfl) ?_
    refine qr_gRr F G hv.1 (fun w h => F.2.2.2.2 w (List.mem_cons_of_mem _ (List.mem_append_left _ (List.mem_append_right _ h)))) hP 0 0 0 (by decide) (List.mem_of_getElem? (i := 1) rfl) dX2_slot_6 ?_
    obtain ⟨z2, ez2, hf⟩ := qn_x hf
    refine qr_gS F G (fun w h => F.2.2.2.2 w (List.mem_cons_of_mem _ (List.mem_append_right _ h))) hP (hv.2 _ (by decide : 0 < 8)) rfl 1 (by decide) (List.mem_of_getElem? (i := 2) rfl) ez2 dX2_slot_9 ?_
    refine lv_icmp_ge (tgt := 24) F.1 F.2.1 dX2_slot_12 (by decide) (fun c3 => ?_) (fun c3 => ?_)
    · replace hf := qi_t c3 hf
      refine lv_iconst (v := (-1 : Int32)) F.1 F.2.1 dX2_slot_24 (by decide) ?_
      have e9 := qs1 hf
      subst e9
      exact hQ _ _ _ _ hP hS rfl dX2_slot_25
    · replace hf := qi_f c3 hf
      refine lv_iload_n F.1 F.2.1 dX2_slot_15 rfl (lv_at hl 2 rfl) ?_
      refine lv_if_lt (tgt := 24) F.1 F.2.1 dX2_slot_16 (by decide) (fun c4 => ?_) (fun c4 => ?_)
      · replace hf := qi_t c4 hf
        refine lv_iconst (v := (-1 : Int32)) F.1 F.2.1 dX2_slot_24 (by decide) ?_
        have e9 := qs1 hf
        subst e9
        exact hQ _ _ _ _ hP hS rfl dX2_slot_25
      · replace hf := qi_f c4 hf
        refine lv_iload_n F.1 F.2.1 dX2_slot_19 rfl (lv_at hl 2 rfl) ?_
        refine lv_iconst (v := (nI 3)) F.1 F.2.1 dX2_slot_20 (by decide) ?_
        refine lv_icmp_lt (tgt := 26) F.1 F.2.1 dX2_slot_21 (by decide) (fun c5 => ?_) (fun c5 => ?_)
        · replace hf := qi_t c5 hf
          refine lv_aload_n F.1 F.2.1 dX2_slot_26 rfl (lv_at hl 0 rfl) ?_
          refine qr_gRr F G hv.1 (fun w h => F.2.2.2.2 w (List.mem_cons_of_mem _ (List.mem_append_left _ (List.mem_append_right _ h)))) hP 0 0 0 (by decide) (List.mem_of_getElem? (i := 1) rfl) dX2_slot_27 ?_
          refine qr_gSr F G (fun w h => F.2.2.2.2 w (List.mem_cons_of_mem _ (List.mem_append_right _ h))) hP (hv.2 _ (by decide : 0 < 8)) 5 (by decide) (List.mem_of_getElem? (i := 3) rfl) dX2_slot_30 ?_
          refine lv_iload_n F.1 F.2.1 dX2_slot_33 rfl (lv_at hl 2 rfl) ?_
          obtain ⟨g6, hf⟩ := qg_x hf
          refine qr_row (c := (13 + x2.toNatClampNeg)) F G hP (hv.2 _ (by decide : 0 < 8)) (by decide) (by decide) rfl rfl g6 rfl dX2_slot_34 ?_
          refine lv_iload_n F.1 F.2.1 dX2_slot_35 rfl (lv_at hl 1 rfl) ?_
          obtain ⟨g8, hf⟩ := qg_x hf
          obtain ⟨z7, ez7, hf⟩ := qn_x hf
          refine qr_ald F G hP rfl (qw_row5 (hv.2 _ (by decide : 0 < 8)) (qw_lt g6)) g8 rfl ez7 dX2_slot_36 ?_
          have e9 := qs1 hf
          subst e9
          exact hQ _ _ _ _ hP hS rfl dX2_slot_37
        · replace hf := qi_f c5 hf
          refine lv_iconst (v := (-1 : Int32)) F.1 F.2.1 dX2_slot_24 (by decide) ?_
          have e9 := qs1 hf
          subst e9
          exact hQ _ _ _ _ hP hS rfl dX2_slot_25
set_option maxRecDepth 100000 in
set_option maxHeartbeats 4000000 in
theorem qc_X2_slot (l : Launch) {L : wL} (hJ : qw_J L) {M : wM} {h : Nat → Nat} {x1 : Int32} {x2 : Int32} {r : Int32} (hv : qw_R L) (hf : qf_X2_slot x1 x2 M h = some r) : qw_MI l yX2_slot wsX2_slot rm_X2_slot L (.ref (qw_ad L 8 0) :: [.int x1, .int x2]) M h r M h := by
  refine qw_MI_of (cc := cX2_slot) (maxL := 3) (ty := .int) (by decide) rfl hJ (Nat.le_of_ble_eq_true rfl) ?_
  intro p e s mi below meth co Q ls F G hP hQ hl
  exact qb_X2_slot F G hv hQ _ _ _ _ _ hf hP va_S.rf hl
def rm_X2_confession : Room := { frames := 0, cells := 0, slots := 0, locals := 0 }
theorem e_X2_confession : qw_hd yX2_confession RX2 2 := by decide +kernel
set_option maxRecDepth 100000 in
set_option maxHeartbeats 4000000 in
theorem qb_X2_confession {p : Program} {l : Launch} {e : Env} {s : State} {mi : MethodId} {args : Array Value} {below : List Frame} {meth : Method} {co : Code} {Q : State → Prop} {L : wL} {r : Int32} {M : wM} {h : (Nat → Nat)} (F : CallFix p mi co cX2_confession 3 s args wsX2_confession RX2) (G : qw_G L (qw_A L) s) (hv : qw_R L) (hQ : qw_RI p l e rm_X2_confession s mi args below meth co cX2_confession .int Q L r M h) : ∀ (x1 : Int32) (x2 : Int32) (H : Heap) (locs : List Loc) (ls : Array Slot), qf_X2_confession x1 x2 M h = some r → qw_P L M h H → va_S (qw_A L) s.heap H locs → lv_has ls 3 [(0, .ref (qw_ad L 8 0)), (1, .int x1), (2, .int x2)] → W p l e rm_X2_confession s mi args below meth co H locs 0 0 Q (F0 mi 0 ls []) := by
  intro x1 x2 H locs ls hf hP hS hl
  unfold qf_X2_confession at hf
  refine lv_iload_n F.1 F.2.1 dX2_confession_0 rfl (lv_at hl 1 rfl) ?_
  refine lv_if_lt (tgt := 14) F.1 F.2.1 dX2_confession_1 (by decide) (fun c1 => ?_) (fun c1 => ?_)
  · replace hf := qi_t c1 hf
    refine lv_iconst (v := (-1 : Int32)) F.1 F.2.1 dX2_confession_14 (by decide) ?_
    have e9 := qs1 hf
    subst e9
    exact hQ _ _ _ _ hP hS rfl dX2_confession_15
  · replace hf := qi_f c1 hf
    refine lv_iload_n F.1 F.2.1 dX2_confession_4 rfl (lv_at hl 2 rfl) ?_
    refine lv_if_lt (tgt := 14) F.1 F.2.1 dX2_confession_5 (by decide) (fun c2 => ?_) (fun c2 => ?_)
    · replace hf := qi_t c2 hf
      refine lv_iconst (v := (-1 : Int32)) F.1 F.2.1 dX2_confession_14 (by decide) ?_
      have e9 := qs1 hf
      subst e9
      exact hQ _ _ _ _ hP hS rfl dX2_confession_15
    · replace hf := qi_f c2 hf
      refine lv_iload_n F.1 F.2.1 dX2_confession_8 rfl (lv_at hl 2 rfl) ?_
      refine lv_bipush (v := (nI 6)) F.1 F.2.1 dX2_confession_9 (by decide) ?_
      refine lv_icmp_lt (tgt := 16) F.1 F.2.1 dX2_confession_11 (by decide) (fun c3 => ?_) (fun c3 => ?_)
      · replace hf := qi_t c3 hf
        refine lv_iload_n F.1 F.2.1 dX2_confession_16 rfl (lv_at hl 1 rfl) ?_
        refine lv_aload_n F.1 F.2.1 dX2_confession_17 rfl (lv_at hl 0 rfl) ?_
        refine qr_gRr F G hv.1 (fun w h => F.2.2.2.2 w (List.mem_cons_of_mem _ (List.mem_append_left _ (List.mem_append_right _ h)))) hP 0 0 0 (by decide) (List.mem_of_getElem? (i := 1) rfl) dX2_confession_18 ?_
        obtain ⟨z4, ez4, hf⟩ := qn_x hf
        refine qr_gS F G (fun w h => F.2.2.2.2 w (List.mem_cons_of_mem _ (List.mem_append_right _ h))) hP (hv.2 _ (by decide : 0 < 8)) rfl 6 (by decide) (List.mem_of_getElem? (i := 2) rfl) ez4 dX2_confession_21 ?_
        refine lv_icmp_lt (tgt := 30) F.1 F.2.1 dX2_confession_24 (by decide) (fun c5 => ?_) (fun c5 => ?_)
        · replace hf := qi_t c5 hf
          refine lv_aload_n F.1 F.2.1 dX2_confession_30 rfl (lv_at hl 0 rfl) ?_
          refine qr_gRr F G hv.1 (fun w h => F.2.2.2.2 w (List.mem_cons_of_mem _ (List.mem_append_left _ (List.mem_append_right _ h)))) hP 0 0 0 (by decide) (List.mem_of_getElem? (i := 1) rfl) dX2_confession_31 ?_
          refine qr_gSr F G (fun w h => F.2.2.2.2 w (List.mem_cons_of_mem _ (List.mem_append_right _ h))) hP (hv.2 _ (by decide : 0 < 8)) 7 (by decide) (List.mem_of_getElem? (i := 3) rfl) dX2_confession_34 ?_
          refine lv_iload_n F.1 F.2.1 dX2_confession_37 rfl (lv_at hl 2 rfl) ?_
          obtain ⟨g6, hf⟩ := qg_x hf
          refine qr_row (c := (19 + x2.toNatClampNeg)) F G hP (hv.2 _ (by decide : 0 < 8)) (by decide) (by decide) rfl rfl g6 rfl dX2_confession_38 ?_
          refine lv_iload_n F.1 F.2.1 dX2_confession_39 rfl (lv_at hl 1 rfl) ?_
          obtain ⟨g8, hf⟩ := qg_x hf
          obtain ⟨z7, ez7, hf⟩ := qn_x hf
          refine qr_ald F G hP rfl (qw_row7 (hv.2 _ (by decide : 0 < 8)) (qw_lt g6)) g8 rfl ez7 dX2_confession_40 ?_
          have e9 := qs1 hf
          subst e9
          exact hQ _ _ _ _ hP hS rfl dX2_confession_41
        · replace hf := qi_f c5 hf
          refine lv_bipush (v := (-9 : Int32)) F.1 F.2.1 dX2_confession_27 (by decide) ?_
          have e9 := qs1 hf
          subst e9
          exact hQ _ _ _ _ hP hS rfl dX2_confession_29
      · replace hf := qi_f c3 hf
        refine lv_iconst (v := (-1 : Int32)) F.1 F.2.1 dX2_confession_14 (by decide) ?_
        have e9 := qs1 hf
        subst e9
        exact hQ _ _ _ _ hP hS rfl dX2_confession_15
set_option maxRecDepth 100000 in
set_option maxHeartbeats 4000000 in
theorem qc_X2_confession (l : Launch) {L : wL} (hJ : qw_J L) {M : wM} {h : Nat → Nat} {x1 : Int32} {x2 : Int32} {r : Int32} (hv : qw_R L) (hf : qf_X2_confession x1 x2 M h = some r) : qw_MI l yX2_confession wsX2_confession rm_X2_confession L (.ref (qw_ad L 8 0) :: [.int x1, .int x2]) M h r M h := by
  refine qw_MI_of (cc := cX2_confession) (maxL := 3) (ty := .int) (by decide) rfl hJ (Nat.le_of_ble_eq_true rfl) ?_
  intro p e s mi below meth co Q ls F G hP hQ hl
  exact qb_X2_confession F G hv hQ _ _ _ _ _ hf hP va_S.rf hl
def rm_X2_named : Room := { frames := 0, cells := 0, slots := 0, locals := 0 }
theorem e_X2_named : qw_hd yX2_named RX2 1 := by decide +kernel
set_option maxRecDepth 100000 in
set_option maxHeartbeats 4000000 in
theorem qb_X2_named {p : Program} {l : Launch} {e : Env} {s : State} {mi : MethodId} {args : Array Value} {below : List Frame} {meth : Method} {co : Code} {Q : State → Prop} {L : wL} {r : Int32} {M : wM} {h : (Nat → Nat)} (F : CallFix p mi co cX2_named 2 s args wsX2_named RX2) (G : qw_G L (qw_A L) s) (hv : qw_R L) (hQ : qw_RI p l e rm_X2_named s mi args below meth co cX2_named .int Q L r M h) : ∀ (x1 : Int32) (H : Heap) (locs : List Loc) (ls : Array Slot), qf_X2_named x1 M h = some r → qw_P L M h H → va_S (qw_A L) s.heap H locs → lv_has ls 2 [(0, .ref (qw_ad L 8 0)), (1, .int x1)] → W p l e rm_X2_named s mi args below meth co H locs 0 0 Q (F0 mi 0 ls []) := by
  intro x1 H locs ls hf hP hS hl
  unfold qf_X2_named at hf
  refine lv_iload_n F.1 F.2.1 dX2_named_0 rfl (lv_at hl 1 rfl) ?_
  refine lv_if_lt (tgt := 17) F.1 F.2.1 dX2_named_1 (by decide) (fun c1 => ?_) (fun c1 => ?_)
  · replace hf := qi_t c1 hf
    refine lv_iconst (v := (-1 : Int32)) F.1 F.2.1 dX2_named_17 (by decide) ?_
    have e9 := qs1 hf
    subst e9
    exact hQ _ _ _ _ hP hS rfl dX2_named_18
  · replace hf := qi_f c1 hf
    refine lv_iload_n F.1 F.2.1 dX2_named_4 rfl (lv_at hl 1 rfl) ?_
    refine lv_aload_n F.1 F.2.1 dX2_named_5 rfl (lv_at hl 0 rfl) ?_
    refine qr_gRr F G hv.1 (fun w h => F.2.2.2.2 w (List.mem_cons_of_mem _ (List.mem_append_left _ (List.mem_append_right _ h)))) hP 0 0 0 (by decide) (List.mem_of_getElem? (i := 1) rfl) dX2_named_6 ?_
    refine qr_gSr F G (fun w h => F.2.2.2.2 w (List.mem_cons_of_mem _ (List.mem_append_right _ h))) hP (hv.2 _ (by decide : 0 < 8)) 1 (by decide) (List.mem_of_getElem? (i := 2) rfl) dX2_named_9 ?_
    refine lv_iconst (v := (nI 0)) F.1 F.2.1 dX2_named_12 (by decide) ?_
    obtain ⟨z2, ez2, hf⟩ := qn_x hf
    refine qr_ald F G hP rfl (qw_IS (c := 1) (n := 4) (hv.2 _ (by decide : 0 < 8)) (by decide)) (by unfold vp_in; decide) (by decide) ez2 dX2_named_13 ?_
    refine lv_icmp_lt (tgt := 19) F.1 F.2.1 dX2_named_14 (by decide) (fun c3 => ?_) (fun c3 => ?_)
    · replace hf := qi_t c3 hf
      refine lv_aload_n F.1 F.2.1 dX2_named_19 rfl (lv_at hl 0 rfl) ?_
      refine qr_gRr F G hv.1 (fun w h => F.2.2.2.2 w (List.mem_cons_of_mem _ (List.mem_append_left _ (List.mem_append_right _ h)))) hP 0 0 0 (by decide) (List.mem_of_getElem? (i := 1) rfl) dX2_named_20 ?_
      refine qr_gSr F G (fun w h => F.2.2.2.2 w (List.mem_cons_of_mem _ (List.mem_append_right _ h))) hP (hv.2 _ (by decide : 0 < 8)) 3 (by decide) (List.mem_of_getElem? (i := 3) rfl) dX2_named_23 ?_
      refine lv_iload_n F.1 F.2.1 dX2_named_26 rfl (lv_at hl 1 rfl) ?_
      obtain ⟨g5, hf⟩ := qg_x hf
      obtain ⟨z4, ez4, hf⟩ := qn_x hf
      refine qr_ald F G hP rfl (qw_IS (c := 3) (n := 200) (hv.2 _ (by decide : 0 < 8)) (by decide)) g5 rfl ez4 dX2_named_27 ?_
      have e9 := qs1 hf
      subst e9
      exact hQ _ _ _ _ hP hS rfl dX2_named_28
    · replace hf := qi_f c3 hf
      refine lv_iconst (v := (-1 : Int32)) F.1 F.2.1 dX2_named_17 (by decide) ?_
      have e9 := qs1 hf
      subst e9
      exact hQ _ _ _ _ hP hS rfl dX2_named_18
set_option maxRecDepth 100000 in
set_option maxHeartbeats 4000000 in
theorem qc_X2_named (l : Launch) {L : wL} (hJ : qw_J L) {M : wM} {h : Nat → Nat} {x1 : Int32} {r : Int32} (hv : qw_R L) (hf : qf_X2_named x1 M h = some r) : qw_MI l yX2_named wsX2_named rm_X2_named L (.ref (qw_ad L 8 0) :: [.int x1]) M h r M h := by
  refine qw_MI_of (cc := cX2_named) (maxL := 2) (ty := .int) (by decide) rfl hJ (Nat.le_of_ble_eq_true rfl) ?_
  intro p e s mi below meth co Q ls F G hP hQ hl
  exact qb_X2_named F G hv hQ _ _ _ _ hf hP va_S.rf hl
def rm_X2_worst : Room := { frames := 0, cells := 0, slots := 0, locals := 0 }
theorem e_X2_worst : qw_hd yX2_worst RX2 0 := by decide +kernel
set_option maxRecDepth 100000 in
set_option maxHeartbeats 4000000 in
theorem qb_X2_worst_7 {p : Program} {l : Launch} {e : Env} {s : State} {mi : MethodId} {args : Array Value} {below : List Frame} {meth : Method} {co : Code} {Q : State → Prop} {L : wL} {r : Int32} {M : wM} {h : (Nat → Nat)} (F : CallFix p mi co cX2_worst 4 s args wsX2_worst RX2) (G : qw_G L (qw_A L) s) (hv : qw_R L) (hQ : qw_RI p l e rm_X2_worst s mi args below meth co cX2_worst .int Q L r M h) : ∀ (n : Nat) (x1 : Int32) (x2 : Int32) (x3 : Int32) (H : Heap) (locs : List Loc) (ls : Array Slot), qf_X2_worst_7 n x1 x2 x3 M h = some r → qw_P L M h H → va_S (qw_A L) s.heap H locs → lv_has ls 4 [(0, .ref (qw_ad L 8 0)), (1, .int x1), (2, .int x2), (3, .int x3)] → W p l e rm_X2_worst s mi args below meth co H locs 0 0 Q (F0 mi 7 ls []) := by
  intro n
  induction n with
  | zero =>
    intro x1 x2 x3 H locs ls hf hP hS hl
    rw [qf_X2_worst_7] at hf
    cases hf
  | succ n ih =>
    intro x1 x2 x3 H locs ls hf hP hS hl
    rw [qf_X2_worst_7] at hf
    refine lv_iload_n F.1 F.2.1 dX2_worst_7 rfl (lv_at hl 3 rfl) ?_
    refine lv_aload_n F.1 F.2.1 dX2_worst_8 rfl (lv_at hl 0 rfl) ?_
    refine qr_gRr F G hv.1 (fun w h => F.2.2.2.2 w (List.mem_cons_of_mem _ (List.mem_append_left _ (List.mem_append_right _ h)))) hP 0 0 0 (by decide) (List.mem_of_getElem? (i := 1) rfl) dX2_worst_9 ?_
    refine qr_gSr F G (fun w h => F.2.2.2.2 w (List.mem_cons_of_mem _ (List.mem_append_right _ h))) hP (hv.2 _ (by decide : 0 < 8)) 1 (by decide) (List.mem_of_getElem? (i := 2) rfl) dX2_worst_12 ?_
    refine lv_iconst (v := (nI 0)) F.1 F.2.1 dX2_worst_15 (by decide) ?_
    obtain ⟨z1, ez1, hf⟩ := qn_x hf
    refine qr_ald F G hP rfl (qw_IS (c := 1) (n := 4) (hv.2 _ (by decide : 0 < 8)) (by decide)) (by unfold vp_in; decide) (by decide) ez1 dX2_worst_16 ?_
    refine lv_icmp_ge (tgt := 51) F.1 F.2.1 dX2_worst_17 (by decide) (fun c2 => ?_) (fun c2 => ?_)
    · replace hf := qi_t c2 hf
      refine lv_iload_n F.1 F.2.1 dX2_worst_51 rfl (lv_at hl 1 rfl) ?_
      have e9 := qs1 hf
      subst e9
      exact hQ _ _ _ _ hP hS rfl dX2_worst_52
    · replace hf := qi_f c2 hf
      refine lv_aload_n F.1 F.2.1 dX2_worst_20 rfl (lv_at hl 0 rfl) ?_
      refine qr_gRr F G hv.1 (fun w h => F.2.2.2.2 w (List.mem_cons_of_mem _ (List.mem_append_left _ (List.mem_append_right _ h)))) hP 0 0 0 (by decide) (List.mem_of_getElem? (i := 1) rfl) dX2_worst_21 ?_
      refine qr_gSr F G (fun w h => F.2.2.2.2 w (List.mem_cons_of_mem _ (List.mem_append_right _ h))) hP (hv.2 _ (by decide : 0 < 8)) 3 (by decide) (List.mem_of_getElem? (i := 3) rfl) dX2_worst_24 ?_
      refine lv_iload_n F.1 F.2.1 dX2_worst_27 rfl (lv_at hl 3 rfl) ?_
      obtain ⟨g4, hf⟩ := qg_x hf
      obtain ⟨z3, ez3, hf⟩ := qn_x hf
      refine qr_ald F G hP rfl (qw_IS (c := 3) (n := 200) (hv.2 _ (by decide : 0 < 8)) (by decide)) g4 rfl ez3 dX2_worst_28 ?_
      refine lv_iload_n F.1 F.2.1 dX2_worst_29 rfl (lv_at hl 2 rfl) ?_
      refine lv_icmp_le (tgt := 45) F.1 F.2.1 dX2_worst_30 (by decide) (fun c5 => ?_) (fun c5 => ?_)
      · replace hf := qi_t c5 hf
        obtain ⟨z6, ez6, hf⟩ := qn_x hf
        refine lv_iinc (v := z6) (lv' := [(3, .int z6), (0, .ref (qw_ad L 8 0)), (1, .int x1), (2, .int x2)]) F.1 F.2.1 dX2_worst_45 hl (k := 3) rfl ((qw_ii1 _).trans ez6.symm) (by decide) rfl (fun ls hl => ?_)
        refine lv_goto (tgt := 7) F.1 F.2.1 dX2_worst_48 (by decide) ?_
        exact ih _ _ _ _ _ _ hf hP hS (lv_sub hl [1, 2, 3, 0] rfl)
      · replace hf := qi_f c5 hf
        refine lv_aload_n F.1 F.2.1 dX2_worst_33 rfl (lv_at hl 0 rfl) ?_
        refine qr_gRr F G hv.1 (fun w h => F.2.2.2.2 w (List.mem_cons_of_mem _ (List.mem_append_left _ (List.mem_append_right _ h)))) hP 0 0 0 (by decide) (List.mem_of_getElem? (i := 1) rfl) dX2_worst_34 ?_
        refine qr_gSr F G (fun w h => F.2.2.2.2 w (List.mem_cons_of_mem _ (List.mem_append_right _ h))) hP (hv.2 _ (by decide : 0 < 8)) 3 (by decide) (List.mem_of_getElem? (i := 3) rfl) dX2_worst_37 ?_
        refine lv_iload_n F.1 F.2.1 dX2_worst_40 rfl (lv_at hl 3 rfl) ?_
        obtain ⟨g8, hf⟩ := qg_x hf
        obtain ⟨z7, ez7, hf⟩ := qn_x hf
        refine qr_ald F G hP rfl (qw_IS (c := 3) (n := 200) (hv.2 _ (by decide : 0 < 8)) (by decide)) g8 rfl ez7 dX2_worst_41 ?_
        refine lv_istore_n (lv' := [(2, .int z7), (0, .ref (qw_ad L 8 0)), (1, .int x1), (3, .int x3)]) F.1 F.2.1 dX2_worst_42 rfl hl (by decide) rfl (fun ls hl => ?_)
        refine lv_iload_n F.1 F.2.1 dX2_worst_43 rfl (lv_at hl 3 rfl) ?_
        refine lv_istore_n (lv' := [(1, .int x3), (2, .int z7), (0, .ref (qw_ad L 8 0)), (3, .int x3)]) F.1 F.2.1 dX2_worst_44 rfl hl (by decide) rfl (fun ls hl => ?_)
        obtain ⟨z9, ez9, hf⟩ := qn_x hf
        refine lv_iinc (v := z9) (lv' := [(3, .int z9), (1, .int x3), (2, .int z7), (0, .ref (qw_ad L 8 0))]) F.1 F.2.1 dX2_worst_45 hl (k := 3) rfl ((qw_ii1 _).trans ez9.symm) (by decide) rfl (fun ls hl => ?_)
        refine lv_goto (tgt := 7) F.1 F.2.1 dX2_worst_48 (by decide) ?_
        exact ih _ _ _ _ _ _ hf hP hS (lv_sub hl [3, 1, 2, 0] rfl)
set_option maxRecDepth 100000 in
set_option maxHeartbeats 4000000 in
theorem qb_X2_worst {p : Program} {l : Launch} {e : Env} {s : State} {mi : MethodId} {args : Array Value} {below : List Frame} {meth : Method} {co : Code} {Q : State → Prop} {L : wL} {r : Int32} {M : wM} {h : (Nat → Nat)} (F : CallFix p mi co cX2_worst 4 s args wsX2_worst RX2) (G : qw_G L (qw_A L) s) (hv : qw_R L) (hQ : qw_RI p l e rm_X2_worst s mi args below meth co cX2_worst .int Q L r M h) : ∀ (H : Heap) (locs : List Loc) (ls : Array Slot), qf_X2_worst M h = some r → qw_P L M h H → va_S (qw_A L) s.heap H locs → lv_has ls 4 [(0, .ref (qw_ad L 8 0))] → W p l e rm_X2_worst s mi args below meth co H locs 0 0 Q (F0 mi 0 ls []) := by
  intro  H locs ls hf hP hS hl
  unfold qf_X2_worst at hf
  refine lv_bipush (v := (-9 : Int32)) F.1 F.2.1 dX2_worst_0 (by decide) ?_
  refine lv_istore_n (lv' := [(1, .int (-9 : Int32)), (0, .ref (qw_ad L 8 0))]) F.1 F.2.1 dX2_worst_2 rfl hl (by decide) rfl (fun ls hl => ?_)
  refine lv_iconst (v := (nI 0)) F.1 F.2.1 dX2_worst_3 (by decide) ?_
  refine lv_istore_n (lv' := [(2, .int (nI 0)), (1, .int (-9 : Int32)), (0, .ref (qw_ad L 8 0))]) F.1 F.2.1 dX2_worst_4 rfl hl (by decide) rfl (fun ls hl => ?_)
  refine lv_iconst (v := (nI 0)) F.1 F.2.1 dX2_worst_5 (by decide) ?_
  refine lv_istore_n (lv' := [(3, .int (nI 0)), (2, .int (nI 0)), (1, .int (-9 : Int32)), (0, .ref (qw_ad L 8 0))]) F.1 F.2.1 dX2_worst_6 rfl hl (by decide) rfl (fun ls hl => ?_)
  exact qb_X2_worst_7 F G hv hQ _ _ _ _ _ _ _ hf hP hS (lv_sub hl [3, 2, 1, 0] rfl)
set_option maxRecDepth 100000 in
set_option maxHeartbeats 4000000 in
theorem qc_X2_worst (l : Launch) {L : wL} (hJ : qw_J L) {M : wM} {h : Nat → Nat} {r : Int32} (hv : qw_R L) (hf : qf_X2_worst M h = some r) : qw_MI l yX2_worst wsX2_worst rm_X2_worst L (.ref (qw_ad L 8 0) :: []) M h r M h := by
  refine qw_MI_of (cc := cX2_worst) (maxL := 4) (ty := .int) (by decide) rfl hJ (Nat.le_of_ble_eq_true rfl) ?_
  intro p e s mi below meth co Q ls F G hP hQ hl
  exact qb_X2_worst F G hv hQ _ _ _ hf hP va_S.rf hl
