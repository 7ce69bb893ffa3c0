def rm_J7_fill_53178 : Room := { frames := 0, cells := 0, slots := 0, locals := 0 }
theorem e_J7_fill_53178 : qw_hd yJ7_fill_53178 RJ7 2 := by decide +kernel
set_option maxRecDepth 100000 in
set_option maxHeartbeats 4000000 in
theorem qb_J7_fill_53178_5 {p : Program} {l : Launch} {e : Env} {s : State} {mi : MethodId} {args : Array Value} {below : List Frame} {meth : Method} {co : Code} {Q : State → Prop} {L : wL} {M : wM} {k : Nat} {h : Nat → Nat} {ca : Nat} {le : Nat} {m9 : wm} (F : CallFix p mi co cJ7_fill_53178 4 s args wsJ7_fill_53178 RJ7) (G : qw_G L (qw_A L) s) (hI : qw_I L k ca le) (hQ : qw_RV p l e rm_J7_fill_53178 s mi args below meth co cJ7_fill_53178 Q L (qw_u1 M k m9) h) : ∀ (n : Nat) (x1 : Int32) (x2 : Int32) (x3 : Int32) (m : wm) (H : Heap) (locs : List Loc) (ls : Array Slot), qf_J7_fill_53178_5 n ca le x1 x2 x3 m = some m9 → qw_P L (qw_u1 M k m) h H → va_S (qw_A L) s.heap H locs → lv_has ls 4 [(0, .ref (qw_ad L k ca)), (1, .int x1), (2, .int x2), (3, .int x3)] → W p l e rm_J7_fill_53178 s mi args below meth co H locs 0 0 Q (F0 mi 5 ls []) := by
  intro n
  induction n with
  | zero =>
    intro x1 x2 x3 m H locs ls hf hP hS hl
    rw [qf_J7_fill_53178_5] at hf
    cases hf
  | succ n ih =>
    intro x1 x2 x3 m H locs ls hf hP hS hl
    rw [qf_J7_fill_53178_5] at hf
    refine lv_iload_n F.1 F.2.1 dJ7_fill_53178_5 rfl (lv_at hl 2 rfl) ?_
    refine lv_iload_n F.1 F.2.1 dJ7_fill_53178_6 rfl (lv_at hl 3 rfl) ?_
    refine lv_icmp_ge (tgt := 20) F.1 F.2.1 dJ7_fill_53178_7 (by decide) (fun c1 => ?_) (fun c1 => ?_)
    · replace hf := qi_t c1 hf
      have e8 := qs1 hf
      subst e8
      exact hQ _ _ _ _ hP hS dJ7_fill_53178_20
    · replace hf := qi_f c1 hf
      refine lv_aload_n F.1 F.2.1 dJ7_fill_53178_10 rfl (lv_at hl 0 rfl) ?_
      refine lv_iload_n F.1 F.2.1 dJ7_fill_53178_11 rfl (lv_at hl 2 rfl) ?_
      refine lv_iload_n F.1 F.2.1 dJ7_fill_53178_12 rfl (lv_at hl 1 rfl) ?_
      obtain ⟨g2, hf⟩ := qg_x hf
      obtain ⟨m3, em3, hf⟩ := qn_x hf
      refine qr_ast F G hP hS (qw_u1s _ _ _) hI g2 rfl (qw_fx em3) dJ7_fill_53178_13 (fun H locs hP hS => ?_)
      obtain ⟨z4, ez4, hf⟩ := qn_x hf
      refine lv_iinc (v := z4) (lv' := [(2, .int z4), (0, .ref (qw_ad L k ca)), (1, .int x1), (3, .int x3)]) F.1 F.2.1 dJ7_fill_53178_14 hl (k := 2) rfl ((qw_ii1 _).trans ez4.symm) (by decide) rfl (fun ls hl => ?_)
      refine lv_goto (tgt := 5) F.1 F.2.1 dJ7_fill_53178_17 (by decide) ?_
      exact ih _ _ _ _ _ _ _ hf hP hS (lv_sub hl [1, 2, 0, 3] rfl)
set_option maxRecDepth 100000 in
set_option maxHeartbeats 4000000 in
theorem qb_J7_fill_53178 {p : Program} {l : Launch} {e : Env} {s : State} {mi : MethodId} {args : Array Value} {below : List Frame} {meth : Method} {co : Code} {Q : State → Prop} {L : wL} {M : wM} {k : Nat} {h : Nat → Nat} {ca : Nat} {le : Nat} {m9 : wm} (F : CallFix p mi co cJ7_fill_53178 4 s args wsJ7_fill_53178 RJ7) (G : qw_G L (qw_A L) s) (hI : qw_I L k ca le) (hQ : qw_RV p l e rm_J7_fill_53178 s mi args below meth co cJ7_fill_53178 Q L (qw_u1 M k m9) h) : ∀ (x1 : Int32) (m : wm) (H : Heap) (locs : List Loc) (ls : Array Slot), qf_J7_fill_53178 ca le x1 m = some m9 → qw_P L (qw_u1 M k m) h H → va_S (qw_A L) s.heap H locs → lv_has ls 4 [(0, .ref (qw_ad L k ca)), (1, .int x1)] → W p l e rm_J7_fill_53178 s mi args below meth co H locs 0 0 Q (F0 mi 0 ls []) := by
  intro x1 m H locs ls hf hP hS hl
  unfold qf_J7_fill_53178 at hf
  refine lv_iconst (v := (nI 0)) F.1 F.2.1 dJ7_fill_53178_0 (by decide) ?_
  refine lv_istore_n (lv' := [(2, .int (nI 0)), (0, .ref (qw_ad L k ca)), (1, .int x1)]) F.1 F.2.1 dJ7_fill_53178_1 rfl hl (by decide) rfl (fun ls hl => ?_)
  refine lv_aload_n F.1 F.2.1 dJ7_fill_53178_2 rfl (lv_at hl 1 rfl) ?_
  obtain ⟨z1, ez1, hf⟩ := qn_x hf
  refine qr_len F G hP hI ez1 dJ7_fill_53178_3 ?_
  refine lv_istore_n (lv' := [(3, .int z1), (2, .int (nI 0)), (0, .ref (qw_ad L k ca)), (1, .int x1)]) F.1 F.2.1 dJ7_fill_53178_4 rfl hl (by decide) rfl (fun ls hl => ?_)
  exact qb_J7_fill_53178_5 F G hI hQ _ _ _ _ _ _ _ _ hf hP hS (lv_sub hl [2, 3, 1, 0] rfl)
set_option maxRecDepth 100000 in
set_option maxHeartbeats 4000000 in
theorem qc_J7_fill_53178 (l : Launch) {L : wL} (hJ : qw_J L) {k : Nat} {ca le : Nat} {X X9 : wM} {h : Nat → Nat} {m m9 : wm} (hX : X k = m) (hX9 : qw_u1 X k m9 = X9) {x1 : Int32} (hI : qw_I L k ca le) (hf : qf_J7_fill_53178 ca le x1 m = some m9) : qw_MV l yJ7_fill_53178 wsJ7_fill_53178 rm_J7_fill_53178 L [.ref (qw_ad L k ca), .int x1] X h X9 h := by
  subst hX
  subst hX9
  refine qw_MV_of (cc := cJ7_fill_53178) (maxL := 4) (by decide) rfl hJ (Nat.le_of_ble_eq_true rfl) ?_
  intro p e s mi below meth co Q ls F G hP hQ hl
  exact qb_J7_fill_53178 F G hI hQ _ _ _ _ _ hf (by rw [qw_u1i]; exact hP) va_S.rf hl
def rm_X0_beginAnew : Room := { frames := 1, cells := 0, slots := 0, locals := 23 }
theorem e_X0_beginAnew : qw_hd yX0_beginAnew RX0 1 := by decide +kernel
set_option maxRecDepth 100000 in
set_option maxHeartbeats 4000000 in
theorem qb_X0_beginAnew {p : Program} {l : Launch} {e : Env} {s : State} {mi : MethodId} {args : Array Value} {below : List Frame} {meth : Method} {co : Code} {Q : State → Prop} {L : wL} {M : wM} {k : Nat} {h : Nat → Nat} {m9 : wm} (F : CallFix p mi co cX0_beginAnew 2 s args wsX0_beginAnew RX0) (G : qw_G L (qw_A L) s) (hk : qw_k L k) (hQ : qw_RV p l e rm_X0_beginAnew s mi args below meth co cX0_beginAnew Q L (qw_u1 M k m9) h) : ∀ (x1 : Int32) (m : wm) (H : Heap) (locs : List Loc) (ls : Array Slot), qf_X0_beginAnew x1 m = some m9 → qw_P L (qw_u1 M k m) h H → va_S (qw_A L) s.heap H locs → lv_has ls 2 [(0, .ref (qw_ad L k 0)), (1, .int x1)] → W p l e rm_X0_beginAnew s mi args below meth co H locs 0 0 Q (F0 mi 0 ls []) := by
  intro x1 m H locs ls hf hP hS hl
  unfold qf_X0_beginAnew at hf
  refine lv_aload_n F.1 F.2.1 dX0_beginAnew_0 rfl (lv_at hl 0 rfl) ?_
  refine lv_iload_n F.1 F.2.1 dX0_beginAnew_1 rfl (lv_at hl 1 rfl) ?_
  obtain ⟨m1, em1, hf⟩ := qn_x hf
  refine qr_pS F G (fun w h => F.2.2.2.2 w (List.mem_cons_of_mem _ (List.mem_append_right _ h))) hP hS hk (qw_u1s _ _ _) 1 (by decide) (List.mem_of_getElem? (i := 1) rfl) (qw_fx em1) dX0_beginAnew_2 (fun H locs hP hS => ?_)
  refine lv_aload_n F.1 F.2.1 dX0_beginAnew_5 rfl (lv_at hl 0 rfl) ?_
  refine lv_iload_n F.1 F.2.1 dX0_beginAnew_6 rfl (lv_at hl 1 rfl) ?_
  refine lv_iconst (v := (nI 1)) F.1 F.2.1 dX0_beginAnew_7 (by decide) ?_
  obtain ⟨z2, ez2, hf⟩ := qn_x hf
  refine qr_isub F ez2 dX0_beginAnew_8 ?_
  obtain ⟨m3, em3, hf⟩ := qn_x hf
  refine qr_pS F G (fun w h => F.2.2.2.2 w (List.mem_cons_of_mem _ (List.mem_append_right _ h))) hP hS hk (qw_u1s _ _ _) 2 (by decide) (List.mem_of_getElem? (i := 2) rfl) (qw_fx em3) dX0_beginAnew_9 (fun H locs hP hS => ?_)
  refine lv_aload_n F.1 F.2.1 dX0_beginAnew_12 rfl (lv_at hl 0 rfl) ?_
  refine lv_iconst (v := (nI 0)) F.1 F.2.1 dX0_beginAnew_13 (by decide) ?_
  obtain ⟨m4, em4, hf⟩ := qn_x hf
  refine qr_pS F G (fun w h => F.2.2.2.2 w (List.mem_cons_of_mem _ (List.mem_append_right _ h))) hP hS hk (qw_u1s _ _ _) 3 (by decide) (List.mem_of_getElem? (i := 3) rfl) (qw_fx em4) dX0_beginAnew_14 (fun H locs hP hS => ?_)
  refine lv_aload_n F.1 F.2.1 dX0_beginAnew_17 rfl (lv_at hl 0 rfl) ?_
  refine lv_iconst (v := (nI 0)) F.1 F.2.1 dX0_beginAnew_18 (by decide) ?_
  obtain ⟨m5, em5, hf⟩ := qn_x hf
  refine qr_pS F G (fun w h => F.2.2.2.2 w (List.mem_cons_of_mem _ (List.mem_append_right _ h))) hP hS hk (qw_u1s _ _ _) 4 (by decide) (List.mem_of_getElem? (i := 4) rfl) (qw_fx em5) dX0_beginAnew_19 (fun H locs hP hS => ?_)
  refine lv_aload_n F.1 F.2.1 dX0_beginAnew_22 rfl (lv_at hl 0 rfl) ?_
  refine lv_iconst (v := (nI 0)) F.1 F.2.1 dX0_beginAnew_23 (by decide) ?_
  obtain ⟨m6, em6, hf⟩ := qn_x hf
  refine qr_pS F G (fun w h => F.2.2.2.2 w (List.mem_cons_of_mem _ (List.mem_append_right _ h))) hP hS hk (qw_u1s _ _ _) 5 (by decide) (List.mem_of_getElem? (i := 5) rfl) (qw_fx em6) dX0_beginAnew_24 (fun H locs hP hS => ?_)
  refine lv_aload_n F.1 F.2.1 dX0_beginAnew_27 rfl (lv_at hl 0 rfl) ?_
  refine lv_iconst (v := (nI 0)) F.1 F.2.1 dX0_beginAnew_28 (by decide) ?_
  obtain ⟨m7, em7, hf⟩ := qn_x hf
  refine qr_pS F G (fun w h => F.2.2.2.2 w (List.mem_cons_of_mem _ (List.mem_append_right _ h))) hP hS hk (qw_u1s _ _ _) 6 (by decide) (List.mem_of_getElem? (i := 6) rfl) (qw_fx em7) dX0_beginAnew_29 (fun H locs hP hS => ?_)
  refine lv_aload_n F.1 F.2.1 dX0_beginAnew_32 rfl (lv_at hl 0 rfl) ?_
  refine qr_gSr F G (fun w h => F.2.2.2.2 w (List.mem_cons_of_mem _ (List.mem_append_right _ h))) hP hk 1 (by decide) (List.mem_of_getElem? (i := 7) rfl) dX0_beginAnew_33 ?_
  refine lv_iconst (v := (nI 0)) F.1 F.2.1 dX0_beginAnew_36 (by decide) ?_
  obtain ⟨m9, k8, hf⟩ := qb1_x hf
  refine qr_cSv F G hP hS (qc_J7_fill_53178 l G.2.1 (qw_u1s _ _ _) (qw_fx rfl) (qw_IS (c := 1) (n := 4) hk (by decide)) k8) gX0_beginAnew_J7_fill_53178 rfl ⟨rfl, rfl⟩ e_J7_fill_53178 ⟨Nat.le_of_ble_eq_true rfl, Nat.le_of_ble_eq_true rfl⟩ rfl hl.1 rfl (Nat.le_of_ble_eq_true rfl) ⟨Nat.zero_le _, Nat.zero_le _⟩ dX0_beginAnew_37 (fun H locs hP hS => ?_)
  refine lv_aload_n F.1 F.2.1 dX0_beginAnew_40 rfl (lv_at hl 0 rfl) ?_
  refine qr_gSr F G (fun w h => F.2.2.2.2 w (List.mem_cons_of_mem _ (List.mem_append_right _ h))) hP hk 2 (by decide) (List.mem_of_getElem? (i := 8) rfl) dX0_beginAnew_41 ?_
  refine lv_iconst (v := (nI 0)) F.1 F.2.1 dX0_beginAnew_44 (by decide) ?_
  obtain ⟨m11, k10, hf⟩ := qb1_x hf
  refine qr_cSv F G hP hS (qc_J7_fill_53178 l G.2.1 (qw_u1s _ _ _) (qw_fx rfl) (qw_IS (c := 2) (n := 4) hk (by decide)) k10) gX0_beginAnew_J7_fill_53178 rfl ⟨rfl, rfl⟩ e_J7_fill_53178 ⟨Nat.le_of_ble_eq_true rfl, Nat.le_of_ble_eq_true rfl⟩ rfl hl.1 rfl (Nat.le_of_ble_eq_true rfl) ⟨Nat.zero_le _, Nat.zero_le _⟩ dX0_beginAnew_45 (fun H locs hP hS => ?_)
  refine lv_aload_n F.1 F.2.1 dX0_beginAnew_48 rfl (lv_at hl 0 rfl) ?_
  refine qr_gSr F G (fun w h => F.2.2.2.2 w (List.mem_cons_of_mem _ (List.mem_append_right _ h))) hP hk 3 (by decide) (List.mem_of_getElem? (i := 9) rfl) dX0_beginAnew_49 ?_
  refine lv_iconst (v := (nI 0)) F.1 F.2.1 dX0_beginAnew_52 (by decide) ?_
  obtain ⟨m13, k12, hf⟩ := qb1_x hf
  refine qr_cSv F G hP hS (qc_J7_fill_53178 l G.2.1 (qw_u1s _ _ _) (qw_fx rfl) (qw_IS (c := 3) (n := 200) hk (by decide)) k12) gX0_beginAnew_J7_fill_53178 rfl ⟨rfl, rfl⟩ e_J7_fill_53178 ⟨Nat.le_of_ble_eq_true rfl, Nat.le_of_ble_eq_true rfl⟩ rfl hl.1 rfl (Nat.le_of_ble_eq_true rfl) ⟨Nat.zero_le _, Nat.zero_le _⟩ dX0_beginAnew_53 (fun H locs hP hS => ?_)
  refine lv_aload_n F.1 F.2.1 dX0_beginAnew_56 rfl (lv_at hl 0 rfl) ?_
  refine qr_gSr F G (fun w h => F.2.2.2.2 w (List.mem_cons_of_mem _ (List.mem_append_right _ h))) hP hk 5 (by decide) (List.mem_of_getElem? (i := 10) rfl) dX0_beginAnew_57 ?_
  refine lv_iconst (v := (nI 0)) F.1 F.2.1 dX0_beginAnew_60 (by decide) ?_
  refine qr_row (c := 13) F G hP hk (by decide) (by decide) rfl rfl (by unfold vp_in; decide) (by decide) dX0_beginAnew_61 ?_
  refine lv_bipush (v := (-9 : Int32)) F.1 F.2.1 dX0_beginAnew_62 (by decide) ?_
  obtain ⟨m15, k14, hf⟩ := qb1_x hf
  refine qr_cSv F G hP hS (qc_J7_fill_53178 l G.2.1 (qw_u1s _ _ _) (qw_fx rfl) (qw_IS (c := 13) (n := 16) hk (by decide)) k14) gX0_beginAnew_J7_fill_53178 rfl ⟨rfl, rfl⟩ e_J7_fill_53178 ⟨Nat.le_of_ble_eq_true rfl, Nat.le_of_ble_eq_true rfl⟩ rfl hl.1 rfl (Nat.le_of_ble_eq_true rfl) ⟨Nat.zero_le _, Nat.zero_le _⟩ dX0_beginAnew_64 (fun H locs hP hS => ?_)
  refine lv_aload_n F.1 F.2.1 dX0_beginAnew_67 rfl (lv_at hl 0 rfl) ?_
  refine qr_gSr F G (fun w h => F.2.2.2.2 w (List.mem_cons_of_mem _ (List.mem_append_right _ h))) hP hk 5 (by decide) (List.mem_of_getElem? (i := 10) rfl) dX0_beginAnew_68 ?_
  refine lv_iconst (v := (nI 1)) F.1 F.2.1 dX0_beginAnew_71 (by decide) ?_
  refine qr_row (c := 14) F G hP hk (by decide) (by decide) rfl rfl (by unfold vp_in; decide) (by decide) dX0_beginAnew_72 ?_
  refine lv_bipush (v := (-9 : Int32)) F.1 F.2.1 dX0_beginAnew_73 (by decide) ?_
  obtain ⟨m17, k16, hf⟩ := qb1_x hf
  refine qr_cSv F G hP hS (qc_J7_fill_53178 l G.2.1 (qw_u1s _ _ _) (qw_fx rfl) (qw_IS (c := 14) (n := 16) hk (by decide)) k16) gX0_beginAnew_J7_fill_53178 rfl ⟨rfl, rfl⟩ e_J7_fill_53178 ⟨Nat.le_of_ble_eq_true rfl, Nat.le_of_ble_eq_true rfl⟩ rfl hl.1 rfl (Nat.le_of_ble_eq_true rfl) ⟨Nat.zero_le _, Nat.zero_le _⟩ dX0_beginAnew_75 (fun H locs hP hS => ?_)
  refine lv_aload_n F.1 F.2.1 dX0_beginAnew_78 rfl (lv_at hl 0 rfl) ?_
  refine qr_gSr F G (fun w h => F.2.2.2.2 w (List.mem_cons_of_mem _ (List.mem_append_right _ h))) hP hk 5 (by decide) (List.mem_of_getElem? (i := 10) rfl) dX0_beginAnew_79 ?_
  refine lv_iconst (v := (nI 2)) F.1 F.2.1 dX0_beginAnew_82 (by decide) ?_
  refine qr_row (c := 15) F G hP hk (by decide) (by decide) rfl rfl (by unfold vp_in; decide) (by decide) dX0_beginAnew_83 ?_
  refine lv_iconst (v := (nI 0)) F.1 F.2.1 dX0_beginAnew_84 (by decide) ?_
  obtain ⟨m19, k18, hf⟩ := qb1_x hf
  refine qr_cSv F G hP hS (qc_J7_fill_53178 l G.2.1 (qw_u1s _ _ _) (qw_fx rfl) (qw_IS (c := 15) (n := 16) hk (by decide)) k18) gX0_beginAnew_J7_fill_53178 rfl ⟨rfl, rfl⟩ e_J7_fill_53178 ⟨Nat.le_of_ble_eq_true rfl, Nat.le_of_ble_eq_true rfl⟩ rfl hl.1 rfl (Nat.le_of_ble_eq_true rfl) ⟨Nat.zero_le _, Nat.zero_le _⟩ dX0_beginAnew_85 (fun H locs hP hS => ?_)
  have e8 := qs1 hf
  subst e8
  exact hQ _ _ _ _ hP hS dX0_beginAnew_88
set_option maxRecDepth 100000 in
set_option maxHeartbeats 4000000 in
theorem qc_X0_beginAnew (l : Launch) {L : wL} (hJ : qw_J L) {k : Nat} {X X9 : wM} {h : Nat → Nat} {m m9 : wm} (hX : X k = m) (hX9 : qw_u1 X k m9 = X9) {x1 : Int32} (hk : qw_k L k) (hf : qf_X0_beginAnew x1 m = some m9) : qw_MV l yX0_beginAnew wsX0_beginAnew rm_X0_beginAnew L (.ref (qw_ad L k 0) :: [.int x1]) X h X9 h := by
  subst hX
  subst hX9
  refine qw_MV_of (cc := cX0_beginAnew) (maxL := 2) (by decide) rfl hJ (Nat.le_of_ble_eq_true rfl) ?_
  intro p e s mi below meth co Q ls F G hP hQ hl
  exact qb_X0_beginAnew F G hk hQ _ _ _ _ _ hf (by rw [qw_u1i]; exact hP) va_S.rf hl
def rm_X0_copyRows : Room := { frames := 1, cells := 0, slots := 0, locals := 40 }
theorem e_X0_copyRows : qw_hd yX0_copyRows RX0 3 := by decide +kernel
set_option maxRecDepth 100000 in
set_option maxHeartbeats 4000000 in
theorem qb_X0_copyRows_2 {p : Program} {l : Launch} {e : Env} {s : State} {mi : MethodId} {args : Array Value} {below : List Frame} {meth : Method} {co : Code} {Q : State → Prop} {L : wL} {M : wM} {k : Nat} {h : Nat → Nat} {ko : Nat} {t : Nat} {mo : wm} {m9 : wm} (F : CallFix p mi co cX0_copyRows 4 s args wsX0_copyRows RX0) (G : qw_G L (qw_A L) s) (hk : qw_k L k) (hko : qw_k L ko) (hne : ko ≠ k) (hmo : M ko = mo) (ht4 : 4 ≤ t) (ht8 : t < 8) (hQ : qw_RV p l e rm_X0_copyRows s mi args below meth co cX0_copyRows Q L (qw_u1 M k m9) h) : ∀ (n : Nat) (x2 : Int32) (x3 : Int32) (m : wm) (H : Heap) (locs : List Loc) (ls : Array Slot), qf_X0_copyRows_2 n t mo x2 x3 m = some m9 → qw_P L (qw_u1 M k m) h H → va_S (qw_A L) s.heap H locs → lv_has ls 4 [(0, .ref (qw_ad L ko t)), (1, .ref (qw_ad L k t)), (2, .int x2), (3, .int x3)] → W p l e rm_X0_copyRows s mi args below meth co H locs 0 0 Q (F0 mi 2 ls []) := by
  intro n
  induction n with
  | zero =>
    intro x2 x3 m H locs ls hf hP hS hl
    rw [qf_X0_copyRows_2] at hf
    cases hf
  | succ n ih =>
    intro x2 x3 m H locs ls hf hP hS hl
    rw [qf_X0_copyRows_2] at hf
    refine lv_iload_n F.1 F.2.1 dX0_copyRows_2 rfl (lv_at hl 3 rfl) ?_
    refine lv_aload_n F.1 F.2.1 dX0_copyRows_3 rfl (lv_at hl 1 rfl) ?_
    obtain ⟨z1, ez1, hf⟩ := qn_x hf
    refine qr_lenT F G hP hk ht4 ht8 ez1 dX0_copyRows_4 ?_
    refine lv_icmp_ge (tgt := 26) F.1 F.2.1 dX0_copyRows_5 (by decide) (fun c2 => ?_) (fun c2 => ?_)
    · replace hf := qi_t c2 hf
      have e8 := qs1 hf
      subst e8
      exact hQ _ _ _ _ hP hS dX0_copyRows_26
    · replace hf := qi_f c2 hf
      refine lv_aload_n F.1 F.2.1 dX0_copyRows_8 rfl (lv_at hl 0 rfl) ?_
      refine lv_iload_n F.1 F.2.1 dX0_copyRows_9 rfl (lv_at hl 3 rfl) ?_
      obtain ⟨g3, hf⟩ := qg_x hf
      refine qr_row (c := ((qw_rb t) + x3.toNatClampNeg)) F G hP hko ht4 ht8 rfl rfl g3 rfl dX0_copyRows_10 ?_
      refine lv_iconst (v := (nI 0)) F.1 F.2.1 dX0_copyRows_11 (by decide) ?_
      refine lv_aload_n F.1 F.2.1 dX0_copyRows_12 rfl (lv_at hl 1 rfl) ?_
      refine lv_iload_n F.1 F.2.1 dX0_copyRows_13 rfl (lv_at hl 3 rfl) ?_
      obtain ⟨g4, hf⟩ := qg_x hf
      refine qr_row (c := ((qw_rb t) + x3.toNatClampNeg)) F G hP hk ht4 ht8 rfl rfl g4 rfl dX0_copyRows_14 ?_
      refine lv_iconst (v := (nI 0)) F.1 F.2.1 dX0_copyRows_15 (by decide) ?_
      refine lv_iload_n F.1 F.2.1 dX0_copyRows_16 rfl (lv_at hl 2 rfl) ?_
      obtain ⟨g5, hf⟩ := qg_x hf
      obtain ⟨g6, hf⟩ := qg_x hf
      obtain ⟨g7, hf⟩ := qg_x hf
      obtain ⟨m8, em8, hf⟩ := qn_x hf
      refine qr_cpy F G hP hS (qw_u1s _ _ _) (qw_rowT hko ht4 ht8 (qw_lt g3)) (qw_rowT hk ht4 ht8 (qw_lt g4)) (congrFun ((qw_u1n M _ hne).trans hmo) _) (by decide) (by decide) g5 (by decide) (by decide) rfl g6 g7 (qw_fx em8) (List.mem_of_getElem? (i := 1) rfl) (List.mem_of_getElem? (i := 2) rfl) (List.mem_of_getElem? (i := 3) rfl) (List.mem_of_getElem? (i := 4) rfl) hl.1 (Nat.le_of_ble_eq_true rfl) (Nat.le_of_ble_eq_true rfl) dX0_copyRows_17 (fun H locs hP hS => ?_)
      obtain ⟨z9, ez9, hf⟩ := qn_x hf
      refine lv_iinc (v := z9) (lv' := [(3, .int z9), (0, .ref (qw_ad L ko t)), (1, .ref (qw_ad L k t)), (2, .int x2)]) F.1 F.2.1 dX0_copyRows_20 hl (k := 3) rfl ((qw_ii1 _).trans ez9.symm) (by decide) rfl (fun ls hl => ?_)
      refine lv_goto (tgt := 2) F.1 F.2.1 dX0_copyRows_23 (by decide) ?_
      exact ih _ _ _ _ _ _ hf hP hS (lv_sub hl [1, 2, 3, 0] rfl)
set_option maxRecDepth 100000 in
set_option maxHeartbeats 4000000 in
theorem qb_X0_copyRows {p : Program} {l : Launch} {e : Env} {s : State} {mi : MethodId} {args : Array Value} {below : List Frame} {meth : Method} {co : Code} {Q : State → Prop} {L : wL} {M : wM} {k : Nat} {h : Nat → Nat} {ko : Nat} {t : Nat} {mo : wm} {m9 : wm} (F : CallFix p mi co cX0_copyRows 4 s args wsX0_copyRows RX0) (G : qw_G L (qw_A L) s) (hk : qw_k L k) (hko : qw_k L ko) (hne : ko ≠ k) (hmo : M ko = mo) (ht4 : 4 ≤ t) (ht8 : t < 8) (hQ : qw_RV p l e rm_X0_copyRows s mi args below meth co cX0_copyRows Q L (qw_u1 M k m9) h) : ∀ (x2 : Int32) (m : wm) (H : Heap) (locs : List Loc) (ls : Array Slot), qf_X0_copyRows t mo x2 m = some m9 → qw_P L (qw_u1 M k m) h H → va_S (qw_A L) s.heap H locs → lv_has ls 4 [(0, .ref (qw_ad L ko t)), (1, .ref (qw_ad L k t)), (2, .int x2)] → W p l e rm_X0_copyRows s mi args below meth co H locs 0 0 Q (F0 mi 0 ls []) := by
  intro x2 m H locs ls hf hP hS hl
  unfold qf_X0_copyRows at hf
  refine lv_iconst (v := (nI 0)) F.1 F.2.1 dX0_copyRows_0 (by decide) ?_
  refine lv_istore_n (lv' := [(3, .int (nI 0)), (0, .ref (qw_ad L ko t)), (1, .ref (qw_ad L k t)), (2, .int x2)]) F.1 F.2.1 dX0_copyRows_1 rfl hl (by decide) rfl (fun ls hl => ?_)
  exact qb_X0_copyRows_2 F G hk hko hne hmo ht4 ht8 hQ _ _ _ _ _ _ _ hf hP hS (lv_sub hl [1, 2, 3, 0] rfl)
set_option maxRecDepth 100000 in
set_option maxHeartbeats 4000000 in
theorem qc_X0_copyRows (l : Launch) {L : wL} (hJ : qw_J L) {k : Nat} {t : Nat} {mo : wm} {ko : Nat} {X X9 : wM} {h : Nat → Nat} {m m9 : wm} (hX : X k = m) (hX9 : qw_u1 X k m9 = X9) {x2 : Int32} (hk : qw_k L k) (hko : qw_k L ko) (hne : ko ≠ k) (hmo : X ko = mo) (ht4 : 4 ≤ t) (ht8 : t < 8) (hf : qf_X0_copyRows t mo x2 m = some m9) : qw_MV l yX0_copyRows wsX0_copyRows rm_X0_copyRows L [.ref (qw_ad L ko t), .ref (qw_ad L k t), .int x2] X h X9 h := by
  subst hX
  subst hX9
  refine qw_MV_of (cc := cX0_copyRows) (maxL := 4) (by decide) rfl hJ (Nat.le_of_ble_eq_true rfl) ?_
  intro p e s mi below meth co Q ls F G hP hQ hl
  exact qb_X0_copyRows F G hk hko hne hmo ht4 ht8 hQ _ _ _ _ _ hf (by rw [qw_u1i]; exact hP) va_S.rf hl
def rm_X0_copyFrom : Room := { frames := 2, cells := 0, slots := 0, locals := 63 }
theorem e_X0_copyFrom : qw_hd yX0_copyFrom RX0 1 := by decide +kernel
set_option maxRecDepth 100000 in
set_option maxHeartbeats 4000000 in
theorem qb_X0_copyFrom {p : Program} {l : Launch} {e : Env} {s : State} {mi : MethodId} {args : Array Value} {below : List Frame} {meth : Method} {co : Code} {Q : State → Prop} {L : wL} {M : wM} {k : Nat} {h : Nat → Nat} {ko : Nat} {mo : wm} {m9 : wm} (F : CallFix p mi co cX0_copyFrom 2 s args wsX0_copyFrom RX0) (G : qw_G L (qw_A L) s) (hk : qw_k L k) (hko : qw_k L ko) (hne : ko ≠ k) (hmo : M ko = mo) (hQ : qw_RV p l e rm_X0_copyFrom s mi args below meth co cX0_copyFrom Q L (qw_u1 M k m9) h) : ∀ (m : wm) (H : Heap) (locs : List Loc) (ls : Array Slot), qf_X0_copyFrom mo m = some m9 → qw_P L (qw_u1 M k m) h H → va_S (qw_A L) s.heap H locs → lv_has ls 2 [(0, .ref (qw_ad L k 0)), (1, .ref (qw_ad L ko 0))] → W p l e rm_X0_copyFrom s mi args below meth co H locs 0 0 Q (F0 mi 0 ls []) := by
  intro m H locs ls hf hP hS hl
  unfold qf_X0_copyFrom at hf
  refine lv_aload_n F.1 F.2.1 dX0_copyFrom_0 rfl (lv_at hl 0 rfl) ?_
  refine lv_aload_n F.1 F.2.1 dX0_copyFrom_1 rfl (lv_at hl 1 rfl) ?_
  obtain ⟨z1, ez1, hf⟩ := qn_x hf
  refine qr_gS F G (fun w h => F.2.2.2.2 w (List.mem_cons_of_mem _ (List.mem_append_right _ h))) hP hko ((qw_u1n M _ hne).trans hmo) 0 (by decide) (List.mem_of_getElem? (i := 1) rfl) ez1 dX0_copyFrom_2 ?_
  obtain ⟨m2, em2, hf⟩ := qn_x hf
  refine qr_pS F G (fun w h => F.2.2.2.2 w (List.mem_cons_of_mem _ (List.mem_append_right _ h))) hP hS hk (qw_u1s _ _ _) 0 (by decide) (List.mem_of_getElem? (i := 1) rfl) (qw_fx em2) dX0_copyFrom_5 (fun H locs hP hS => ?_)
  refine lv_aload_n F.1 F.2.1 dX0_copyFrom_8 rfl (lv_at hl 0 rfl) ?_
  refine lv_aload_n F.1 F.2.1 dX0_copyFrom_9 rfl (lv_at hl 1 rfl) ?_
  obtain ⟨z3, ez3, hf⟩ := qn_x hf
  refine qr_gS F G (fun w h => F.2.2.2.2 w (List.mem_cons_of_mem _ (List.mem_append_right _ h))) hP hko ((qw_u1n M _ hne).trans hmo) 1 (by decide) (List.mem_of_getElem? (i := 2) rfl) ez3 dX0_copyFrom_10 ?_
  obtain ⟨m4, em4, hf⟩ := qn_x hf
  refine qr_pS F G (fun w h => F.2.2.2.2 w (List.mem_cons_of_mem _ (List.mem_append_right _ h))) hP hS hk (qw_u1s _ _ _) 1 (by decide) (List.mem_of_getElem? (i := 2) rfl) (qw_fx em4) dX0_copyFrom_13 (fun H locs hP hS => ?_)
  refine lv_aload_n F.1 F.2.1 dX0_copyFrom_16 rfl (lv_at hl 0 rfl) ?_
  refine lv_aload_n F.1 F.2.1 dX0_copyFrom_17 rfl (lv_at hl 1 rfl) ?_
  obtain ⟨z5, ez5, hf⟩ := qn_x hf
  refine qr_gS F G (fun w h => F.2.2.2.2 w (List.mem_cons_of_mem _ (List.mem_append_right _ h))) hP hko ((qw_u1n M _ hne).trans hmo) 2 (by decide) (List.mem_of_getElem? (i := 3) rfl) ez5 dX0_copyFrom_18 ?_
  obtain ⟨m6, em6, hf⟩ := qn_x hf
  refine qr_pS F G (fun w h => F.2.2.2.2 w (List.mem_cons_of_mem _ (List.mem_append_right _ h))) hP hS hk (qw_u1s _ _ _) 2 (by decide) (List.mem_of_getElem? (i := 3) rfl) (qw_fx em6) dX0_copyFrom_21 (fun H locs hP hS => ?_)
  refine lv_aload_n F.1 F.2.1 dX0_copyFrom_24 rfl (lv_at hl 0 rfl) ?_
  refine lv_aload_n F.1 F.2.1 dX0_copyFrom_25 rfl (lv_at hl 1 rfl) ?_
  obtain ⟨z7, ez7, hf⟩ := qn_x hf
  refine qr_gS F G (fun w h => F.2.2.2.2 w (List.mem_cons_of_mem _ (List.mem_append_right _ h))) hP hko ((qw_u1n M _ hne).trans hmo) 3 (by decide) (List.mem_of_getElem? (i := 4) rfl) ez7 dX0_copyFrom_26 ?_
  obtain ⟨m8, em8, hf⟩ := qn_x hf
  refine qr_pS F G (fun w h => F.2.2.2.2 w (List.mem_cons_of_mem _ (List.mem_append_right _ h))) hP hS hk (qw_u1s _ _ _) 3 (by decide) (List.mem_of_getElem? (i := 4) rfl) (qw_fx em8) dX0_copyFrom_29 (fun H locs hP hS => ?_)
  refine lv_aload_n F.1 F.2.1 dX0_copyFrom_32 rfl (lv_at hl 0 rfl) ?_
  refine lv_aload_n F.1 F.2.1 dX0_copyFrom_33 rfl (lv_at hl 1 rfl) ?_
  obtain ⟨z9, ez9, hf⟩ := qn_x hf
  refine qr_gS F G (fun w h => F.2.2.2.2 w (List.mem_cons_of_mem _ (List.mem_append_right _ h))) hP hko ((qw_u1n M _ hne).trans hmo) 4 (by decide) (List.mem_of_getElem? (i := 5) rfl) ez9 dX0_copyFrom_34 ?_
  obtain ⟨m10, em10, hf⟩ := qn_x hf
  refine qr_pS F G (fun w h => F.2.2.2.2 w (List.mem_cons_of_mem _ (List.mem_append_right _ h))) hP hS hk (qw_u1s _ _ _) 4 (by decide) (List.mem_of_getElem? (i := 5) rfl) (qw_fx em10) dX0_copyFrom_37 (fun H locs hP hS => ?_)
  refine lv_aload_n F.1 F.2.1 dX0_copyFrom_40 rfl (lv_at hl 0 rfl) ?_
  refine lv_aload_n F.1 F.2.1 dX0_copyFrom_41 rfl (lv_at hl 1 rfl) ?_
  obtain ⟨z11, ez11, hf⟩ := qn_x hf
  refine qr_gS F G (fun w h => F.2.2.2.2 w (List.mem_cons_of_mem _ (List.mem_append_right _ h))) hP hko ((qw_u1n M _ hne).trans hmo) 5 (by decide) (List.mem_of_getElem? (i := 6) rfl) ez11 dX0_copyFrom_42 ?_
  obtain ⟨m12, em12, hf⟩ := qn_x hf
  refine qr_pS F G (fun w h => F.2.2.2.2 w (List.mem_cons_of_mem _ (List.mem_append_right _ h))) hP hS hk (qw_u1s _ _ _) 5 (by decide) (List.mem_of_getElem? (i := 6) rfl) (qw_fx em12) dX0_copyFrom_45 (fun H locs hP hS => ?_)
  refine lv_aload_n F.1 F.2.1 dX0_copyFrom_48 rfl (lv_at hl 0 rfl) ?_
  refine lv_aload_n F.1 F.2.1 dX0_copyFrom_49 rfl (lv_at hl 1 rfl) ?_
  obtain ⟨z13, ez13, hf⟩ := qn_x hf
  refine qr_gS F G (fun w h => F.2.2.2.2 w (List.mem_cons_of_mem _ (List.mem_append_right _ h))) hP hko ((qw_u1n M _ hne).trans hmo) 6 (by decide) (List.mem_of_getElem? (i := 7) rfl) ez13 dX0_copyFrom_50 ?_
  obtain ⟨m14, em14, hf⟩ := qn_x hf
  refine qr_pS F G (fun w h => F.2.2.2.2 w (List.mem_cons_of_mem _ (List.mem_append_right _ h))) hP hS hk (qw_u1s _ _ _) 6 (by decide) (List.mem_of_getElem? (i := 7) rfl) (qw_fx em14) dX0_copyFrom_53 (fun H locs hP hS => ?_)
  refine lv_aload_n F.1 F.2.1 dX0_copyFrom_56 rfl (lv_at hl 1 rfl) ?_
  refine qr_gSr F G (fun w h => F.2.2.2.2 w (List.mem_cons_of_mem _ (List.mem_append_right _ h))) hP hko 1 (by decide) (List.mem_of_getElem? (i := 8) rfl) dX0_copyFrom_57 ?_
  refine lv_iconst (v := (nI 0)) F.1 F.2.1 dX0_copyFrom_60 (by decide) ?_
  refine lv_aload_n F.1 F.2.1 dX0_copyFrom_61 rfl (lv_at hl 0 rfl) ?_
  refine qr_gSr F G (fun w h => F.2.2.2.2 w (List.mem_cons_of_mem _ (List.mem_append_right _ h))) hP hk 1 (by decide) (List.mem_of_getElem? (i := 8) rfl) dX0_copyFrom_62 ?_
  refine lv_iconst (v := (nI 0)) F.1 F.2.1 dX0_copyFrom_65 (by decide) ?_
  refine lv_iconst (v := (nI 4)) F.1 F.2.1 dX0_copyFrom_66 (by decide) ?_
  obtain ⟨m15, em15, hf⟩ := qn_x hf
  refine qr_cpy F G hP hS (qw_u1s _ _ _) (qw_IS (c := 1) (n := 4) hko (by decide)) (qw_IS (c := 1) (n := 4) hk (by decide)) (congrFun ((qw_u1n M _ hne).trans hmo) _) (by decide) (by decide) (by decide) (by decide) (by decide) (by decide) (by decide) (by decide) (qw_fx em15) (List.mem_of_getElem? (i := 9) rfl) (List.mem_of_getElem? (i := 10) rfl) (List.mem_of_getElem? (i := 11) rfl) (List.mem_of_getElem? (i := 12) rfl) hl.1 (Nat.le_of_ble_eq_true rfl) (Nat.le_of_ble_eq_true rfl) dX0_copyFrom_67 (fun H locs hP hS => ?_)
  refine lv_aload_n F.1 F.2.1 dX0_copyFrom_70 rfl (lv_at hl 1 rfl) ?_
  refine qr_gSr F G (fun w h => F.2.2.2.2 w (List.mem_cons_of_mem _ (List.mem_append_right _ h))) hP hko 2 (by decide) (List.mem_of_getElem? (i := 13) rfl) dX0_copyFrom_71 ?_
  refine lv_iconst (v := (nI 0)) F.1 F.2.1 dX0_copyFrom_74 (by decide) ?_
  refine lv_aload_n F.1 F.2.1 dX0_copyFrom_75 rfl (lv_at hl 0 rfl) ?_
  refine qr_gSr F G (fun w h => F.2.2.2.2 w (List.mem_cons_of_mem _ (List.mem_append_right _ h))) hP hk 2 (by decide) (List.mem_of_getElem? (i := 13) rfl) dX0_copyFrom_76 ?_
  refine lv_iconst (v := (nI 0)) F.1 F.2.1 dX0_copyFrom_79 (by decide) ?_
  refine lv_iconst (v := (nI 4)) F.1 F.2.1 dX0_copyFrom_80 (by decide) ?_
  obtain ⟨m16, em16, hf⟩ := qn_x hf
  refine qr_cpy F G hP hS (qw_u1s _ _ _) (qw_IS (c := 2) (n := 4) hko (by decide)) (qw_IS (c := 2) (n := 4) hk (by decide)) (congrFun ((qw_u1n M _ hne).trans hmo) _) (by decide) (by decide) (by decide) (by decide) (by decide) (by decide) (by decide) (by decide) (qw_fx em16) (List.mem_of_getElem? (i := 9) rfl) (List.mem_of_getElem? (i := 10) rfl) (List.mem_of_getElem? (i := 11) rfl) (List.mem_of_getElem? (i := 12) rfl) hl.1 (Nat.le_of_ble_eq_true rfl) (Nat.le_of_ble_eq_true rfl) dX0_copyFrom_81 (fun H locs hP hS => ?_)
  refine lv_aload_n F.1 F.2.1 dX0_copyFrom_84 rfl (lv_at hl 1 rfl) ?_
  refine qr_gSr F G (fun w h => F.2.2.2.2 w (List.mem_cons_of_mem _ (List.mem_append_right _ h))) hP hko 3 (by decide) (List.mem_of_getElem? (i := 14) rfl) dX0_copyFrom_85 ?_
  refine lv_iconst (v := (nI 0)) F.1 F.2.1 dX0_copyFrom_88 (by decide) ?_
  refine lv_aload_n F.1 F.2.1 dX0_copyFrom_89 rfl (lv_at hl 0 rfl) ?_
  refine qr_gSr F G (fun w h => F.2.2.2.2 w (List.mem_cons_of_mem _ (List.mem_append_right _ h))) hP hk 3 (by decide) (List.mem_of_getElem? (i := 14) rfl) dX0_copyFrom_90 ?_
  refine lv_iconst (v := (nI 0)) F.1 F.2.1 dX0_copyFrom_93 (by decide) ?_
  refine lv_sipush (v := (nI 200)) F.1 F.2.1 dX0_copyFrom_94 (by decide) ?_
  obtain ⟨m17, em17, hf⟩ := qn_x hf
  refine qr_cpy F G hP hS (qw_u1s _ _ _) (qw_IS (c := 3) (n := 200) hko (by decide)) (qw_IS (c := 3) (n := 200) hk (by decide)) (congrFun ((qw_u1n M _ hne).trans hmo) _) (by decide) (by decide) (by decide) (by decide) (by decide) (by decide) (by decide) (by decide) (qw_fx em17) (List.mem_of_getElem? (i := 9) rfl) (List.mem_of_getElem? (i := 10) rfl) (List.mem_of_getElem? (i := 11) rfl) (List.mem_of_getElem? (i := 12) rfl) hl.1 (Nat.le_of_ble_eq_true rfl) (Nat.le_of_ble_eq_true rfl) dX0_copyFrom_97 (fun H locs hP hS => ?_)
  refine lv_aload_n F.1 F.2.1 dX0_copyFrom_100 rfl (lv_at hl 1 rfl) ?_
  refine qr_gSr F G (fun w h => F.2.2.2.2 w (List.mem_cons_of_mem _ (List.mem_append_right _ h))) hP hko 4 (by decide) (List.mem_of_getElem? (i := 15) rfl) dX0_copyFrom_101 ?_
  refine lv_aload_n F.1 F.2.1 dX0_copyFrom_104 rfl (lv_at hl 0 rfl) ?_
  refine qr_gSr F G (fun w h => F.2.2.2.2 w (List.mem_cons_of_mem _ (List.mem_append_right _ h))) hP hk 4 (by decide) (List.mem_of_getElem? (i := 15) rfl) dX0_copyFrom_105 ?_
  refine lv_bipush (v := (nI 40)) F.1 F.2.1 dX0_copyFrom_108 (by decide) ?_
  obtain ⟨m19, k18, hf⟩ := qb1_x hf
  refine qr_cSv F G hP hS (qc_X0_copyRows l G.2.1 (qw_u1s _ _ _) (qw_fx rfl) hk hko hne ((qw_u1n M _ hne).trans hmo) (by decide) (by decide) k18) gX0_copyFrom_X0_copyRows rfl ⟨rfl, rfl⟩ e_X0_copyRows ⟨Nat.le_of_ble_eq_true rfl, Nat.le_of_ble_eq_true rfl⟩ rfl hl.1 rfl (Nat.le_of_ble_eq_true rfl) ⟨Nat.zero_le _, Nat.zero_le _⟩ dX0_copyFrom_110 (fun H locs hP hS => ?_)
  refine lv_aload_n F.1 F.2.1 dX0_copyFrom_113 rfl (lv_at hl 1 rfl) ?_
  refine qr_gSr F G (fun w h => F.2.2.2.2 w (List.mem_cons_of_mem _ (List.mem_append_right _ h))) hP hko 5 (by decide) (List.mem_of_getElem? (i := 16) rfl) dX0_copyFrom_114 ?_
  refine lv_aload_n F.1 F.2.1 dX0_copyFrom_117 rfl (lv_at hl 0 rfl) ?_
  refine qr_gSr F G (fun w h => F.2.2.2.2 w (List.mem_cons_of_mem _ (List.mem_append_right _ h))) hP hk 5 (by decide) (List.mem_of_getElem? (i := 16) rfl) dX0_copyFrom_118 ?_
  refine lv_bipush (v := (nI 16)) F.1 F.2.1 dX0_copyFrom_121 (by decide) ?_
  obtain ⟨m21, k20, hf⟩ := qb1_x hf
  refine qr_cSv F G hP hS (qc_X0_copyRows l G.2.1 (qw_u1s _ _ _) (qw_fx rfl) hk hko hne ((qw_u1n M _ hne).trans hmo) (by decide) (by decide) k20) gX0_copyFrom_X0_copyRows rfl ⟨rfl, rfl⟩ e_X0_copyRows ⟨Nat.le_of_ble_eq_true rfl, Nat.le_of_ble_eq_true rfl⟩ rfl hl.1 rfl (Nat.le_of_ble_eq_true rfl) ⟨Nat.zero_le _, Nat.zero_le _⟩ dX0_copyFrom_123 (fun H locs hP hS => ?_)
  refine lv_aload_n F.1 F.2.1 dX0_copyFrom_126 rfl (lv_at hl 1 rfl) ?_
  refine qr_gSr F G (fun w h => F.2.2.2.2 w (List.mem_cons_of_mem _ (List.mem_append_right _ h))) hP hko 6 (by decide) (List.mem_of_getElem? (i := 17) rfl) dX0_copyFrom_127 ?_
  refine lv_aload_n F.1 F.2.1 dX0_copyFrom_130 rfl (lv_at hl 0 rfl) ?_
  refine qr_gSr F G (fun w h => F.2.2.2.2 w (List.mem_cons_of_mem _ (List.mem_append_right _ h))) hP hk 6 (by decide) (List.mem_of_getElem? (i := 17) rfl) dX0_copyFrom_131 ?_
  refine lv_sipush (v := (nI 200)) F.1 F.2.1 dX0_copyFrom_134 (by decide) ?_
  obtain ⟨m23, k22, hf⟩ := qb1_x hf
  refine qr_cSv F G hP hS (qc_X0_copyRows l G.2.1 (qw_u1s _ _ _) (qw_fx rfl) hk hko hne ((qw_u1n M _ hne).trans hmo) (by decide) (by decide) k22) gX0_copyFrom_X0_copyRows rfl ⟨rfl, rfl⟩ e_X0_copyRows ⟨Nat.le_of_ble_eq_true rfl, Nat.le_of_ble_eq_true rfl⟩ rfl hl.1 rfl (Nat.le_of_ble_eq_true rfl) ⟨Nat.zero_le _, Nat.zero_le _⟩ dX0_copyFrom_137 (fun H locs hP hS => ?_)
  refine lv_aload_n F.1 F.2.1 dX0_copyFrom_140 rfl (lv_at hl 1 rfl) ?_
  refine qr_gSr F G (fun w h => F.2.2.2.2 w (List.mem_cons_of_mem _ (List.mem_append_right _ h))) hP hko 7 (by decide) (List.mem_of_getElem? (i := 18) rfl) dX0_copyFrom_141 ?_
  refine lv_aload_n F.1 F.2.1 dX0_copyFrom_144 rfl (lv_at hl 0 rfl) ?_
  refine qr_gSr F G (fun w h => F.2.2.2.2 w (List.mem_cons_of_mem _ (List.mem_append_right _ h))) hP hk 7 (by decide) (List.mem_of_getElem? (i := 18) rfl) dX0_copyFrom_145 ?_
  refine lv_bipush (v := (nI 12)) F.1 F.2.1 dX0_copyFrom_148 (by decide) ?_
  obtain ⟨m25, k24, hf⟩ := qb1_x hf
  refine qr_cSv F G hP hS (qc_X0_copyRows l G.2.1 (qw_u1s _ _ _) (qw_fx rfl) hk hko hne ((qw_u1n M _ hne).trans hmo) (by decide) (by decide) k24) gX0_copyFrom_X0_copyRows rfl ⟨rfl, rfl⟩ e_X0_copyRows ⟨Nat.le_of_ble_eq_true rfl, Nat.le_of_ble_eq_true rfl⟩ rfl hl.1 rfl (Nat.le_of_ble_eq_true rfl) ⟨Nat.zero_le _, Nat.zero_le _⟩ dX0_copyFrom_150 (fun H locs hP hS => ?_)
  have e8 := qs1 hf
  subst e8
  exact hQ _ _ _ _ hP hS dX0_copyFrom_153
set_option maxRecDepth 100000 in
set_option maxHeartbeats 4000000 in
theorem qc_X0_copyFrom (l : Launch) {L : wL} (hJ : qw_J L) {k : Nat} {mo : wm} {ko : Nat} {X X9 : wM} {h : Nat → Nat} {m m9 : wm} (hX : X k = m) (hX9 : qw_u1 X k m9 = X9) (hk : qw_k L k) (hko : qw_k L ko) (hne : ko ≠ k) (hmo : X ko = mo) (hf : qf_X0_copyFrom mo m = some m9) : qw_MV l yX0_copyFrom wsX0_copyFrom rm_X0_copyFrom L (.ref (qw_ad L k 0) :: [.ref (qw_ad L ko 0)]) X h X9 h := by
  subst hX
  subst hX9
  refine qw_MV_of (cc := cX0_copyFrom) (maxL := 2) (by decide) rfl hJ (Nat.le_of_ble_eq_true rfl) ?_
  intro p e s mi below meth co Q ls F G hP hQ hl
  exact qb_X0_copyFrom F G hk hko hne hmo hQ _ _ _ _ hf (by rw [qw_u1i]; exact hP) va_S.rf hl
def rm_X0_isNumberFor : Room := { frames := 0, cells := 0, slots := 0, locals := 0 }
theorem e_X0_isNumberFor : qw_hd yX0_isNumberFor RX0 2 := by decide +kernel
set_option maxRecDepth 100000 in
set_option maxHeartbeats 4000000 in
theorem qb_X0_isNumberFor {p : Program} {l : Launch} {e : Env} {s : State} {mi : MethodId} {args : Array Value} {below : List Frame} {meth : Method} {co : Code} {Q : State → Prop} {L : wL} {X : wM} {h : Nat → Nat} {r : Int32} (F : CallFix p mi co cX0_isNumberFor 2 s args wsX0_isNumberFor RX0) (G : qw_G L (qw_A L) s) (hQ : qw_RI p l e rm_X0_isNumberFor s mi args below meth co cX0_isNumberFor .boolean Q L r X h) : ∀ (x0 : Int32) (x1 : Int32) (H : Heap) (locs : List Loc) (ls : Array Slot), qf_X0_isNumberFor x0 x1 = some r → qw_P L X h H → va_S (qw_A L) s.heap H locs → lv_has ls 2 [(0, .int x0), (1, .int x1)] → W p l e rm_X0_isNumberFor s mi args below meth co H locs 0 0 Q (F0 mi 0 ls []) := by
  intro x0 x1 H locs ls hf hP hS hl
  unfold qf_X0_isNumberFor at hf
  refine lv_iload_n F.1 F.2.1 dX0_isNumberFor_0 rfl (lv_at hl 0 rfl) ?_
  refine lv_if_ne (tgt := 21) F.1 F.2.1 dX0_isNumberFor_1 (by decide) (fun c1 => ?_) (fun c1 => ?_)
  · replace hf := qi_f c1 hf
    refine lv_iload_n F.1 F.2.1 dX0_isNumberFor_21 rfl (lv_at hl 0 rfl) ?_
    refine lv_iconst (v := (nI 3)) F.1 F.2.1 dX0_isNumberFor_22 (by decide) ?_
    refine lv_icmp_ne (tgt := 37) F.1 F.2.1 dX0_isNumberFor_23 (by decide) (fun c2 => ?_) (fun c2 => ?_)
    · replace hf := qi_f c2 hf
      refine lv_iconst (v := (nI 1)) F.1 F.2.1 dX0_isNumberFor_37 (by decide) ?_
      refine lv_goto (tgt := 42) F.1 F.2.1 dX0_isNumberFor_38 (by decide) ?_
      have e9 := qs1 hf
      subst e9
      exact hQ _ _ _ _ hP hS rfl dX0_isNumberFor_42
    · replace hf := qi_t c2 hf
      refine lv_iload_n F.1 F.2.1 dX0_isNumberFor_26 rfl (lv_at hl 1 rfl) ?_
      refine lv_iconst (v := (nI 1)) F.1 F.2.1 dX0_isNumberFor_27 (by decide) ?_
      refine lv_icmp_lt (tgt := 41) F.1 F.2.1 dX0_isNumberFor_28 (by decide) (fun c3 => ?_) (fun c3 => ?_)
      · replace hf := qi_t c3 hf
        refine lv_iconst (v := (nI 0)) F.1 F.2.1 dX0_isNumberFor_41 (by decide) ?_
        have e9 := qs1 hf
        subst e9
        exact hQ _ _ _ _ hP hS rfl dX0_isNumberFor_42
      · replace hf := qi_f c3 hf
        refine lv_iload_n F.1 F.2.1 dX0_isNumberFor_31 rfl (lv_at hl 1 rfl) ?_
        refine lv_bipush (v := (nI 40)) F.1 F.2.1 dX0_isNumberFor_32 (by decide) ?_
        refine lv_icmp_gt (tgt := 41) F.1 F.2.1 dX0_isNumberFor_34 (by decide) (fun c4 => ?_) (fun c4 => ?_)
        · replace hf := qi_t c4 hf
          refine lv_iconst (v := (nI 0)) F.1 F.2.1 dX0_isNumberFor_41 (by decide) ?_
          have e9 := qs1 hf
          subst e9
          exact hQ _ _ _ _ hP hS rfl dX0_isNumberFor_42
        · replace hf := qi_f c4 hf
          refine lv_iconst (v := (nI 1)) F.1 F.2.1 dX0_isNumberFor_37 (by decide) ?_
          refine lv_goto (tgt := 42) F.1 F.2.1 dX0_isNumberFor_38 (by decide) ?_
          have e9 := qs1 hf
          subst e9
          exact hQ _ _ _ _ hP hS rfl dX0_isNumberFor_42
  · replace hf := qi_t c1 hf
    refine lv_iload_n F.1 F.2.1 dX0_isNumberFor_4 rfl (lv_at hl 1 rfl) ?_
    refine lv_if_lt (tgt := 19) F.1 F.2.1 dX0_isNumberFor_5 (by decide) (fun c5 => ?_) (fun c5 => ?_)
    · replace hf := qi_t c5 hf
      refine lv_iconst (v := (nI 0)) F.1 F.2.1 dX0_isNumberFor_19 (by decide) ?_
      have e9 := qs1 hf
      subst e9
      exact hQ _ _ _ _ hP hS rfl dX0_isNumberFor_20
    · replace hf := qi_f c5 hf
      refine lv_iload_n F.1 F.2.1 dX0_isNumberFor_8 rfl (lv_at hl 1 rfl) ?_
      refine lv_sipush (v := (nI 999)) F.1 F.2.1 dX0_isNumberFor_9 (by decide) ?_
      refine lv_icmp_gt (tgt := 19) F.1 F.2.1 dX0_isNumberFor_12 (by decide) (fun c6 => ?_) (fun c6 => ?_)
      · replace hf := qi_t c6 hf
        refine lv_iconst (v := (nI 0)) F.1 F.2.1 dX0_isNumberFor_19 (by decide) ?_
        have e9 := qs1 hf
        subst e9
        exact hQ _ _ _ _ hP hS rfl dX0_isNumberFor_20
      · replace hf := qi_f c6 hf
        refine lv_iconst (v := (nI 1)) F.1 F.2.1 dX0_isNumberFor_15 (by decide) ?_
        refine lv_goto (tgt := 20) F.1 F.2.1 dX0_isNumberFor_16 (by decide) ?_
        have e9 := qs1 hf
        subst e9
        exact hQ _ _ _ _ hP hS rfl dX0_isNumberFor_20
set_option maxRecDepth 100000 in
set_option maxHeartbeats 4000000 in
theorem qc_X0_isNumberFor (l : Launch) {L : wL} (hJ : qw_J L) {X : wM} {h : Nat → Nat} {x0 : Int32} {x1 : Int32} {r : Int32} (hf : qf_X0_isNumberFor x0 x1 = some r) : qw_MI l yX0_isNumberFor wsX0_isNumberFor rm_X0_isNumberFor L [.int x0, .int x1] X h r X h := by
  refine qw_MI_of (cc := cX0_isNumberFor) (maxL := 2) (ty := .boolean) (by decide) rfl hJ (Nat.le_of_ble_eq_true rfl) ?_
  intro p e s mi below meth co Q ls F G hP hQ hl
  exact qb_X0_isNumberFor F G  hQ _ _ _ _ _ hf hP va_S.rf hl
def rm_X0_framesNeeded : Room := { frames := 0, cells := 0, slots := 0, locals := 0 }
theorem e_X0_framesNeeded : qw_hd yX0_framesNeeded RX0 2 := by decide +kernel
set_option maxRecDepth 100000 in
set_option maxHeartbeats 4000000 in
theorem qb_X0_framesNeeded {p : Program} {l : Launch} {e : Env} {s : State} {mi : MethodId} {args : Array Value} {below : List Frame} {meth : Method} {co : Code} {Q : State → Prop} {L : wL} {X : wM} {h : Nat → Nat} {r : Int32} (F : CallFix p mi co cX0_framesNeeded 2 s args wsX0_framesNeeded RX0) (G : qw_G L (qw_A L) s) (hQ : qw_RI p l e rm_X0_framesNeeded s mi args below meth co cX0_framesNeeded .int Q L r X h) : ∀ (x0 : Int32) (x1 : Int32) (H : Heap) (locs : List Loc) (ls : Array Slot), qf_X0_framesNeeded x0 x1 = some r → qw_P L X h H → va_S (qw_A L) s.heap H locs → lv_has ls 2 [(0, .int x0), (1, .int x1)] → W p l e rm_X0_framesNeeded s mi args below meth co H locs 0 0 Q (F0 mi 0 ls []) := by
  intro x0 x1 H locs ls hf hP hS hl
  unfold qf_X0_framesNeeded at hf
  refine lv_iload_n F.1 F.2.1 dX0_framesNeeded_0 rfl (lv_at hl 0 rfl) ?_
  by_cases c1 : x0 = (nI 0)
  · replace hf := qi_t c1 hf
    rw [c1]
    refine lv_lookup (tgt := 28) F.1 F.2.1 dX0_framesNeeded_1 (x := (nI 0)) (by decide) rfl (by decide) ?_
    refine lv_iconst (v := (nI 0)) F.1 F.2.1 dX0_framesNeeded_28 (by decide) ?_
    have e9 := qs1 hf
    subst e9
    exact hQ _ _ _ _ hP hS rfl dX0_framesNeeded_29
  replace hf := qi_f c1 hf
  by_cases c2 : x0 = (nI 3)
  · replace hf := qi_t c2 hf
    rw [c2]
    refine lv_lookup (tgt := 30) F.1 F.2.1 dX0_framesNeeded_1 (x := (nI 3)) (by decide) rfl (by decide) ?_
    refine lv_iload_n F.1 F.2.1 dX0_framesNeeded_30 rfl (lv_at hl 1 rfl) ?_
    have e9 := qs1 hf
    subst e9
    exact hQ _ _ _ _ hP hS rfl dX0_framesNeeded_31
  replace hf := qi_f c2 hf
  refine lv_lookup (off := 31) (tgt := 32) F.1 F.2.1 dX0_framesNeeded_1 (by decide) (by rw [lv_osw c1 (show ((nI 0)).toInt = 0 by decide), lv_osw c2 (show ((nI 3)).toInt = 3 by decide)] <;> rfl) (by decide) ?_
  refine lv_iconst (v := (nI 1)) F.1 F.2.1 dX0_framesNeeded_32 (by decide) ?_
  have e9 := qs1 hf
  subst e9
  exact hQ _ _ _ _ hP hS rfl dX0_framesNeeded_33
set_option maxRecDepth 100000 in
set_option maxHeartbeats 4000000 in
theorem qc_X0_framesNeeded (l : Launch) {L : wL} (hJ : qw_J L) {X : wM} {h : Nat → Nat} {x0 : Int32} {x1 : Int32} {r : Int32} (hf : qf_X0_framesNeeded x0 x1 = some r) : qw_MI l yX0_framesNeeded wsX0_framesNeeded rm_X0_framesNeeded L [.int x0, .int x1] X h r X h := by
  refine qw_MI_of (cc := cX0_framesNeeded) (maxL := 2) (ty := .int) (by decide) rfl hJ (Nat.le_of_ble_eq_true rfl) ?_
  intro p e s mi below meth co Q ls F G hP hQ hl
  exact qb_X0_framesNeeded F G  hQ _ _ _ _ _ hf hP va_S.rf hl
def rm_X0_errorOf : Room := { frames := 1, cells := 0, slots := 0, locals := 21 }
theorem e_X0_errorOf : qw_hd yX0_errorOf RX0 3 := by decide +kernel
set_option maxRecDepth 100000 in
set_option maxHeartbeats 4000000 in
theorem qb_X0_errorOf {p : Program} {l : Launch} {e : Env} {s : State} {mi : MethodId} {args : Array Value} {below : List Frame} {meth : Method} {co : Code} {Q : State → Prop} {L : wL} {M : wM} {k : Nat} {h : Nat → Nat} {r : Int32} {m : wm} (F : CallFix p mi co cX0_errorOf 4 s args wsX0_errorOf RX0) (G : qw_G L (qw_A L) s) (hk : qw_k L k) (hQ : qw_RI p l e rm_X0_errorOf s mi args below meth co cX0_errorOf .int Q L r (qw_u1 M k m) h) : ∀ (x1 : Int32) (x2 : Int32) (x3 : Int32) (H : Heap) (locs : List Loc) (ls : Array Slot), qf_X0_errorOf x1 x2 x3 m = some r → qw_P L (qw_u1 M k m) h H → va_S (qw_A L) s.heap H locs → lv_has ls 4 [(0, .ref (qw_ad L k 0)), (1, .int x1), (2, .int x2), (3, .int x3)] → W p l e rm_X0_errorOf s mi args below meth co H locs 0 0 Q (F0 mi 0 ls []) := by
  intro x1 x2 x3 H locs ls hf hP hS hl
  unfold qf_X0_errorOf at hf
  refine lv_iload_n F.1 F.2.1 dX0_errorOf_0 rfl (lv_at hl 2 rfl) ?_
  refine lv_if_lt (tgt := 18) F.1 F.2.1 dX0_errorOf_1 (by decide) (fun c1 => ?_) (fun c1 => ?_)
  · replace hf := qi_t c1 hf
    refine lv_iconst (v := (-1 : Int32)) F.1 F.2.1 dX0_errorOf_18 (by decide) ?_
    have e9 := qs1 hf
    subst e9
    exact hQ _ _ _ _ hP hS rfl dX0_errorOf_19
  · replace hf := qi_f c1 hf
    refine lv_iload_n F.1 F.2.1 dX0_errorOf_4 rfl (lv_at hl 2 rfl) ?_
    refine lv_bipush (v := (nI 15)) F.1 F.2.1 dX0_errorOf_5 (by decide) ?_
    refine lv_icmp_gt (tgt := 18) F.1 F.2.1 dX0_errorOf_7 (by decide) (fun c2 => ?_) (fun c2 => ?_)
    · replace hf := qi_t c2 hf
      refine lv_iconst (v := (-1 : Int32)) F.1 F.2.1 dX0_errorOf_18 (by decide) ?_
      have e9 := qs1 hf
      subst e9
      exact hQ _ _ _ _ hP hS rfl dX0_errorOf_19
    · replace hf := qi_f c2 hf
      refine lv_iload_n F.1 F.2.1 dX0_errorOf_10 rfl (lv_at hl 1 rfl) ?_
      refine lv_iload_n F.1 F.2.1 dX0_errorOf_11 rfl (lv_at hl 3 rfl) ?_
      obtain ⟨r3, k4, hf⟩ := qb1_x hf
      refine qr_cSi F G hP hS (qc_X0_isNumberFor l G.2.1 k4) gX0_errorOf_X0_isNumberFor rfl ⟨rfl, rfl⟩ e_X0_isNumberFor ⟨Nat.le_of_ble_eq_true rfl, Nat.le_of_ble_eq_true rfl⟩ rfl hl.1 rfl (Nat.le_of_ble_eq_true rfl) ⟨Nat.zero_le _, Nat.zero_le _⟩ dX0_errorOf_12 (fun H locs hP hS => ?_)
      refine lv_if_ne (tgt := 20) F.1 F.2.1 dX0_errorOf_15 (by decide) (fun c5 => ?_) (fun c5 => ?_)
      · replace hf := qi_f c5 hf
        refine lv_aload_n F.1 F.2.1 dX0_errorOf_20 rfl (lv_at hl 0 rfl) ?_
        obtain ⟨z6, ez6, hf⟩ := qn_x hf
        refine qr_gS F G (fun w h => F.2.2.2.2 w (List.mem_cons_of_mem _ (List.mem_append_right _ h))) hP hk (qw_u1s _ _ _) 3 (by decide) (List.mem_of_getElem? (i := 1) rfl) ez6 dX0_errorOf_21 ?_
        refine lv_iload_n F.1 F.2.1 dX0_errorOf_24 rfl (lv_at hl 1 rfl) ?_
        refine lv_iload_n F.1 F.2.1 dX0_errorOf_25 rfl (lv_at hl 3 rfl) ?_
        obtain ⟨r7, k8, hf⟩ := qb1_x hf
        refine qr_cSi F G hP hS (qc_X0_framesNeeded l G.2.1 k8) gX0_errorOf_X0_framesNeeded rfl ⟨rfl, rfl⟩ e_X0_framesNeeded ⟨Nat.le_of_ble_eq_true rfl, Nat.le_of_ble_eq_true rfl⟩ rfl hl.1 rfl (Nat.le_of_ble_eq_true rfl) ⟨Nat.zero_le _, Nat.zero_le _⟩ dX0_errorOf_26 (fun H locs hP hS => ?_)
        refine lv_icmp_ge (tgt := 35) F.1 F.2.1 dX0_errorOf_29 (by decide) (fun c9 => ?_) (fun c9 => ?_)
        · replace hf := qi_t c9 hf
          refine lv_aload_n F.1 F.2.1 dX0_errorOf_35 rfl (lv_at hl 0 rfl) ?_
          obtain ⟨z10, ez10, hf⟩ := qn_x hf
          refine qr_gS F G (fun w h => F.2.2.2.2 w (List.mem_cons_of_mem _ (List.mem_append_right _ h))) hP hk (qw_u1s _ _ _) 5 (by decide) (List.mem_of_getElem? (i := 2) rfl) ez10 dX0_errorOf_36 ?_
          refine lv_sipush (v := (nI 200)) F.1 F.2.1 dX0_errorOf_39 (by decide) ?_
          refine lv_icmp_ge (tgt := 58) F.1 F.2.1 dX0_errorOf_42 (by decide) (fun c11 => ?_) (fun c11 => ?_)
          · replace hf := qi_t c11 hf
            refine lv_bipush (v := (-3 : Int32)) F.1 F.2.1 dX0_errorOf_58 (by decide) ?_
            have e9 := qs1 hf
            subst e9
            exact hQ _ _ _ _ hP hS rfl dX0_errorOf_60
          · replace hf := qi_f c11 hf
            refine lv_iload_n F.1 F.2.1 dX0_errorOf_45 rfl (lv_at hl 1 rfl) ?_
            refine lv_if_ne (tgt := 61) F.1 F.2.1 dX0_errorOf_46 (by decide) (fun c12 => ?_) (fun c12 => ?_)
            · replace hf := qi_f c12 hf
              refine lv_iconst (v := (nI 0)) F.1 F.2.1 dX0_errorOf_61 (by decide) ?_
              have e9 := qs1 hf
              subst e9
              exact hQ _ _ _ _ hP hS rfl dX0_errorOf_62
            · replace hf := qi_t c12 hf
              refine lv_aload_n F.1 F.2.1 dX0_errorOf_49 rfl (lv_at hl 0 rfl) ?_
              obtain ⟨z13, ez13, hf⟩ := qn_x hf
              refine qr_gS F G (fun w h => F.2.2.2.2 w (List.mem_cons_of_mem _ (List.mem_append_right _ h))) hP hk (qw_u1s _ _ _) 3 (by decide) (List.mem_of_getElem? (i := 1) rfl) ez13 dX0_errorOf_50 ?_
              refine lv_bipush (v := (nI 40)) F.1 F.2.1 dX0_errorOf_53 (by decide) ?_
              refine lv_icmp_lt (tgt := 61) F.1 F.2.1 dX0_errorOf_55 (by decide) (fun c14 => ?_) (fun c14 => ?_)
              · replace hf := qi_t c14 hf
                refine lv_iconst (v := (nI 0)) F.1 F.2.1 dX0_errorOf_61 (by decide) ?_
                have e9 := qs1 hf
                subst e9
                exact hQ _ _ _ _ hP hS rfl dX0_errorOf_62
              · replace hf := qi_f c14 hf
                refine lv_bipush (v := (-3 : Int32)) F.1 F.2.1 dX0_errorOf_58 (by decide) ?_
                have e9 := qs1 hf
                subst e9
                exact hQ _ _ _ _ hP hS rfl dX0_errorOf_60
        · replace hf := qi_f c9 hf
          refine lv_bipush (v := (-2 : Int32)) F.1 F.2.1 dX0_errorOf_32 (by decide) ?_
          have e9 := qs1 hf
          subst e9
          exact hQ _ _ _ _ hP hS rfl dX0_errorOf_34
      · replace hf := qi_t c5 hf
        refine lv_iconst (v := (-1 : Int32)) F.1 F.2.1 dX0_errorOf_18 (by decide) ?_
        have e9 := qs1 hf
        subst e9
        exact hQ _ _ _ _ hP hS rfl dX0_errorOf_19
set_option maxRecDepth 100000 in
set_option maxHeartbeats 4000000 in
theorem qc_X0_errorOf (l : Launch) {L : wL} (hJ : qw_J L) {k : Nat} {X : wM} {h : Nat → Nat} {m : wm} (hX : X k = m) {x1 : Int32} {x2 : Int32} {x3 : Int32} {r : Int32} (hk : qw_k L k) (hf : qf_X0_errorOf x1 x2 x3 m = some r) : qw_MI l yX0_errorOf wsX0_errorOf rm_X0_errorOf L (.ref (qw_ad L k 0) :: [.int x1, .int x2, .int x3]) X h r X h := by
  subst hX
  refine qw_MI_of (cc := cX0_errorOf) (maxL := 4) (ty := .int) (by decide) rfl hJ (Nat.le_of_ble_eq_true rfl) ?_
  intro p e s mi below meth co Q ls F G hP hQ hl
  exact qb_X0_errorOf F G hk (by rw [qw_u1i]; exact hQ) _ _ _ _ _ _ hf (by rw [qw_u1i]; exact hP) va_S.rf hl
def rm_X0_isOverrun : Room := { frames := 0, cells := 0, slots := 0, locals := 0 }
theorem e_X0_isOverrun : qw_hd yX0_isOverrun RX0 1 := by decide +kernel
set_option maxRecDepth 100000 in
set_option maxHeartbeats 4000000 in
theorem qb_X0_isOverrun {p : Program} {l : Launch} {e : Env} {s : State} {mi : MethodId} {args : Array Value} {below : List Frame} {meth : Method} {co : Code} {Q : State → Prop} {L : wL} {M : wM} {k : Nat} {h : Nat → Nat} {r : Int32} {m : wm} (F : CallFix p mi co cX0_isOverrun 2 s args wsX0_isOverrun RX0) (G : qw_G L (qw_A L) s) (hk : qw_k L k) (hQ : qw_RI p l e rm_X0_isOverrun s mi args below meth co cX0_isOverrun .boolean Q L r (qw_u1 M k m) h) : ∀ (x1 : Int32) (H : Heap) (locs : List Loc) (ls : Array Slot), qf_X0_isOverrun x1 m = some r → qw_P L (qw_u1 M k m) h H → va_S (qw_A L) s.heap H locs → lv_has ls 2 [(0, .ref (qw_ad L k 0)), (1, .int x1)] → W p l e rm_X0_isOverrun s mi args below meth co H locs 0 0 Q (F0 mi 0 ls []) := by
  intro x1 H locs ls hf hP hS hl
  unfold qf_X0_isOverrun at hf
  refine lv_aload_n F.1 F.2.1 dX0_isOverrun_0 rfl (lv_at hl 0 rfl) ?_
  refine qr_gSr F G (fun w h => F.2.2.2.2 w (List.mem_cons_of_mem _ (List.mem_append_right _ h))) hP hk 4 (by decide) (List.mem_of_getElem? (i := 1) rfl) dX0_isOverrun_1 ?_
  refine lv_iconst (v := (nI 4)) F.1 F.2.1 dX0_isOverrun_4 (by decide) ?_
  refine qr_row (c := 12) F G hP hk (by decide) (by decide) rfl rfl (by unfold vp_in; decide) (by decide) dX0_isOverrun_5 ?_
  refine lv_iload_n F.1 F.2.1 dX0_isOverrun_6 rfl (lv_at hl 1 rfl) ?_
  obtain ⟨g2, hf⟩ := qg_x hf
  obtain ⟨z1, ez1, hf⟩ := qn_x hf
  refine qr_ald F G hP (qw_u1s _ _ _) (qw_IS (c := 12) (n := 40) hk (by decide)) g2 rfl ez1 dX0_isOverrun_7 ?_
  refine lv_bipush (v := (-9 : Int32)) F.1 F.2.1 dX0_isOverrun_8 (by decide) ?_
  refine lv_icmp_eq (tgt := 17) F.1 F.2.1 dX0_isOverrun_10 (by decide) (fun c3 => ?_) (fun c3 => ?_)
  · replace hf := qi_t c3 hf
    refine lv_iconst (v := (nI 0)) F.1 F.2.1 dX0_isOverrun_17 (by decide) ?_
    have e9 := qs1 hf
    subst e9
    exact hQ _ _ _ _ hP hS rfl dX0_isOverrun_18
  · replace hf := qi_f c3 hf
    refine lv_iconst (v := (nI 1)) F.1 F.2.1 dX0_isOverrun_13 (by decide) ?_
    refine lv_goto (tgt := 18) F.1 F.2.1 dX0_isOverrun_14 (by decide) ?_
    have e9 := qs1 hf
    subst e9
    exact hQ _ _ _ _ hP hS rfl dX0_isOverrun_18
set_option maxRecDepth 100000 in
set_option maxHeartbeats 4000000 in
theorem qc_X0_isOverrun (l : Launch) {L : wL} (hJ : qw_J L) {k : Nat} {X : wM} {h : Nat → Nat} {m : wm} (hX : X k = m) {x1 : Int32} {r : Int32} (hk : qw_k L k) (hf : qf_X0_isOverrun x1 m = some r) : qw_MI l yX0_isOverrun wsX0_isOverrun rm_X0_isOverrun L (.ref (qw_ad L k 0) :: [.int x1]) X h r X h := by
  subst hX
  refine qw_MI_of (cc := cX0_isOverrun) (maxL := 2) (ty := .boolean) (by decide) rfl hJ (Nat.le_of_ble_eq_true rfl) ?_
  intro p e s mi below meth co Q ls F G hP hQ hl
  exact qb_X0_isOverrun F G hk (by rw [qw_u1i]; exact hQ) _ _ _ _ hf (by rw [qw_u1i]; exact hP) va_S.rf hl
def rm_X0_overrunFramesOfTop : Room := { frames := 1, cells := 0, slots := 0, locals := 21 }
theorem e_X0_overrunFramesOfTop : qw_hd yX0_overrunFramesOfTop RX0 1 := by decide +kernel
set_option maxRecDepth 100000 in
set_option maxHeartbeats 4000000 in
theorem qb_X0_overrunFramesOfTop_2 {p : Program} {l : Launch} {e : Env} {s : State} {mi : MethodId} {args : Array Value} {below : List Frame} {meth : Method} {co : Code} {Q : State → Prop} {L : wL} {M : wM} {k : Nat} {h : Nat → Nat} {m9 : wm} (F : CallFix p mi co cX0_overrunFramesOfTop 3 s args wsX0_overrunFramesOfTop RX0) (G : qw_G L (qw_A L) s) (hk : qw_k L k) (hQ : qw_RV p l e rm_X0_overrunFramesOfTop s mi args below meth co cX0_overrunFramesOfTop Q L (qw_u1 M k m9) h) : ∀ (n : Nat) (x1 : Int32) (x2 : Int32) (m : wm) (H : Heap) (locs : List Loc) (ls : Array Slot), qf_X0_overrunFramesOfTop_2 n x1 x2 m = some m9 → qw_P L (qw_u1 M k m) h H → va_S (qw_A L) s.heap H locs → lv_has ls 3 [(0, .ref (qw_ad L k 0)), (1, .int x1), (2, .int x2)] → W p l e rm_X0_overrunFramesOfTop s mi args below meth co H locs 0 0 Q (F0 mi 2 ls []) := by
  intro n
  induction n with
  | zero =>
    intro x1 x2 m H locs ls hf hP hS hl
    rw [qf_X0_overrunFramesOfTop_2] at hf
    cases hf
  | succ n ih =>
    intro x1 x2 m H locs ls hf hP hS hl
    rw [qf_X0_overrunFramesOfTop_2] at hf
    refine lv_iload_n F.1 F.2.1 dX0_overrunFramesOfTop_2 rfl (lv_at hl 2 rfl) ?_
    refine lv_aload_n F.1 F.2.1 dX0_overrunFramesOfTop_3 rfl (lv_at hl 0 rfl) ?_
    obtain ⟨z1, ez1, hf⟩ := qn_x hf
    refine qr_gS F G (fun w h => F.2.2.2.2 w (List.mem_cons_of_mem _ (List.mem_append_right _ h))) hP hk (qw_u1s _ _ _) 3 (by decide) (List.mem_of_getElem? (i := 1) rfl) ez1 dX0_overrunFramesOfTop_4 ?_
    refine lv_icmp_ge (tgt := 48) F.1 F.2.1 dX0_overrunFramesOfTop_7 (by decide) (fun c2 => ?_) (fun c2 => ?_)
    · replace hf := qi_t c2 hf
      have e8 := qs1 hf
      subst e8
      exact hQ _ _ _ _ hP hS dX0_overrunFramesOfTop_48
    · replace hf := qi_f c2 hf
      refine lv_aload_n F.1 F.2.1 dX0_overrunFramesOfTop_10 rfl (lv_at hl 0 rfl) ?_
      refine qr_gSr F G (fun w h => F.2.2.2.2 w (List.mem_cons_of_mem _ (List.mem_append_right _ h))) hP hk 4 (by decide) (List.mem_of_getElem? (i := 2) rfl) dX0_overrunFramesOfTop_11 ?_
      refine lv_iconst (v := (nI 3)) F.1 F.2.1 dX0_overrunFramesOfTop_14 (by decide) ?_
      refine qr_row (c := 11) F G hP hk (by decide) (by decide) rfl rfl (by unfold vp_in; decide) (by decide) dX0_overrunFramesOfTop_15 ?_
      refine lv_iload_n F.1 F.2.1 dX0_overrunFramesOfTop_16 rfl (lv_at hl 2 rfl) ?_
      obtain ⟨g4, hf⟩ := qg_x hf
      obtain ⟨z3, ez3, hf⟩ := qn_x hf
      refine qr_ald F G hP (qw_u1s _ _ _) (qw_IS (c := 11) (n := 40) hk (by decide)) g4 rfl ez3 dX0_overrunFramesOfTop_17 ?_
      refine lv_aload_n F.1 F.2.1 dX0_overrunFramesOfTop_18 rfl (lv_at hl 0 rfl) ?_
      obtain ⟨z5, ez5, hf⟩ := qn_x hf
      refine qr_gS F G (fun w h => F.2.2.2.2 w (List.mem_cons_of_mem _ (List.mem_append_right _ h))) hP hk (qw_u1s _ _ _) 2 (by decide) (List.mem_of_getElem? (i := 3) rfl) ez5 dX0_overrunFramesOfTop_19 ?_
      refine lv_icmp_ne (tgt := 42) F.1 F.2.1 dX0_overrunFramesOfTop_22 (by decide) (fun c6 => ?_) (fun c6 => ?_)
      · replace hf := qi_f c6 hf
        obtain ⟨z7, ez7, hf⟩ := qn_x hf
        refine lv_iinc (v := z7) (lv' := [(2, .int z7), (0, .ref (qw_ad L k 0)), (1, .int x1)]) F.1 F.2.1 dX0_overrunFramesOfTop_42 hl (k := 2) rfl ((qw_ii1 _).trans ez7.symm) (by decide) rfl (fun ls hl => ?_)
        refine lv_goto (tgt := 2) F.1 F.2.1 dX0_overrunFramesOfTop_45 (by decide) ?_
        exact ih _ _ _ _ _ _ hf hP hS (lv_sub hl [1, 2, 0] rfl)
      · replace hf := qi_t c6 hf
        refine lv_aload_n F.1 F.2.1 dX0_overrunFramesOfTop_25 rfl (lv_at hl 0 rfl) ?_
        refine lv_iload_n F.1 F.2.1 dX0_overrunFramesOfTop_26 rfl (lv_at hl 2 rfl) ?_
        obtain ⟨r8, k9, hf⟩ := qb1_x hf
        refine qr_cVi F G hP hS (qc_X0_isOverrun l G.2.1 (qw_u1s _ _ _) hk k9) (qw_rcS hk) gX0_overrunFramesOfTop_X0_isOverrun rfl ⟨rfl, rfl⟩ e_X0_isOverrun ⟨Nat.le_of_ble_eq_true rfl, Nat.le_of_ble_eq_true rfl⟩ rfl hl.1 rfl (Nat.le_of_ble_eq_true rfl) ⟨Nat.zero_le _, Nat.zero_le _⟩ dX0_overrunFramesOfTop_27 (fun H locs hP hS => ?_)
        refine lv_if_ne (tgt := 42) F.1 F.2.1 dX0_overrunFramesOfTop_30 (by decide) (fun c10 => ?_) (fun c10 => ?_)
        · replace hf := qi_f c10 hf
          obtain ⟨z11, ez11, hf⟩ := qn_x hf
          refine lv_iinc (v := z11) (lv' := [(2, .int z11), (0, .ref (qw_ad L k 0)), (1, .int x1)]) F.1 F.2.1 dX0_overrunFramesOfTop_42 hl (k := 2) rfl ((qw_ii1 _).trans ez11.symm) (by decide) rfl (fun ls hl => ?_)
          refine lv_goto (tgt := 2) F.1 F.2.1 dX0_overrunFramesOfTop_45 (by decide) ?_
          exact ih _ _ _ _ _ _ hf hP hS (lv_sub hl [1, 2, 0] rfl)
        · replace hf := qi_t c10 hf
          refine lv_aload_n F.1 F.2.1 dX0_overrunFramesOfTop_33 rfl (lv_at hl 0 rfl) ?_
          refine qr_gSr F G (fun w h => F.2.2.2.2 w (List.mem_cons_of_mem _ (List.mem_append_right _ h))) hP hk 4 (by decide) (List.mem_of_getElem? (i := 2) rfl) dX0_overrunFramesOfTop_34 ?_
          refine lv_iconst (v := (nI 4)) F.1 F.2.1 dX0_overrunFramesOfTop_37 (by decide) ?_
          refine qr_row (c := 12) F G hP hk (by decide) (by decide) rfl rfl (by unfold vp_in; decide) (by decide) dX0_overrunFramesOfTop_38 ?_
          refine lv_iload_n F.1 F.2.1 dX0_overrunFramesOfTop_39 rfl (lv_at hl 2 rfl) ?_
          refine lv_iload_n F.1 F.2.1 dX0_overrunFramesOfTop_40 rfl (lv_at hl 1 rfl) ?_
          obtain ⟨g12, hf⟩ := qg_x hf
          obtain ⟨m13, em13, hf⟩ := qn_x hf
          refine qr_ast F G hP hS (qw_u1s _ _ _) (qw_IS (c := 12) (n := 40) hk (by decide)) g12 rfl (qw_fx em13) dX0_overrunFramesOfTop_41 (fun H locs hP hS => ?_)
          obtain ⟨z14, ez14, hf⟩ := qn_x hf
          refine lv_iinc (v := z14) (lv' := [(2, .int z14), (0, .ref (qw_ad L k 0)), (1, .int x1)]) F.1 F.2.1 dX0_overrunFramesOfTop_42 hl (k := 2) rfl ((qw_ii1 _).trans ez14.symm) (by decide) rfl (fun ls hl => ?_)
          refine lv_goto (tgt := 2) F.1 F.2.1 dX0_overrunFramesOfTop_45 (by decide) ?_
          exact ih _ _ _ _ _ _ hf hP hS (lv_sub hl [1, 2, 0] rfl)
set_option maxRecDepth 100000 in
set_option maxHeartbeats 4000000 in
theorem qb_X0_overrunFramesOfTop {p : Program} {l : Launch} {e : Env} {s : State} {mi : MethodId} {args : Array Value} {below : List Frame} {meth : Method} {co : Code} {Q : State → Prop} {L : wL} {M : wM} {k : Nat} {h : Nat → Nat} {m9 : wm} (F : CallFix p mi co cX0_overrunFramesOfTop 3 s args wsX0_overrunFramesOfTop RX0) (G : qw_G L (qw_A L) s) (hk : qw_k L k) (hQ : qw_RV p l e rm_X0_overrunFramesOfTop s mi args below meth co cX0_overrunFramesOfTop Q L (qw_u1 M k m9) h) : ∀ (x1 : Int32) (m : wm) (H : Heap) (locs : List Loc) (ls : Array Slot), qf_X0_overrunFramesOfTop x1 m = some m9 → qw_P L (qw_u1 M k m) h H → va_S (qw_A L) s.heap H locs → lv_has ls 3 [(0, .ref (qw_ad L k 0)), (1, .int x1)] → W p l e rm_X0_overrunFramesOfTop s mi args below meth co H locs 0 0 Q (F0 mi 0 ls []) := by
  intro x1 m H locs ls hf hP hS hl
  unfold qf_X0_overrunFramesOfTop at hf
  refine lv_iconst (v := (nI 0)) F.1 F.2.1 dX0_overrunFramesOfTop_0 (by decide) ?_
  refine lv_istore_n (lv' := [(2, .int (nI 0)), (0, .ref (qw_ad L k 0)), (1, .int x1)]) F.1 F.2.1 dX0_overrunFramesOfTop_1 rfl hl (by decide) rfl (fun ls hl => ?_)
  exact qb_X0_overrunFramesOfTop_2 F G hk hQ _ _ _ _ _ _ _ hf hP hS (lv_sub hl [1, 2, 0] rfl)
set_option maxRecDepth 100000 in
set_option maxHeartbeats 4000000 in
theorem qc_X0_overrunFramesOfTop (l : Launch) {L : wL} (hJ : qw_J L) {k : Nat} {X X9 : wM} {h : Nat → Nat} {m m9 : wm} (hX : X k = m) (hX9 : qw_u1 X k m9 = X9) {x1 : Int32} (hk : qw_k L k) (hf : qf_X0_overrunFramesOfTop x1 m = some m9) : qw_MV l yX0_overrunFramesOfTop wsX0_overrunFramesOfTop rm_X0_overrunFramesOfTop L (.ref (qw_ad L k 0) :: [.int x1]) X h X9 h := by
  subst hX
  subst hX9
  refine qw_MV_of (cc := cX0_overrunFramesOfTop) (maxL := 3) (by decide) rfl hJ (Nat.le_of_ble_eq_true rfl) ?_
  intro p e s mi below meth co Q ls F G hP hQ hl
  exact qb_X0_overrunFramesOfTop F G hk hQ _ _ _ _ _ hf (by rw [qw_u1i]; exact hP) va_S.rf hl
def rm_X0_addFrame : Room := { frames := 2, cells := 0, slots := 0, locals := 43 }
theorem e_X0_addFrame : qw_hd yX0_addFrame RX0 2 := by decide +kernel
set_option maxRecDepth 100000 in
set_option maxHeartbeats 4000000 in
theorem qb_X0_addFrame_31 {p : Program} {l : Launch} {e : Env} {s : State} {mi : MethodId} {args : Array Value} {below : List Frame} {meth : Method} {co : Code} {Q : State → Prop} {L : wL} {M : wM} {k : Nat} {h : Nat → Nat} {r : Int32} {m9 : wm} (F : CallFix p mi co cX0_addFrame 4 s args wsX0_addFrame RX0) (G : qw_G L (qw_A L) s) (hk : qw_k L k) (hQ : qw_RI p l e rm_X0_addFrame s mi args below meth co cX0_addFrame .int Q L r (qw_u1 M k m9) h) : ∀ (x1 : Int32) (x2 : Int32) (x3 : Int32) (y0 : Int32) (m : wm) (H : Heap) (locs : List Loc) (ls : Array Slot), qf_X0_addFrame_31 x1 x2 x3 y0 m = some (r, m9) → qw_P L (qw_u1 M k m) h H → va_S (qw_A L) s.heap H locs → lv_has ls 4 [(0, .ref (qw_ad L k 0)), (1, .int x1), (2, .int x2), (3, .int x3)] → W p l e rm_X0_addFrame s mi args below meth co H locs 0 0 Q (F0 mi 31 ls [.int y0, .ref (qw_ad L k 0)]) := by
  intro x1 x2 x3 y0 m H locs ls hf hP hS hl
  unfold qf_X0_addFrame_31 at hf
  obtain ⟨m1, em1, hf⟩ := qn_x hf
  refine qr_pS F G (fun w h => F.2.2.2.2 w (List.mem_cons_of_mem _ (List.mem_append_right _ h))) hP hS hk (qw_u1s _ _ _) 2 (by decide) (List.mem_of_getElem? (i := 2) rfl) (qw_fx em1) dX0_addFrame_31 (fun H locs hP hS => ?_)
  refine lv_aload_n F.1 F.2.1 dX0_addFrame_34 rfl (lv_at hl 0 rfl) ?_
  refine lv_iload_n F.1 F.2.1 dX0_addFrame_35 rfl (lv_at hl 3 rfl) ?_
  obtain ⟨m3, k2, hf⟩ := qb1_x hf
  refine qr_cVv F G hP hS (qc_X0_overrunFramesOfTop l G.2.1 (qw_u1s _ _ _) (qw_fx rfl) hk k2) (qw_rcS hk) gX0_addFrame_X0_overrunFramesOfTop rfl ⟨rfl, rfl⟩ e_X0_overrunFramesOfTop ⟨Nat.le_of_ble_eq_true rfl, Nat.le_of_ble_eq_true rfl⟩ rfl hl.1 rfl (Nat.le_of_ble_eq_true rfl) ⟨Nat.zero_le _, Nat.zero_le _⟩ dX0_addFrame_36 (fun H locs hP hS => ?_)
  refine lv_aload_n F.1 F.2.1 dX0_addFrame_39 rfl (lv_at hl 0 rfl) ?_
  refine qr_gSr F G (fun w h => F.2.2.2.2 w (List.mem_cons_of_mem _ (List.mem_append_right _ h))) hP hk 5 (by decide) (List.mem_of_getElem? (i := 4) rfl) dX0_addFrame_40 ?_
  refine lv_iconst (v := (nI 0)) F.1 F.2.1 dX0_addFrame_43 (by decide) ?_
  refine qr_row (c := 13) F G hP hk (by decide) (by decide) rfl rfl (by unfold vp_in; decide) (by decide) dX0_addFrame_44 ?_
  refine lv_aload_n F.1 F.2.1 dX0_addFrame_45 rfl (lv_at hl 0 rfl) ?_
  obtain ⟨z4, ez4, hf⟩ := qn_x hf
  refine qr_gS F G (fun w h => F.2.2.2.2 w (List.mem_cons_of_mem _ (List.mem_append_right _ h))) hP hk (qw_u1s _ _ _) 2 (by decide) (List.mem_of_getElem? (i := 2) rfl) ez4 dX0_addFrame_46 ?_
  refine lv_iload_n F.1 F.2.1 dX0_addFrame_49 rfl (lv_at hl 3 rfl) ?_
  obtain ⟨g5, hf⟩ := qg_x hf
  obtain ⟨m6, em6, hf⟩ := qn_x hf
  refine qr_ast F G hP hS (qw_u1s _ _ _) (qw_IS (c := 13) (n := 16) hk (by decide)) g5 rfl (qw_fx em6) dX0_addFrame_50 (fun H locs hP hS => ?_)
  refine lv_aload_n F.1 F.2.1 dX0_addFrame_51 rfl (lv_at hl 0 rfl) ?_
  refine qr_gSr F G (fun w h => F.2.2.2.2 w (List.mem_cons_of_mem _ (List.mem_append_right _ h))) hP hk 5 (by decide) (List.mem_of_getElem? (i := 4) rfl) dX0_addFrame_52 ?_
  refine lv_iconst (v := (nI 1)) F.1 F.2.1 dX0_addFrame_55 (by decide) ?_
  refine qr_row (c := 14) F G hP hk (by decide) (by decide) rfl rfl (by unfold vp_in; decide) (by decide) dX0_addFrame_56 ?_
  refine lv_aload_n F.1 F.2.1 dX0_addFrame_57 rfl (lv_at hl 0 rfl) ?_
  obtain ⟨z7, ez7, hf⟩ := qn_x hf
  refine qr_gS F G (fun w h => F.2.2.2.2 w (List.mem_cons_of_mem _ (List.mem_append_right _ h))) hP hk (qw_u1s _ _ _) 2 (by decide) (List.mem_of_getElem? (i := 2) rfl) ez7 dX0_addFrame_58 ?_
  refine lv_iload_n F.1 F.2.1 dX0_addFrame_61 rfl (lv_at hl 2 rfl) ?_
  obtain ⟨g8, hf⟩ := qg_x hf
  obtain ⟨m9, em9, hf⟩ := qn_x hf
  refine qr_ast F G hP hS (qw_u1s _ _ _) (qw_IS (c := 14) (n := 16) hk (by decide)) g8 rfl (qw_fx em9) dX0_addFrame_62 (fun H locs hP hS => ?_)
  refine lv_aload_n F.1 F.2.1 dX0_addFrame_63 rfl (lv_at hl 0 rfl) ?_
  refine qr_gSr F G (fun w h => F.2.2.2.2 w (List.mem_cons_of_mem _ (List.mem_append_right _ h))) hP hk 5 (by decide) (List.mem_of_getElem? (i := 4) rfl) dX0_addFrame_64 ?_
  refine lv_iconst (v := (nI 2)) F.1 F.2.1 dX0_addFrame_67 (by decide) ?_
  refine qr_row (c := 15) F G hP hk (by decide) (by decide) rfl rfl (by unfold vp_in; decide) (by decide) dX0_addFrame_68 ?_
  refine lv_aload_n F.1 F.2.1 dX0_addFrame_69 rfl (lv_at hl 0 rfl) ?_
  obtain ⟨z10, ez10, hf⟩ := qn_x hf
  refine qr_gS F G (fun w h => F.2.2.2.2 w (List.mem_cons_of_mem _ (List.mem_append_right _ h))) hP hk (qw_u1s _ _ _) 2 (by decide) (List.mem_of_getElem? (i := 2) rfl) ez10 dX0_addFrame_70 ?_
  refine lv_dup2_11 F.1 F.2.1 dX0_addFrame_73 rfl rfl ?_
  obtain ⟨g12, hf⟩ := qg_x hf
  obtain ⟨z11, ez11, hf⟩ := qn_x hf
  refine qr_ald F G hP (qw_u1s _ _ _) (qw_IS (c := 15) (n := 16) hk (by decide)) g12 rfl ez11 dX0_addFrame_74 ?_
  refine lv_iconst (v := (nI 1)) F.1 F.2.1 dX0_addFrame_75 (by decide) ?_
  obtain ⟨z13, ez13, hf⟩ := qn_x hf
  refine qr_iadd F ez13 dX0_addFrame_76 ?_
  obtain ⟨g14, hf⟩ := qg_x hf
  obtain ⟨m15, em15, hf⟩ := qn_x hf
  refine qr_ast F G hP hS (qw_u1s _ _ _) (qw_IS (c := 15) (n := 16) hk (by decide)) g14 rfl (qw_fx em15) dX0_addFrame_77 (fun H locs hP hS => ?_)
  refine lv_aload_n F.1 F.2.1 dX0_addFrame_78 rfl (lv_at hl 0 rfl) ?_
  refine qr_gSr F G (fun w h => F.2.2.2.2 w (List.mem_cons_of_mem _ (List.mem_append_right _ h))) hP hk 4 (by decide) (List.mem_of_getElem? (i := 5) rfl) dX0_addFrame_79 ?_
  refine lv_iconst (v := (nI 0)) F.1 F.2.1 dX0_addFrame_82 (by decide) ?_
  refine qr_row (c := 8) F G hP hk (by decide) (by decide) rfl rfl (by unfold vp_in; decide) (by decide) dX0_addFrame_83 ?_
  refine lv_aload_n F.1 F.2.1 dX0_addFrame_84 rfl (lv_at hl 0 rfl) ?_
  obtain ⟨z16, ez16, hf⟩ := qn_x hf
  refine qr_gS F G (fun w h => F.2.2.2.2 w (List.mem_cons_of_mem _ (List.mem_append_right _ h))) hP hk (qw_u1s _ _ _) 3 (by decide) (List.mem_of_getElem? (i := 6) rfl) ez16 dX0_addFrame_85 ?_
  refine lv_iload_n F.1 F.2.1 dX0_addFrame_88 rfl (lv_at hl 3 rfl) ?_
  obtain ⟨g17, hf⟩ := qg_x hf
  obtain ⟨m18, em18, hf⟩ := qn_x hf
  refine qr_ast F G hP hS (qw_u1s _ _ _) (qw_IS (c := 8) (n := 40) hk (by decide)) g17 rfl (qw_fx em18) dX0_addFrame_89 (fun H locs hP hS => ?_)
  refine lv_aload_n F.1 F.2.1 dX0_addFrame_90 rfl (lv_at hl 0 rfl) ?_
  refine qr_gSr F G (fun w h => F.2.2.2.2 w (List.mem_cons_of_mem _ (List.mem_append_right _ h))) hP hk 4 (by decide) (List.mem_of_getElem? (i := 5) rfl) dX0_addFrame_91 ?_
  refine lv_iconst (v := (nI 1)) F.1 F.2.1 dX0_addFrame_94 (by decide) ?_
  refine qr_row (c := 9) F G hP hk (by decide) (by decide) rfl rfl (by unfold vp_in; decide) (by decide) dX0_addFrame_95 ?_
  refine lv_aload_n F.1 F.2.1 dX0_addFrame_96 rfl (lv_at hl 0 rfl) ?_
  obtain ⟨z19, ez19, hf⟩ := qn_x hf
  refine qr_gS F G (fun w h => F.2.2.2.2 w (List.mem_cons_of_mem _ (List.mem_append_right _ h))) hP hk (qw_u1s _ _ _) 3 (by decide) (List.mem_of_getElem? (i := 6) rfl) ez19 dX0_addFrame_97 ?_
  refine lv_iload_n F.1 F.2.1 dX0_addFrame_100 rfl (lv_at hl 1 rfl) ?_
  obtain ⟨g20, hf⟩ := qg_x hf
  obtain ⟨m21, em21, hf⟩ := qn_x hf
  refine qr_ast F G hP hS (qw_u1s _ _ _) (qw_IS (c := 9) (n := 40) hk (by decide)) g20 rfl (qw_fx em21) dX0_addFrame_101 (fun H locs hP hS => ?_)
  refine lv_aload_n F.1 F.2.1 dX0_addFrame_102 rfl (lv_at hl 0 rfl) ?_
  refine qr_gSr F G (fun w h => F.2.2.2.2 w (List.mem_cons_of_mem _ (List.mem_append_right _ h))) hP hk 4 (by decide) (List.mem_of_getElem? (i := 5) rfl) dX0_addFrame_103 ?_
  refine lv_iconst (v := (nI 2)) F.1 F.2.1 dX0_addFrame_106 (by decide) ?_
  refine qr_row (c := 10) F G hP hk (by decide) (by decide) rfl rfl (by unfold vp_in; decide) (by decide) dX0_addFrame_107 ?_
  refine lv_aload_n F.1 F.2.1 dX0_addFrame_108 rfl (lv_at hl 0 rfl) ?_
  obtain ⟨z22, ez22, hf⟩ := qn_x hf
  refine qr_gS F G (fun w h => F.2.2.2.2 w (List.mem_cons_of_mem _ (List.mem_append_right _ h))) hP hk (qw_u1s _ _ _) 3 (by decide) (List.mem_of_getElem? (i := 6) rfl) ez22 dX0_addFrame_109 ?_
  refine lv_iload_n F.1 F.2.1 dX0_addFrame_112 rfl (lv_at hl 2 rfl) ?_
  obtain ⟨g23, hf⟩ := qg_x hf
  obtain ⟨m24, em24, hf⟩ := qn_x hf
  refine qr_ast F G hP hS (qw_u1s _ _ _) (qw_IS (c := 10) (n := 40) hk (by decide)) g23 rfl (qw_fx em24) dX0_addFrame_113 (fun H locs hP hS => ?_)
  refine lv_aload_n F.1 F.2.1 dX0_addFrame_114 rfl (lv_at hl 0 rfl) ?_
  refine qr_gSr F G (fun w h => F.2.2.2.2 w (List.mem_cons_of_mem _ (List.mem_append_right _ h))) hP hk 4 (by decide) (List.mem_of_getElem? (i := 5) rfl) dX0_addFrame_115 ?_
  refine lv_iconst (v := (nI 3)) F.1 F.2.1 dX0_addFrame_118 (by decide) ?_
  refine qr_row (c := 11) F G hP hk (by decide) (by decide) rfl rfl (by unfold vp_in; decide) (by decide) dX0_addFrame_119 ?_
  refine lv_aload_n F.1 F.2.1 dX0_addFrame_120 rfl (lv_at hl 0 rfl) ?_
  obtain ⟨z25, ez25, hf⟩ := qn_x hf
  refine qr_gS F G (fun w h => F.2.2.2.2 w (List.mem_cons_of_mem _ (List.mem_append_right _ h))) hP hk (qw_u1s _ _ _) 3 (by decide) (List.mem_of_getElem? (i := 6) rfl) ez25 dX0_addFrame_121 ?_
  refine lv_aload_n F.1 F.2.1 dX0_addFrame_124 rfl (lv_at hl 0 rfl) ?_
  obtain ⟨z26, ez26, hf⟩ := qn_x hf
  refine qr_gS F G (fun w h => F.2.2.2.2 w (List.mem_cons_of_mem _ (List.mem_append_right _ h))) hP hk (qw_u1s _ _ _) 2 (by decide) (List.mem_of_getElem? (i := 2) rfl) ez26 dX0_addFrame_125 ?_
  obtain ⟨g27, hf⟩ := qg_x hf
  obtain ⟨m28, em28, hf⟩ := qn_x hf
  refine qr_ast F G hP hS (qw_u1s _ _ _) (qw_IS (c := 11) (n := 40) hk (by decide)) g27 rfl (qw_fx em28) dX0_addFrame_128 (fun H locs hP hS => ?_)
  refine lv_aload_n F.1 F.2.1 dX0_addFrame_129 rfl (lv_at hl 0 rfl) ?_
  refine qr_gSr F G (fun w h => F.2.2.2.2 w (List.mem_cons_of_mem _ (List.mem_append_right _ h))) hP hk 4 (by decide) (List.mem_of_getElem? (i := 5) rfl) dX0_addFrame_130 ?_
  refine lv_iconst (v := (nI 4)) F.1 F.2.1 dX0_addFrame_133 (by decide) ?_
  refine qr_row (c := 12) F G hP hk (by decide) (by decide) rfl rfl (by unfold vp_in; decide) (by decide) dX0_addFrame_134 ?_
  refine lv_aload_n F.1 F.2.1 dX0_addFrame_135 rfl (lv_at hl 0 rfl) ?_
  obtain ⟨z29, ez29, hf⟩ := qn_x hf
  refine qr_gS F G (fun w h => F.2.2.2.2 w (List.mem_cons_of_mem _ (List.mem_append_right _ h))) hP hk (qw_u1s _ _ _) 3 (by decide) (List.mem_of_getElem? (i := 6) rfl) ez29 dX0_addFrame_136 ?_
  refine lv_bipush (v := (-9 : Int32)) F.1 F.2.1 dX0_addFrame_139 (by decide) ?_
  obtain ⟨g30, hf⟩ := qg_x hf
  obtain ⟨m31, em31, hf⟩ := qn_x hf
  refine qr_ast F G hP hS (qw_u1s _ _ _) (qw_IS (c := 12) (n := 40) hk (by decide)) g30 rfl (qw_fx em31) dX0_addFrame_141 (fun H locs hP hS => ?_)
  refine lv_aload_n F.1 F.2.1 dX0_addFrame_142 rfl (lv_at hl 0 rfl) ?_
  refine lv_dup F.1 F.2.1 dX0_addFrame_143 rfl ?_
  obtain ⟨z32, ez32, hf⟩ := qn_x hf
  refine qr_gS F G (fun w h => F.2.2.2.2 w (List.mem_cons_of_mem _ (List.mem_append_right _ h))) hP hk (qw_u1s _ _ _) 3 (by decide) (List.mem_of_getElem? (i := 6) rfl) ez32 dX0_addFrame_144 ?_
  refine lv_iconst (v := (nI 1)) F.1 F.2.1 dX0_addFrame_147 (by decide) ?_
  obtain ⟨z33, ez33, hf⟩ := qn_x hf
  refine qr_iadd F ez33 dX0_addFrame_148 ?_
  obtain ⟨m34, em34, hf⟩ := qn_x hf
  refine qr_pS F G (fun w h => F.2.2.2.2 w (List.mem_cons_of_mem _ (List.mem_append_right _ h))) hP hS hk (qw_u1s _ _ _) 3 (by decide) (List.mem_of_getElem? (i := 6) rfl) (qw_fx em34) dX0_addFrame_149 (fun H locs hP hS => ?_)
  refine lv_aload_n F.1 F.2.1 dX0_addFrame_152 rfl (lv_at hl 0 rfl) ?_
  refine lv_aload_n F.1 F.2.1 dX0_addFrame_153 rfl (lv_at hl 0 rfl) ?_
  obtain ⟨z35, ez35, hf⟩ := qn_x hf
  refine qr_gS F G (fun w h => F.2.2.2.2 w (List.mem_cons_of_mem _ (List.mem_append_right _ h))) hP hk (qw_u1s _ _ _) 4 (by decide) (List.mem_of_getElem? (i := 7) rfl) ez35 dX0_addFrame_154 ?_
  refine lv_aload_n F.1 F.2.1 dX0_addFrame_157 rfl (lv_at hl 0 rfl) ?_
  obtain ⟨z36, ez36, hf⟩ := qn_x hf
  refine qr_gS F G (fun w h => F.2.2.2.2 w (List.mem_cons_of_mem _ (List.mem_append_right _ h))) hP hk (qw_u1s _ _ _) 3 (by decide) (List.mem_of_getElem? (i := 6) rfl) ez36 dX0_addFrame_158 ?_
  obtain ⟨z37, ez37, hf⟩ := qn_x hf
  refine qr_max F (List.mem_of_getElem? (i := 8) rfl) (List.mem_of_getElem? (i := 9) rfl) (List.mem_of_getElem? (i := 10) rfl) (List.mem_of_getElem? (i := 11) rfl) hl.1 (Nat.le_of_ble_eq_true rfl) (Nat.le_of_ble_eq_true rfl) ⟨Nat.zero_le _, Nat.zero_le _⟩ ez37 dX0_addFrame_161 ?_
  obtain ⟨m38, em38, hf⟩ := qn_x hf
  refine qr_pS F G (fun w h => F.2.2.2.2 w (List.mem_cons_of_mem _ (List.mem_append_right _ h))) hP hS hk (qw_u1s _ _ _) 4 (by decide) (List.mem_of_getElem? (i := 7) rfl) (qw_fx em38) dX0_addFrame_164 (fun H locs hP hS => ?_)
  refine lv_iload_n F.1 F.2.1 dX0_addFrame_167 rfl (lv_at hl 3 rfl) ?_
  obtain ⟨e9, e8⟩ := qs2 hf
  subst e9
  subst e8
  exact hQ _ _ _ _ hP hS rfl dX0_addFrame_168
set_option maxRecDepth 100000 in
set_option maxHeartbeats 4000000 in
theorem qb_X0_addFrame {p : Program} {l : Launch} {e : Env} {s : State} {mi : MethodId} {args : Array Value} {below : List Frame} {meth : Method} {co : Code} {Q : State → Prop} {L : wL} {M : wM} {k : Nat} {h : Nat → Nat} {r : Int32} {m9 : wm} (F : CallFix p mi co cX0_addFrame 4 s args wsX0_addFrame RX0) (G : qw_G L (qw_A L) s) (hk : qw_k L k) (hQ : qw_RI p l e rm_X0_addFrame s mi args below meth co cX0_addFrame .int Q L r (qw_u1 M k m9) h) : ∀ (x1 : Int32) (x2 : Int32) (m : wm) (H : Heap) (locs : List Loc) (ls : Array Slot), qf_X0_addFrame x1 x2 m = some (r, m9) → qw_P L (qw_u1 M k m) h H → va_S (qw_A L) s.heap H locs → lv_has ls 4 [(0, .ref (qw_ad L k 0)), (1, .int x1), (2, .int x2)] → W p l e rm_X0_addFrame s mi args below meth co H locs 0 0 Q (F0 mi 0 ls []) := by
  intro x1 x2 m H locs ls hf hP hS hl
  unfold qf_X0_addFrame at hf
  refine lv_aload_n F.1 F.2.1 dX0_addFrame_0 rfl (lv_at hl 0 rfl) ?_
  refine qr_gSr F G (fun w h => F.2.2.2.2 w (List.mem_cons_of_mem _ (List.mem_append_right _ h))) hP hk 1 (by decide) (List.mem_of_getElem? (i := 1) rfl) dX0_addFrame_1 ?_
  refine lv_iconst (v := (nI 0)) F.1 F.2.1 dX0_addFrame_4 (by decide) ?_
  obtain ⟨z1, ez1, hf⟩ := qn_x hf
  refine qr_ald F G hP (qw_u1s _ _ _) (qw_IS (c := 1) (n := 4) hk (by decide)) (by unfold vp_in; decide) (by decide) ez1 dX0_addFrame_5 ?_
  refine lv_istore_n (lv' := [(3, .int z1), (0, .ref (qw_ad L k 0)), (1, .int x1), (2, .int x2)]) F.1 F.2.1 dX0_addFrame_6 rfl hl (by decide) rfl (fun ls hl => ?_)
  refine lv_aload_n F.1 F.2.1 dX0_addFrame_7 rfl (lv_at hl 1 rfl) ?_
  refine lv_aload_n F.1 F.2.1 dX0_addFrame_8 rfl (lv_at hl 1 rfl) ?_
  obtain ⟨z2, ez2, hf⟩ := qn_x hf
  refine qr_gS F G (fun w h => F.2.2.2.2 w (List.mem_cons_of_mem _ (List.mem_append_right _ h))) hP hk (qw_u1s _ _ _) 2 (by decide) (List.mem_of_getElem? (i := 2) rfl) ez2 dX0_addFrame_9 ?_
  refine lv_iconst (v := (nI 1)) F.1 F.2.1 dX0_addFrame_12 (by decide) ?_
  obtain ⟨z3, ez3, hf⟩ := qn_x hf
  refine qr_iadd F ez3 dX0_addFrame_13 ?_
  refine lv_aload_n F.1 F.2.1 dX0_addFrame_14 rfl (lv_at hl 1 rfl) ?_
  obtain ⟨z4, ez4, hf⟩ := qn_x hf
  refine qr_gS F G (fun w h => F.2.2.2.2 w (List.mem_cons_of_mem _ (List.mem_append_right _ h))) hP hk (qw_u1s _ _ _) 1 (by decide) (List.mem_of_getElem? (i := 3) rfl) ez4 dX0_addFrame_15 ?_
  refine lv_icmp_ge (tgt := 30) F.1 F.2.1 dX0_addFrame_18 (by decide) (fun c5 => ?_) (fun c5 => ?_)
  · replace hf := qi_t c5 hf
    refine lv_iconst (v := (nI 0)) F.1 F.2.1 dX0_addFrame_30 (by decide) ?_
    exact qb_X0_addFrame_31 F G hk hQ _ _ _ _ _ _ _ _ hf hP hS (lv_sub hl [1, 2, 3, 0] rfl)
  · replace hf := qi_f c5 hf
    refine lv_aload_n F.1 F.2.1 dX0_addFrame_21 rfl (lv_at hl 1 rfl) ?_
    obtain ⟨z6, ez6, hf⟩ := qn_x hf
    refine qr_gS F G (fun w h => F.2.2.2.2 w (List.mem_cons_of_mem _ (List.mem_append_right _ h))) hP hk (qw_u1s _ _ _) 2 (by decide) (List.mem_of_getElem? (i := 2) rfl) ez6 dX0_addFrame_22 ?_
    refine lv_iconst (v := (nI 1)) F.1 F.2.1 dX0_addFrame_25 (by decide) ?_
    obtain ⟨z7, ez7, hf⟩ := qn_x hf
    refine qr_iadd F ez7 dX0_addFrame_26 ?_
    refine lv_goto (tgt := 31) F.1 F.2.1 dX0_addFrame_27 (by decide) ?_
    exact qb_X0_addFrame_31 F G hk hQ _ _ _ _ _ _ _ _ hf hP hS (lv_sub hl [1, 2, 3, 0] rfl)
set_option maxRecDepth 100000 in
set_option maxHeartbeats 4000000 in
theorem qc_X0_addFrame (l : Launch) {L : wL} (hJ : qw_J L) {k : Nat} {X X9 : wM} {h : Nat → Nat} {m m9 : wm} (hX : X k = m) (hX9 : qw_u1 X k m9 = X9) {x1 : Int32} {x2 : Int32} {r : Int32} (hk : qw_k L k) (hf : qf_X0_addFrame x1 x2 m = some (r, m9)) : qw_MI l yX0_addFrame wsX0_addFrame rm_X0_addFrame L (.ref (qw_ad L k 0) :: [.int x1, .int x2]) X h r X9 h := by
  subst hX
  subst hX9
  refine qw_MI_of (cc := cX0_addFrame) (maxL := 4) (ty := .int) (by decide) rfl hJ (Nat.le_of_ble_eq_true rfl) ?_
  intro p e s mi below meth co Q ls F G hP hQ hl
  exact qb_X0_addFrame F G hk hQ _ _ _ _ _ _ hf (by rw [qw_u1i]; exact hP) va_S.rf hl
def rm_X0_replaceFunction : Room := { frames := 0, cells := 0, slots := 0, locals := 0 }
theorem e_X0_replaceFunction : qw_hd yX0_replaceFunction RX0 1 := by decide +kernel
set_option maxRecDepth 100000 in
set_option maxHeartbeats 4000000 in
theorem qb_X0_replaceFunction {p : Program} {l : Launch} {e : Env} {s : State} {mi : MethodId} {args : Array Value} {below : List Frame} {meth : Method} {co : Code} {Q : State → Prop} {L : wL} {M : wM} {k : Nat} {h : Nat → Nat} {r : Int32} {m9 : wm} (F : CallFix p mi co cX0_replaceFunction 3 s args wsX0_replaceFunction RX0) (G : qw_G L (qw_A L) s) (hk : qw_k L k) (hQ : qw_RI p l e rm_X0_replaceFunction s mi args below meth co cX0_replaceFunction .int Q L r (qw_u1 M k m9) h) : ∀ (x1 : Int32) (m : wm) (H : Heap) (locs : List Loc) (ls : Array Slot), qf_X0_replaceFunction x1 m = some (r, m9) → qw_P L (qw_u1 M k m) h H → va_S (qw_A L) s.heap H locs → lv_has ls 3 [(0, .ref (qw_ad L k 0)), (1, .int x1)] → W p l e rm_X0_replaceFunction s mi args below meth co H locs 0 0 Q (F0 mi 0 ls []) := by
  intro x1 m H locs ls hf hP hS hl
  unfold qf_X0_replaceFunction at hf
  refine lv_aload_n F.1 F.2.1 dX0_replaceFunction_0 rfl (lv_at hl 0 rfl) ?_
  refine qr_gSr F G (fun w h => F.2.2.2.2 w (List.mem_cons_of_mem _ (List.mem_append_right _ h))) hP hk 4 (by decide) (List.mem_of_getElem? (i := 1) rfl) dX0_replaceFunction_1 ?_
  refine lv_iconst (v := (nI 1)) F.1 F.2.1 dX0_replaceFunction_4 (by decide) ?_
  refine qr_row (c := 9) F G hP hk (by decide) (by decide) rfl rfl (by unfold vp_in; decide) (by decide) dX0_replaceFunction_5 ?_
  refine lv_aload_n F.1 F.2.1 dX0_replaceFunction_6 rfl (lv_at hl 0 rfl) ?_
  obtain ⟨z1, ez1, hf⟩ := qn_x hf
  refine qr_gS F G (fun w h => F.2.2.2.2 w (List.mem_cons_of_mem _ (List.mem_append_right _ h))) hP hk (qw_u1s _ _ _) 3 (by decide) (List.mem_of_getElem? (i := 2) rfl) ez1 dX0_replaceFunction_7 ?_
  refine lv_iconst (v := (nI 1)) F.1 F.2.1 dX0_replaceFunction_10 (by decide) ?_
  obtain ⟨z2, ez2, hf⟩ := qn_x hf
  refine qr_isub F ez2 dX0_replaceFunction_11 ?_
  obtain ⟨g4, hf⟩ := qg_x hf
  obtain ⟨z3, ez3, hf⟩ := qn_x hf
  refine qr_ald F G hP (qw_u1s _ _ _) (qw_IS (c := 9) (n := 40) hk (by decide)) g4 rfl ez3 dX0_replaceFunction_12 ?_
  refine lv_istore_n (lv' := [(2, .int z3), (0, .ref (qw_ad L k 0)), (1, .int x1)]) F.1 F.2.1 dX0_replaceFunction_13 rfl hl (by decide) rfl (fun ls hl => ?_)
  refine lv_aload_n F.1 F.2.1 dX0_replaceFunction_14 rfl (lv_at hl 1 rfl) ?_
  refine qr_gSr F G (fun w h => F.2.2.2.2 w (List.mem_cons_of_mem _ (List.mem_append_right _ h))) hP hk 4 (by decide) (List.mem_of_getElem? (i := 1) rfl) dX0_replaceFunction_15 ?_
  refine lv_iconst (v := (nI 1)) F.1 F.2.1 dX0_replaceFunction_18 (by decide) ?_
  refine qr_row (c := 9) F G hP hk (by decide) (by decide) rfl rfl (by unfold vp_in; decide) (by decide) dX0_replaceFunction_19 ?_
  refine lv_aload_n F.1 F.2.1 dX0_replaceFunction_20 rfl (lv_at hl 1 rfl) ?_
  obtain ⟨z5, ez5, hf⟩ := qn_x hf
  refine qr_gS F G (fun w h => F.2.2.2.2 w (List.mem_cons_of_mem _ (List.mem_append_right _ h))) hP hk (qw_u1s _ _ _) 3 (by decide) (List.mem_of_getElem? (i := 2) rfl) ez5 dX0_replaceFunction_21 ?_
  refine lv_iconst (v := (nI 1)) F.1 F.2.1 dX0_replaceFunction_24 (by decide) ?_
  obtain ⟨z6, ez6, hf⟩ := qn_x hf
  refine qr_isub F ez6 dX0_replaceFunction_25 ?_
  refine lv_iload_n F.1 F.2.1 dX0_replaceFunction_26 rfl (lv_at hl 2 rfl) ?_
  obtain ⟨g7, hf⟩ := qg_x hf
  obtain ⟨m8, em8, hf⟩ := qn_x hf
  refine qr_ast F G hP hS (qw_u1s _ _ _) (qw_IS (c := 9) (n := 40) hk (by decide)) g7 rfl (qw_fx em8) dX0_replaceFunction_27 (fun H locs hP hS => ?_)
  refine lv_iload_n F.1 F.2.1 dX0_replaceFunction_28 rfl (lv_at hl 0 rfl) ?_
  obtain ⟨e9, e8⟩ := qs2 hf
  subst e9
  subst e8
  exact hQ _ _ _ _ hP hS rfl dX0_replaceFunction_29
set_option maxRecDepth 100000 in
set_option maxHeartbeats 4000000 in
theorem qc_X0_replaceFunction (l : Launch) {L : wL} (hJ : qw_J L) {k : Nat} {X X9 : wM} {h : Nat → Nat} {m m9 : wm} (hX : X k = m) (hX9 : qw_u1 X k m9 = X9) {x1 : Int32} {r : Int32} (hk : qw_k L k) (hf : qf_X0_replaceFunction x1 m = some (r, m9)) : qw_MI l yX0_replaceFunction wsX0_replaceFunction rm_X0_replaceFunction L (.ref (qw_ad L k 0) :: [.int x1]) X h r X9 h := by
  subst hX
  subst hX9
  refine qw_MI_of (cc := cX0_replaceFunction) (maxL := 3) (ty := .int) (by decide) rfl hJ (Nat.le_of_ble_eq_true rfl) ?_
  intro p e s mi below meth co Q ls F G hP hQ hl
  exact qb_X0_replaceFunction F G hk hQ _ _ _ _ _ hf (by rw [qw_u1i]; exact hP) va_S.rf hl
def rm_X0_outcomeOf : Room := { frames := 1, cells := 0, slots := 0, locals := 21 }
theorem e_X0_outcomeOf : qw_hd yX0_outcomeOf RX0 2 := by decide +kernel
set_option maxRecDepth 100000 in
set_option maxHeartbeats 4000000 in
theorem qb_X0_outcomeOf {p : Program} {l : Launch} {e : Env} {s : State} {mi : MethodId} {args : Array Value} {below : List Frame} {meth : Method} {co : Code} {Q : State → Prop} {L : wL} {M : wM} {k : Nat} {h : Nat → Nat} {r : Int32} {m : wm} (F : CallFix p mi co cX0_outcomeOf 3 s args wsX0_outcomeOf RX0) (G : qw_G L (qw_A L) s) (hk : qw_k L k) (hQ : qw_RI p l e rm_X0_outcomeOf s mi args below meth co cX0_outcomeOf .int Q L r (qw_u1 M k m) h) : ∀ (x1 : Int32) (x2 : Int32) (H : Heap) (locs : List Loc) (ls : Array Slot), qf_X0_outcomeOf x1 x2 m = some r → qw_P L (qw_u1 M k m) h H → va_S (qw_A L) s.heap H locs → lv_has ls 3 [(0, .ref (qw_ad L k 0)), (1, .int x1), (2, .int x2)] → W p l e rm_X0_outcomeOf s mi args below meth co H locs 0 0 Q (F0 mi 0 ls []) := by
  intro x1 x2 H locs ls hf hP hS hl
  unfold qf_X0_outcomeOf at hf
  refine lv_aload_n F.1 F.2.1 dX0_outcomeOf_0 rfl (lv_at hl 0 rfl) ?_
  refine qr_gSr F G (fun w h => F.2.2.2.2 w (List.mem_cons_of_mem _ (List.mem_append_right _ h))) hP hk 5 (by decide) (List.mem_of_getElem? (i := 1) rfl) dX0_outcomeOf_1 ?_
  refine lv_iconst (v := (nI 1)) F.1 F.2.1 dX0_outcomeOf_4 (by decide) ?_
  refine qr_row (c := 14) F G hP hk (by decide) (by decide) rfl rfl (by unfold vp_in; decide) (by decide) dX0_outcomeOf_5 ?_
  refine lv_iload_n F.1 F.2.1 dX0_outcomeOf_6 rfl (lv_at hl 2 rfl) ?_
  obtain ⟨g2, hf⟩ := qg_x hf
  obtain ⟨z1, ez1, hf⟩ := qn_x hf
  refine qr_ald F G hP (qw_u1s _ _ _) (qw_IS (c := 14) (n := 16) hk (by decide)) g2 rfl ez1 dX0_outcomeOf_7 ?_
  refine lv_aload_n F.1 F.2.1 dX0_outcomeOf_8 rfl (lv_at hl 0 rfl) ?_
  refine qr_gSr F G (fun w h => F.2.2.2.2 w (List.mem_cons_of_mem _ (List.mem_append_right _ h))) hP hk 4 (by decide) (List.mem_of_getElem? (i := 2) rfl) dX0_outcomeOf_9 ?_
  refine lv_iconst (v := (nI 2)) F.1 F.2.1 dX0_outcomeOf_12 (by decide) ?_
  refine qr_row (c := 10) F G hP hk (by decide) (by decide) rfl rfl (by unfold vp_in; decide) (by decide) dX0_outcomeOf_13 ?_
  refine lv_iload_n F.1 F.2.1 dX0_outcomeOf_14 rfl (lv_at hl 1 rfl) ?_
  obtain ⟨g4, hf⟩ := qg_x hf
  obtain ⟨z3, ez3, hf⟩ := qn_x hf
  refine qr_ald F G hP (qw_u1s _ _ _) (qw_IS (c := 10) (n := 40) hk (by decide)) g4 rfl ez3 dX0_outcomeOf_15 ?_
  refine lv_icmp_ne (tgt := 44) F.1 F.2.1 dX0_outcomeOf_16 (by decide) (fun c5 => ?_) (fun c5 => ?_)
  · replace hf := qi_f c5 hf
    refine lv_aload_n F.1 F.2.1 dX0_outcomeOf_44 rfl (lv_at hl 0 rfl) ?_
    refine lv_iload_n F.1 F.2.1 dX0_outcomeOf_45 rfl (lv_at hl 1 rfl) ?_
    obtain ⟨r6, k7, hf⟩ := qb1_x hf
    refine qr_cVi F G hP hS (qc_X0_isOverrun l G.2.1 (qw_u1s _ _ _) hk k7) (qw_rcS hk) gX0_outcomeOf_X0_isOverrun rfl ⟨rfl, rfl⟩ e_X0_isOverrun ⟨Nat.le_of_ble_eq_true rfl, Nat.le_of_ble_eq_true rfl⟩ rfl hl.1 rfl (Nat.le_of_ble_eq_true rfl) ⟨Nat.zero_le _, Nat.zero_le _⟩ dX0_outcomeOf_46 (fun H locs hP hS => ?_)
    refine lv_if_eq (tgt := 56) F.1 F.2.1 dX0_outcomeOf_49 (by decide) (fun c8 => ?_) (fun c8 => ?_)
    · replace hf := qi_t c8 hf
      refine lv_iconst (v := (nI 3)) F.1 F.2.1 dX0_outcomeOf_56 (by decide) ?_
      have e9 := qs1 hf
      subst e9
      exact hQ _ _ _ _ hP hS rfl dX0_outcomeOf_57
    · replace hf := qi_f c8 hf
      refine lv_iconst (v := (nI 2)) F.1 F.2.1 dX0_outcomeOf_52 (by decide) ?_
      refine lv_goto (tgt := 57) F.1 F.2.1 dX0_outcomeOf_53 (by decide) ?_
      have e9 := qs1 hf
      subst e9
      exact hQ _ _ _ _ hP hS rfl dX0_outcomeOf_57
  · replace hf := qi_t c5 hf
    refine lv_aload_n F.1 F.2.1 dX0_outcomeOf_19 rfl (lv_at hl 0 rfl) ?_
    refine qr_gSr F G (fun w h => F.2.2.2.2 w (List.mem_cons_of_mem _ (List.mem_append_right _ h))) hP hk 5 (by decide) (List.mem_of_getElem? (i := 1) rfl) dX0_outcomeOf_20 ?_
    refine lv_iconst (v := (nI 0)) F.1 F.2.1 dX0_outcomeOf_23 (by decide) ?_
    refine qr_row (c := 13) F G hP hk (by decide) (by decide) rfl rfl (by unfold vp_in; decide) (by decide) dX0_outcomeOf_24 ?_
    refine lv_iload_n F.1 F.2.1 dX0_outcomeOf_25 rfl (lv_at hl 2 rfl) ?_
    obtain ⟨g10, hf⟩ := qg_x hf
    obtain ⟨z9, ez9, hf⟩ := qn_x hf
    refine qr_ald F G hP (qw_u1s _ _ _) (qw_IS (c := 13) (n := 16) hk (by decide)) g10 rfl ez9 dX0_outcomeOf_26 ?_
    refine lv_aload_n F.1 F.2.1 dX0_outcomeOf_27 rfl (lv_at hl 0 rfl) ?_
    refine qr_gSr F G (fun w h => F.2.2.2.2 w (List.mem_cons_of_mem _ (List.mem_append_right _ h))) hP hk 4 (by decide) (List.mem_of_getElem? (i := 2) rfl) dX0_outcomeOf_28 ?_
    refine lv_iconst (v := (nI 0)) F.1 F.2.1 dX0_outcomeOf_31 (by decide) ?_
    refine qr_row (c := 8) F G hP hk (by decide) (by decide) rfl rfl (by unfold vp_in; decide) (by decide) dX0_outcomeOf_32 ?_
    refine lv_iload_n F.1 F.2.1 dX0_outcomeOf_33 rfl (lv_at hl 1 rfl) ?_
    obtain ⟨g12, hf⟩ := qg_x hf
    obtain ⟨z11, ez11, hf⟩ := qn_x hf
    refine qr_ald F G hP (qw_u1s _ _ _) (qw_IS (c := 8) (n := 40) hk (by decide)) g12 rfl ez11 dX0_outcomeOf_34 ?_
    refine lv_icmp_ne (tgt := 42) F.1 F.2.1 dX0_outcomeOf_35 (by decide) (fun c13 => ?_) (fun c13 => ?_)
    · replace hf := qi_f c13 hf
      refine lv_iconst (v := (nI 1)) F.1 F.2.1 dX0_outcomeOf_42 (by decide) ?_
      have e9 := qs1 hf
      subst e9
      exact hQ _ _ _ _ hP hS rfl dX0_outcomeOf_43
    · replace hf := qi_t c13 hf
      refine lv_iconst (v := (nI 0)) F.1 F.2.1 dX0_outcomeOf_38 (by decide) ?_
      refine lv_goto (tgt := 43) F.1 F.2.1 dX0_outcomeOf_39 (by decide) ?_
      have e9 := qs1 hf
      subst e9
      exact hQ _ _ _ _ hP hS rfl dX0_outcomeOf_43
set_option maxRecDepth 100000 in
set_option maxHeartbeats 4000000 in
theorem qc_X0_outcomeOf (l : Launch) {L : wL} (hJ : qw_J L) {k : Nat} {X : wM} {h : Nat → Nat} {m : wm} (hX : X k = m) {x1 : Int32} {x2 : Int32} {r : Int32} (hk : qw_k L k) (hf : qf_X0_outcomeOf x1 x2 m = some r) : qw_MI l yX0_outcomeOf wsX0_outcomeOf rm_X0_outcomeOf L (.ref (qw_ad L k 0) :: [.int x1, .int x2]) X h r X h := by
  subst hX
  refine qw_MI_of (cc := cX0_outcomeOf) (maxL := 3) (ty := .int) (by decide) rfl hJ (Nat.le_of_ble_eq_true rfl) ?_
  intro p e s mi below meth co Q ls F G hP hQ hl
  exact qb_X0_outcomeOf F G hk (by rw [qw_u1i]; exact hQ) _ _ _ _ _ hf (by rw [qw_u1i]; exact hP) va_S.rf hl
def rm_X0_confess : Room := { frames := 1, cells := 0, slots := 0, locals := 40 }
theorem e_X0_confess : qw_hd yX0_confess RX0 1 := by decide +kernel
set_option maxRecDepth 100000 in
set_option maxHeartbeats 4000000 in
theorem qb_X0_confess_99 {p : Program} {l : Launch} {e : Env} {s : State} {mi : MethodId} {args : Array Value} {below : List Frame} {meth : Method} {co : Code} {Q : State → Prop} {L : wL} {M : wM} {k : Nat} {h : Nat → Nat} {m9 : wm} (F : CallFix p mi co cX0_confess 6 s args wsX0_confess RX0) (G : qw_G L (qw_A L) s) (hk : qw_k L k) (hQ : qw_RV p l e rm_X0_confess s mi args below meth co cX0_confess Q L (qw_u1 M k m9) h) : ∀ (x2 : Int32) (x4 : Int32) (y0 : Int32) (y1 : Int32) (m : wm) (H : Heap) (locs : List Loc) (ls : Array Slot), qf_X0_confess_99 x2 x4 y0 y1 m = some m9 → qw_P L (qw_u1 M k m) h H → va_S (qw_A L) s.heap H locs → lv_has ls 6 [(0, .ref (qw_ad L k 0)), (2, .int x2), (4, .int x4)] → W p l e rm_X0_confess s mi args below meth co H locs 0 0 Q (F0 mi 99 ls [.int y0, .int y1, .ref (qw_ad L k 19)]) := by
  intro x2 x4 y0 y1 m H locs ls hf hP hS hl
  unfold qf_X0_confess_99 at hf
  obtain ⟨g1, hf⟩ := qg_x hf
  obtain ⟨m2, em2, hf⟩ := qn_x hf
  refine qr_ast F G hP hS (qw_u1s _ _ _) (qw_IS (c := 19) (n := 12) hk (by decide)) g1 rfl (qw_fx em2) dX0_confess_99 (fun H locs hP hS => ?_)
  refine lv_aload_n F.1 F.2.1 dX0_confess_100 rfl (lv_at hl 0 rfl) ?_
  refine qr_gSr F G (fun w h => F.2.2.2.2 w (List.mem_cons_of_mem _ (List.mem_append_right _ h))) hP hk 7 (by decide) (List.mem_of_getElem? (i := 5) rfl) dX0_confess_101 ?_
  refine lv_iconst (v := (nI 1)) F.1 F.2.1 dX0_confess_104 (by decide) ?_
  refine qr_row (c := 20) F G hP hk (by decide) (by decide) rfl rfl (by unfold vp_in; decide) (by decide) dX0_confess_105 ?_
  refine lv_iconst (v := (nI 0)) F.1 F.2.1 dX0_confess_106 (by decide) ?_
  refine lv_iload F.1 F.2.1 dX0_confess_107 (lv_at hl 2 rfl) ?_
  obtain ⟨m3, em3, hf⟩ := qn_x hf
  refine qr_ast F G hP hS (qw_u1s _ _ _) (qw_IS (c := 20) (n := 12) hk (by decide)) (by unfold vp_in; decide) (by decide) (qw_fx em3) dX0_confess_109 (fun H locs hP hS => ?_)
  refine lv_aload_n F.1 F.2.1 dX0_confess_110 rfl (lv_at hl 0 rfl) ?_
  refine qr_gSr F G (fun w h => F.2.2.2.2 w (List.mem_cons_of_mem _ (List.mem_append_right _ h))) hP hk 7 (by decide) (List.mem_of_getElem? (i := 5) rfl) dX0_confess_111 ?_
  refine lv_iconst (v := (nI 2)) F.1 F.2.1 dX0_confess_114 (by decide) ?_
  refine qr_row (c := 21) F G hP hk (by decide) (by decide) rfl rfl (by unfold vp_in; decide) (by decide) dX0_confess_115 ?_
  refine lv_iconst (v := (nI 0)) F.1 F.2.1 dX0_confess_116 (by decide) ?_
  refine lv_aload_n F.1 F.2.1 dX0_confess_117 rfl (lv_at hl 0 rfl) ?_
  refine qr_gSr F G (fun w h => F.2.2.2.2 w (List.mem_cons_of_mem _ (List.mem_append_right _ h))) hP hk 4 (by decide) (List.mem_of_getElem? (i := 2) rfl) dX0_confess_118 ?_
  refine lv_iconst (v := (nI 0)) F.1 F.2.1 dX0_confess_121 (by decide) ?_
  refine qr_row (c := 8) F G hP hk (by decide) (by decide) rfl rfl (by unfold vp_in; decide) (by decide) dX0_confess_122 ?_
  refine lv_iload_n F.1 F.2.1 dX0_confess_123 rfl (lv_at hl 1 rfl) ?_
  obtain ⟨g5, hf⟩ := qg_x hf
  obtain ⟨z4, ez4, hf⟩ := qn_x hf
  refine qr_ald F G hP (qw_u1s _ _ _) (qw_IS (c := 8) (n := 40) hk (by decide)) g5 rfl ez4 dX0_confess_124 ?_
  obtain ⟨m6, em6, hf⟩ := qn_x hf
  refine qr_ast F G hP hS (qw_u1s _ _ _) (qw_IS (c := 21) (n := 12) hk (by decide)) (by unfold vp_in; decide) (by decide) (qw_fx em6) dX0_confess_125 (fun H locs hP hS => ?_)
  refine lv_aload_n F.1 F.2.1 dX0_confess_126 rfl (lv_at hl 0 rfl) ?_
  refine qr_gSr F G (fun w h => F.2.2.2.2 w (List.mem_cons_of_mem _ (List.mem_append_right _ h))) hP hk 7 (by decide) (List.mem_of_getElem? (i := 5) rfl) dX0_confess_127 ?_
  refine lv_iconst (v := (nI 3)) F.1 F.2.1 dX0_confess_130 (by decide) ?_
  refine qr_row (c := 22) F G hP hk (by decide) (by decide) rfl rfl (by unfold vp_in; decide) (by decide) dX0_confess_131 ?_
  refine lv_iconst (v := (nI 0)) F.1 F.2.1 dX0_confess_132 (by decide) ?_
  refine lv_aload_n F.1 F.2.1 dX0_confess_133 rfl (lv_at hl 0 rfl) ?_
  refine qr_gSr F G (fun w h => F.2.2.2.2 w (List.mem_cons_of_mem _ (List.mem_append_right _ h))) hP hk 5 (by decide) (List.mem_of_getElem? (i := 3) rfl) dX0_confess_134 ?_
  refine lv_iconst (v := (nI 1)) F.1 F.2.1 dX0_confess_137 (by decide) ?_
  refine qr_row (c := 14) F G hP hk (by decide) (by decide) rfl rfl (by unfold vp_in; decide) (by decide) dX0_confess_138 ?_
  refine lv_aload_n F.1 F.2.1 dX0_confess_139 rfl (lv_at hl 0 rfl) ?_
  obtain ⟨z7, ez7, hf⟩ := qn_x hf
  refine qr_gS F G (fun w h => F.2.2.2.2 w (List.mem_cons_of_mem _ (List.mem_append_right _ h))) hP hk (qw_u1s _ _ _) 2 (by decide) (List.mem_of_getElem? (i := 4) rfl) ez7 dX0_confess_140 ?_
  obtain ⟨g9, hf⟩ := qg_x hf
  obtain ⟨z8, ez8, hf⟩ := qn_x hf
  refine qr_ald F G hP (qw_u1s _ _ _) (qw_IS (c := 14) (n := 16) hk (by decide)) g9 rfl ez8 dX0_confess_143 ?_
  obtain ⟨m10, em10, hf⟩ := qn_x hf
  refine qr_ast F G hP hS (qw_u1s _ _ _) (qw_IS (c := 22) (n := 12) hk (by decide)) (by unfold vp_in; decide) (by decide) (qw_fx em10) dX0_confess_144 (fun H locs hP hS => ?_)
  refine lv_aload_n F.1 F.2.1 dX0_confess_145 rfl (lv_at hl 0 rfl) ?_
  refine qr_gSr F G (fun w h => F.2.2.2.2 w (List.mem_cons_of_mem _ (List.mem_append_right _ h))) hP hk 7 (by decide) (List.mem_of_getElem? (i := 5) rfl) dX0_confess_146 ?_
  refine lv_iconst (v := (nI 4)) F.1 F.2.1 dX0_confess_149 (by decide) ?_
  refine qr_row (c := 23) F G hP hk (by decide) (by decide) rfl rfl (by unfold vp_in; decide) (by decide) dX0_confess_150 ?_
  refine lv_iconst (v := (nI 0)) F.1 F.2.1 dX0_confess_151 (by decide) ?_
  refine lv_aload_n F.1 F.2.1 dX0_confess_152 rfl (lv_at hl 0 rfl) ?_
  refine qr_gSr F G (fun w h => F.2.2.2.2 w (List.mem_cons_of_mem _ (List.mem_append_right _ h))) hP hk 4 (by decide) (List.mem_of_getElem? (i := 2) rfl) dX0_confess_153 ?_
  refine lv_iconst (v := (nI 2)) F.1 F.2.1 dX0_confess_156 (by decide) ?_
  refine qr_row (c := 10) F G hP hk (by decide) (by decide) rfl rfl (by unfold vp_in; decide) (by decide) dX0_confess_157 ?_
  refine lv_iload_n F.1 F.2.1 dX0_confess_158 rfl (lv_at hl 1 rfl) ?_
  obtain ⟨g12, hf⟩ := qg_x hf
  obtain ⟨z11, ez11, hf⟩ := qn_x hf
  refine qr_ald F G hP (qw_u1s _ _ _) (qw_IS (c := 10) (n := 40) hk (by decide)) g12 rfl ez11 dX0_confess_159 ?_
  obtain ⟨m13, em13, hf⟩ := qn_x hf
  refine qr_ast F G hP hS (qw_u1s _ _ _) (qw_IS (c := 23) (n := 12) hk (by decide)) (by unfold vp_in; decide) (by decide) (qw_fx em13) dX0_confess_160 (fun H locs hP hS => ?_)
  refine lv_aload_n F.1 F.2.1 dX0_confess_161 rfl (lv_at hl 0 rfl) ?_
  refine qr_gSr F G (fun w h => F.2.2.2.2 w (List.mem_cons_of_mem _ (List.mem_append_right _ h))) hP hk 7 (by decide) (List.mem_of_getElem? (i := 5) rfl) dX0_confess_162 ?_
  refine lv_iconst (v := (nI 5)) F.1 F.2.1 dX0_confess_165 (by decide) ?_
  refine qr_row (c := 24) F G hP hk (by decide) (by decide) rfl rfl (by unfold vp_in; decide) (by decide) dX0_confess_166 ?_
  refine lv_iconst (v := (nI 0)) F.1 F.2.1 dX0_confess_167 (by decide) ?_
  refine lv_aload_n F.1 F.2.1 dX0_confess_168 rfl (lv_at hl 0 rfl) ?_
  obtain ⟨z14, ez14, hf⟩ := qn_x hf
  refine qr_gS F G (fun w h => F.2.2.2.2 w (List.mem_cons_of_mem _ (List.mem_append_right _ h))) hP hk (qw_u1s _ _ _) 5 (by decide) (List.mem_of_getElem? (i := 10) rfl) ez14 dX0_confess_169 ?_
  obtain ⟨m15, em15, hf⟩ := qn_x hf
  refine qr_ast F G hP hS (qw_u1s _ _ _) (qw_IS (c := 24) (n := 12) hk (by decide)) (by unfold vp_in; decide) (by decide) (qw_fx em15) dX0_confess_172 (fun H locs hP hS => ?_)
  refine lv_aload_n F.1 F.2.1 dX0_confess_173 rfl (lv_at hl 0 rfl) ?_
  refine lv_aload_n F.1 F.2.1 dX0_confess_174 rfl (lv_at hl 0 rfl) ?_
  obtain ⟨z16, ez16, hf⟩ := qn_x hf
  refine qr_gS F G (fun w h => F.2.2.2.2 w (List.mem_cons_of_mem _ (List.mem_append_right _ h))) hP hk (qw_u1s _ _ _) 6 (by decide) (List.mem_of_getElem? (i := 11) rfl) ez16 dX0_confess_175 ?_
  refine lv_iconst (v := (nI 1)) F.1 F.2.1 dX0_confess_178 (by decide) ?_
  obtain ⟨z17, ez17, hf⟩ := qn_x hf
  refine qr_iadd F ez17 dX0_confess_179 ?_
  refine lv_bipush (v := (nI 12)) F.1 F.2.1 dX0_confess_180 (by decide) ?_
  obtain ⟨z18, ez18, hf⟩ := qn_x hf
  refine qr_min F (List.mem_of_getElem? (i := 12) rfl) (List.mem_of_getElem? (i := 13) rfl) (List.mem_of_getElem? (i := 14) rfl) (List.mem_of_getElem? (i := 15) rfl) hl.1 (Nat.le_of_ble_eq_true rfl) (Nat.le_of_ble_eq_true rfl) ⟨Nat.zero_le _, Nat.zero_le _⟩ ez18 dX0_confess_182 ?_
  obtain ⟨m19, em19, hf⟩ := qn_x hf
  refine qr_pS F G (fun w h => F.2.2.2.2 w (List.mem_cons_of_mem _ (List.mem_append_right _ h))) hP hS hk (qw_u1s _ _ _) 6 (by decide) (List.mem_of_getElem? (i := 11) rfl) (qw_fx em19) dX0_confess_185 (fun H locs hP hS => ?_)
  refine lv_iload F.1 F.2.1 dX0_confess_188 (lv_at hl 2 rfl) ?_
  refine lv_if_lt (tgt := 204) F.1 F.2.1 dX0_confess_190 (by decide) (fun c20 => ?_) (fun c20 => ?_)
  · replace hf := qi_t c20 hf
    have e8 := qs1 hf
    subst e8
    exact hQ _ _ _ _ hP hS dX0_confess_204
  · replace hf := qi_f c20 hf
    refine lv_aload_n F.1 F.2.1 dX0_confess_193 rfl (lv_at hl 0 rfl) ?_
    refine qr_gSr F G (fun w h => F.2.2.2.2 w (List.mem_cons_of_mem _ (List.mem_append_right _ h))) hP hk 3 (by decide) (List.mem_of_getElem? (i := 16) rfl) dX0_confess_194 ?_
    refine lv_iload F.1 F.2.1 dX0_confess_197 (lv_at hl 2 rfl) ?_
    refine lv_dup2_11 F.1 F.2.1 dX0_confess_199 rfl rfl ?_
    obtain ⟨g22, hf⟩ := qg_x hf
    obtain ⟨z21, ez21, hf⟩ := qn_x hf
    refine qr_ald F G hP (qw_u1s _ _ _) (qw_IS (c := 3) (n := 200) hk (by decide)) g22 rfl ez21 dX0_confess_200 ?_
    refine lv_iconst (v := (nI 1)) F.1 F.2.1 dX0_confess_201 (by decide) ?_
    obtain ⟨z23, ez23, hf⟩ := qn_x hf
    refine qr_iadd F ez23 dX0_confess_202 ?_
    obtain ⟨g24, hf⟩ := qg_x hf
    obtain ⟨m25, em25, hf⟩ := qn_x hf
    refine qr_ast F G hP hS (qw_u1s _ _ _) (qw_IS (c := 3) (n := 200) hk (by decide)) g24 rfl (qw_fx em25) dX0_confess_203 (fun H locs hP hS => ?_)
    have e8 := qs1 hf
    subst e8
    exact hQ _ _ _ _ hP hS dX0_confess_204
set_option maxRecDepth 100000 in
set_option maxHeartbeats 4000000 in
theorem qb_X0_confess_83 {p : Program} {l : Launch} {e : Env} {s : State} {mi : MethodId} {args : Array Value} {below : List Frame} {meth : Method} {co : Code} {Q : State → Prop} {L : wL} {M : wM} {k : Nat} {h : Nat → Nat} {m9 : wm} (F : CallFix p mi co cX0_confess 6 s args wsX0_confess RX0) (G : qw_G L (qw_A L) s) (hk : qw_k L k) (hQ : qw_RV p l e rm_X0_confess s mi args below meth co cX0_confess Q L (qw_u1 M k m9) h) : ∀ (x2 : Int32) (x3 : Int32) (x4 : Int32) (m : wm) (H : Heap) (locs : List Loc) (ls : Array Slot), qf_X0_confess_83 x2 x3 x4 m = some m9 → qw_P L (qw_u1 M k m) h H → va_S (qw_A L) s.heap H locs → lv_has ls 6 [(0, .ref (qw_ad L k 0)), (2, .int x2), (3, .int x3), (4, .int x4)] → W p l e rm_X0_confess s mi args below meth co H locs 0 0 Q (F0 mi 83 ls []) := by
  intro x2 x3 x4 m H locs ls hf hP hS hl
  unfold qf_X0_confess_83 at hf
  refine lv_aload_n F.1 F.2.1 dX0_confess_83 rfl (lv_at hl 0 rfl) ?_
  refine qr_gSr F G (fun w h => F.2.2.2.2 w (List.mem_cons_of_mem _ (List.mem_append_right _ h))) hP hk 7 (by decide) (List.mem_of_getElem? (i := 5) rfl) dX0_confess_84 ?_
  refine lv_iconst (v := (nI 0)) F.1 F.2.1 dX0_confess_87 (by decide) ?_
  refine qr_row (c := 19) F G hP hk (by decide) (by decide) rfl rfl (by unfold vp_in; decide) (by decide) dX0_confess_88 ?_
  refine lv_iconst (v := (nI 0)) F.1 F.2.1 dX0_confess_89 (by decide) ?_
  refine lv_iload_n F.1 F.2.1 dX0_confess_90 rfl (lv_at hl 2 rfl) ?_
  refine lv_if_eq (tgt := 98) F.1 F.2.1 dX0_confess_91 (by decide) (fun c1 => ?_) (fun c1 => ?_)
  · replace hf := qi_t c1 hf
    refine lv_iconst (v := (nI 2)) F.1 F.2.1 dX0_confess_98 (by decide) ?_
    exact qb_X0_confess_99 F G hk hQ _ _ _ _ _ _ _ _ hf hP hS (lv_sub hl [0, 1, 3] rfl)
  · replace hf := qi_f c1 hf
    refine lv_iconst (v := (nI 1)) F.1 F.2.1 dX0_confess_94 (by decide) ?_
    refine lv_goto (tgt := 99) F.1 F.2.1 dX0_confess_95 (by decide) ?_
    exact qb_X0_confess_99 F G hk hQ _ _ _ _ _ _ _ _ hf hP hS (lv_sub hl [0, 1, 3] rfl)
set_option maxRecDepth 100000 in
set_option maxHeartbeats 4000000 in
theorem qb_X0_confess_49 {p : Program} {l : Launch} {e : Env} {s : State} {mi : MethodId} {args : Array Value} {below : List Frame} {meth : Method} {co : Code} {Q : State → Prop} {L : wL} {M : wM} {k : Nat} {h : Nat → Nat} {m9 : wm} (F : CallFix p mi co cX0_confess 6 s args wsX0_confess RX0) (G : qw_G L (qw_A L) s) (hk : qw_k L k) (hQ : qw_RV p l e rm_X0_confess s mi args below meth co cX0_confess Q L (qw_u1 M k m9) h) : ∀ (n : Nat) (x2 : Int32) (x3 : Int32) (x4 : Int32) (x5 : Int32) (m : wm) (H : Heap) (locs : List Loc) (ls : Array Slot), qf_X0_confess_49 n x2 x3 x4 x5 m = some m9 → qw_P L (qw_u1 M k m) h H → va_S (qw_A L) s.heap H locs → lv_has ls 6 [(0, .ref (qw_ad L k 0)), (2, .int x2), (3, .int x3), (4, .int x4), (5, .int x5)] → W p l e rm_X0_confess s mi args below meth co H locs 0 0 Q (F0 mi 49 ls []) := by
  intro n
  induction n with
  | zero =>
    intro x2 x3 x4 x5 m H locs ls hf hP hS hl
    rw [qf_X0_confess_49] at hf
    cases hf
  | succ n ih =>
    intro x2 x3 x4 x5 m H locs ls hf hP hS hl
    rw [qf_X0_confess_49] at hf
    refine lv_iload F.1 F.2.1 dX0_confess_49 (lv_at hl 4 rfl) ?_
    refine lv_bipush (v := (nI 6)) F.1 F.2.1 dX0_confess_51 (by decide) ?_
    refine lv_icmp_ge (tgt := 83) F.1 F.2.1 dX0_confess_53 (by decide) (fun c1 => ?_) (fun c1 => ?_)
    · replace hf := qi_t c1 hf
      exact qb_X0_confess_83 F G hk hQ _ _ _ _ _ _ _ hf hP hS (lv_sub hl [0, 1, 2, 3] rfl)
    · replace hf := qi_f c1 hf
      refine lv_aload_n F.1 F.2.1 dX0_confess_56 rfl (lv_at hl 0 rfl) ?_
      refine qr_gSr F G (fun w h => F.2.2.2.2 w (List.mem_cons_of_mem _ (List.mem_append_right _ h))) hP hk 7 (by decide) (List.mem_of_getElem? (i := 5) rfl) dX0_confess_57 ?_
      refine lv_iload F.1 F.2.1 dX0_confess_60 (lv_at hl 4 rfl) ?_
      obtain ⟨g2, hf⟩ := qg_x hf
      refine qr_row (c := (19 + x5.toNatClampNeg)) F G hP hk (by decide) (by decide) rfl rfl g2 rfl dX0_confess_62 ?_
      refine lv_iconst (v := (nI 0)) F.1 F.2.1 dX0_confess_63 (by decide) ?_
      refine lv_aload_n F.1 F.2.1 dX0_confess_64 rfl (lv_at hl 0 rfl) ?_
      refine qr_gSr F G (fun w h => F.2.2.2.2 w (List.mem_cons_of_mem _ (List.mem_append_right _ h))) hP hk 7 (by decide) (List.mem_of_getElem? (i := 5) rfl) dX0_confess_65 ?_
      refine lv_iload F.1 F.2.1 dX0_confess_68 (lv_at hl 4 rfl) ?_
      obtain ⟨g3, hf⟩ := qg_x hf
      refine qr_row (c := (19 + x5.toNatClampNeg)) F G hP hk (by decide) (by decide) rfl rfl g3 rfl dX0_confess_70 ?_
      refine lv_iconst (v := (nI 1)) F.1 F.2.1 dX0_confess_71 (by decide) ?_
      refine lv_bipush (v := (nI 11)) F.1 F.2.1 dX0_confess_72 (by decide) ?_
      obtain ⟨m4, em4, hf⟩ := qn_x hf
      refine qr_cpy F G hP hS (qw_u1s _ _ _) (qw_row7 hk (qw_lt g2)) (qw_row7 hk (qw_lt g3)) (congrFun (qw_u1s _ _ _) _) (by decide) (by decide) (by decide) (by decide) (by decide) (by decide) (by decide) (by decide) (qw_fx em4) (List.mem_of_getElem? (i := 6) rfl) (List.mem_of_getElem? (i := 7) rfl) (List.mem_of_getElem? (i := 8) rfl) (List.mem_of_getElem? (i := 9) rfl) hl.1 (Nat.le_of_ble_eq_true rfl) (Nat.le_of_ble_eq_true rfl) dX0_confess_74 (fun H locs hP hS => ?_)
      obtain ⟨z5, ez5, hf⟩ := qn_x hf
      refine lv_iinc (v := z5) (lv' := [(5, .int z5), (0, .ref (qw_ad L k 0)), (2, .int x2), (3, .int x3), (4, .int x4)]) F.1 F.2.1 dX0_confess_77 hl (k := 4) rfl ((qw_ii1 _).trans ez5.symm) (by decide) rfl (fun ls hl => ?_)
      refine lv_goto (tgt := 49) F.1 F.2.1 dX0_confess_80 (by decide) ?_
      exact ih _ _ _ _ _ _ _ _ hf hP hS (lv_sub hl [1, 2, 3, 4, 0] rfl)
set_option maxRecDepth 100000 in
set_option maxHeartbeats 4000000 in
theorem qb_X0_confess_44 {p : Program} {l : Launch} {e : Env} {s : State} {mi : MethodId} {args : Array Value} {below : List Frame} {meth : Method} {co : Code} {Q : State → Prop} {L : wL} {M : wM} {k : Nat} {h : Nat → Nat} {m9 : wm} (F : CallFix p mi co cX0_confess 6 s args wsX0_confess RX0) (G : qw_G L (qw_A L) s) (hk : qw_k L k) (hQ : qw_RV p l e rm_X0_confess s mi args below meth co cX0_confess Q L (qw_u1 M k m9) h) : ∀ (x2 : Int32) (x3 : Int32) (y0 : Int32) (m : wm) (H : Heap) (locs : List Loc) (ls : Array Slot), qf_X0_confess_44 x2 x3 y0 m = some m9 → qw_P L (qw_u1 M k m) h H → va_S (qw_A L) s.heap H locs → lv_has ls 6 [(0, .ref (qw_ad L k 0)), (2, .int x2), (3, .int x3)] → W p l e rm_X0_confess s mi args below meth co H locs 0 0 Q (F0 mi 44 ls [.int y0]) := by
  intro x2 x3 y0 m H locs ls hf hP hS hl
  unfold qf_X0_confess_44 at hf
  refine lv_istore (lv' := [(4, .int y0), (0, .ref (qw_ad L k 0)), (2, .int x2), (3, .int x3)]) F.1 F.2.1 dX0_confess_44 hl (by decide) rfl (fun ls hl => ?_)
  refine lv_iconst (v := (nI 0)) F.1 F.2.1 dX0_confess_46 (by decide) ?_
  refine lv_istore (lv' := [(5, .int (nI 0)), (4, .int y0), (0, .ref (qw_ad L k 0)), (2, .int x2), (3, .int x3)]) F.1 F.2.1 dX0_confess_47 hl (by decide) rfl (fun ls hl => ?_)
  exact qb_X0_confess_49 F G hk hQ _ _ _ _ _ _ _ _ _ hf hP hS (lv_sub hl [2, 3, 4, 1, 0] rfl)
set_option maxRecDepth 100000 in
set_option maxHeartbeats 4000000 in
theorem qb_X0_confess_17 {p : Program} {l : Launch} {e : Env} {s : State} {mi : MethodId} {args : Array Value} {below : List Frame} {meth : Method} {co : Code} {Q : State → Prop} {L : wL} {M : wM} {k : Nat} {h : Nat → Nat} {m9 : wm} (F : CallFix p mi co cX0_confess 6 s args wsX0_confess RX0) (G : qw_G L (qw_A L) s) (hk : qw_k L k) (hQ : qw_RV p l e rm_X0_confess s mi args below meth co cX0_confess Q L (qw_u1 M k m9) h) : ∀ (x2 : Int32) (y0 : Int32) (m : wm) (H : Heap) (locs : List Loc) (ls : Array Slot), qf_X0_confess_17 x2 y0 m = some m9 → qw_P L (qw_u1 M k m) h H → va_S (qw_A L) s.heap H locs → lv_has ls 6 [(0, .ref (qw_ad L k 0)), (2, .int x2)] → W p l e rm_X0_confess s mi args below meth co H locs 0 0 Q (F0 mi 17 ls [.int y0]) := by
  intro x2 y0 m H locs ls hf hP hS hl
  unfold qf_X0_confess_17 at hf
  refine lv_istore_n (lv' := [(3, .int y0), (0, .ref (qw_ad L k 0)), (2, .int x2)]) F.1 F.2.1 dX0_confess_17 rfl hl (by decide) rfl (fun ls hl => ?_)
  refine lv_iload_n F.1 F.2.1 dX0_confess_18 rfl (lv_at hl 0 rfl) ?_
  refine lv_if_eq (tgt := 33) F.1 F.2.1 dX0_confess_19 (by decide) (fun c1 => ?_) (fun c1 => ?_)
  · replace hf := qi_t c1 hf
    refine lv_aload_n F.1 F.2.1 dX0_confess_33 rfl (lv_at hl 1 rfl) ?_
    refine qr_gSr F G (fun w h => F.2.2.2.2 w (List.mem_cons_of_mem _ (List.mem_append_right _ h))) hP hk 5 (by decide) (List.mem_of_getElem? (i := 3) rfl) dX0_confess_34 ?_
    refine lv_iconst (v := (nI 0)) F.1 F.2.1 dX0_confess_37 (by decide) ?_
    refine qr_row (c := 13) F G hP hk (by decide) (by decide) rfl rfl (by unfold vp_in; decide) (by decide) dX0_confess_38 ?_
    refine lv_aload_n F.1 F.2.1 dX0_confess_39 rfl (lv_at hl 1 rfl) ?_
    obtain ⟨z2, ez2, hf⟩ := qn_x hf
    refine qr_gS F G (fun w h => F.2.2.2.2 w (List.mem_cons_of_mem _ (List.mem_append_right _ h))) hP hk (qw_u1s _ _ _) 2 (by decide) (List.mem_of_getElem? (i := 4) rfl) ez2 dX0_confess_40 ?_
    obtain ⟨g4, hf⟩ := qg_x hf
    obtain ⟨z3, ez3, hf⟩ := qn_x hf
    refine qr_ald F G hP (qw_u1s _ _ _) (qw_IS (c := 13) (n := 16) hk (by decide)) g4 rfl ez3 dX0_confess_43 ?_
    exact qb_X0_confess_44 F G hk hQ _ _ _ _ _ _ _ hf hP hS (lv_sub hl [1, 2, 0] rfl)
  · replace hf := qi_f c1 hf
    refine lv_aload_n F.1 F.2.1 dX0_confess_22 rfl (lv_at hl 1 rfl) ?_
    refine qr_gSr F G (fun w h => F.2.2.2.2 w (List.mem_cons_of_mem _ (List.mem_append_right _ h))) hP hk 4 (by decide) (List.mem_of_getElem? (i := 2) rfl) dX0_confess_23 ?_
    refine lv_iconst (v := (nI 4)) F.1 F.2.1 dX0_confess_26 (by decide) ?_
    refine qr_row (c := 12) F G hP hk (by decide) (by decide) rfl rfl (by unfold vp_in; decide) (by decide) dX0_confess_27 ?_
    refine lv_iload_n F.1 F.2.1 dX0_confess_28 rfl (lv_at hl 2 rfl) ?_
    obtain ⟨g6, hf⟩ := qg_x hf
    obtain ⟨z5, ez5, hf⟩ := qn_x hf
    refine qr_ald F G hP (qw_u1s _ _ _) (qw_IS (c := 12) (n := 40) hk (by decide)) g6 rfl ez5 dX0_confess_29 ?_
    refine lv_goto (tgt := 44) F.1 F.2.1 dX0_confess_30 (by decide) ?_
    exact qb_X0_confess_44 F G hk hQ _ _ _ _ _ _ _ hf hP hS (lv_sub hl [1, 2, 0] rfl)
set_option maxRecDepth 100000 in
set_option maxHeartbeats 4000000 in
theorem qb_X0_confess {p : Program} {l : Launch} {e : Env} {s : State} {mi : MethodId} {args : Array Value} {below : List Frame} {meth : Method} {co : Code} {Q : State → Prop} {L : wL} {M : wM} {k : Nat} {h : Nat → Nat} {m9 : wm} (F : CallFix p mi co cX0_confess 6 s args wsX0_confess RX0) (G : qw_G L (qw_A L) s) (hk : qw_k L k) (hQ : qw_RV p l e rm_X0_confess s mi args below meth co cX0_confess Q L (qw_u1 M k m9) h) : ∀ (x1 : Int32) (m : wm) (H : Heap) (locs : List Loc) (ls : Array Slot), qf_X0_confess x1 m = some m9 → qw_P L (qw_u1 M k m) h H → va_S (qw_A L) s.heap H locs → lv_has ls 6 [(0, .ref (qw_ad L k 0)), (1, .int x1)] → W p l e rm_X0_confess s mi args below meth co H locs 0 0 Q (F0 mi 0 ls []) := by
  intro x1 m H locs ls hf hP hS hl
  unfold qf_X0_confess at hf
  refine lv_aload_n F.1 F.2.1 dX0_confess_0 rfl (lv_at hl 0 rfl) ?_
  obtain ⟨z1, ez1, hf⟩ := qn_x hf
  refine qr_gS F G (fun w h => F.2.2.2.2 w (List.mem_cons_of_mem _ (List.mem_append_right _ h))) hP hk (qw_u1s _ _ _) 3 (by decide) (List.mem_of_getElem? (i := 1) rfl) ez1 dX0_confess_1 ?_
  refine lv_iconst (v := (nI 1)) F.1 F.2.1 dX0_confess_4 (by decide) ?_
  obtain ⟨z2, ez2, hf⟩ := qn_x hf
  refine qr_isub F ez2 dX0_confess_5 ?_
  refine lv_istore_n (lv' := [(2, .int z2), (0, .ref (qw_ad L k 0)), (1, .int x1)]) F.1 F.2.1 dX0_confess_6 rfl hl (by decide) rfl (fun ls hl => ?_)
  refine lv_iload_n F.1 F.2.1 dX0_confess_7 rfl (lv_at hl 2 rfl) ?_
  refine lv_iconst (v := (nI 2)) F.1 F.2.1 dX0_confess_8 (by decide) ?_
  refine lv_icmp_ne (tgt := 16) F.1 F.2.1 dX0_confess_9 (by decide) (fun c3 => ?_) (fun c3 => ?_)
  · replace hf := qi_f c3 hf
    refine lv_iconst (v := (nI 0)) F.1 F.2.1 dX0_confess_16 (by decide) ?_
    exact qb_X0_confess_17 F G hk hQ _ _ _ _ _ _ hf hP hS (lv_sub hl [1, 0] rfl)
  · replace hf := qi_t c3 hf
    refine lv_iconst (v := (nI 1)) F.1 F.2.1 dX0_confess_12 (by decide) ?_
    refine lv_goto (tgt := 17) F.1 F.2.1 dX0_confess_13 (by decide) ?_
    exact qb_X0_confess_17 F G hk hQ _ _ _ _ _ _ hf hP hS (lv_sub hl [1, 0] rfl)
set_option maxRecDepth 100000 in
set_option maxHeartbeats 4000000 in
theorem qc_X0_confess (l : Launch) {L : wL} (hJ : qw_J L) {k : Nat} {X X9 : wM} {h : Nat → Nat} {m m9 : wm} (hX : X k = m) (hX9 : qw_u1 X k m9 = X9) {x1 : Int32} (hk : qw_k L k) (hf : qf_X0_confess x1 m = some m9) : qw_MV l yX0_confess wsX0_confess rm_X0_confess L (.ref (qw_ad L k 0) :: [.int x1]) X h X9 h := by
  subst hX
  subst hX9
  refine qw_MV_of (cc := cX0_confess) (maxL := 6) (by decide) rfl hJ (Nat.le_of_ble_eq_true rfl) ?_
  intro p e s mi below meth co Q ls F G hP hQ hl
  exact qb_X0_confess F G hk hQ _ _ _ _ _ hf (by rw [qw_u1i]; exact hP) va_S.rf hl
def rm_X0_slotBefore : Room := { frames := 0, cells := 0, slots := 0, locals := 0 }
theorem e_X0_slotBefore : qw_hd yX0_slotBefore RX0 1 := by decide +kernel
set_option maxRecDepth 100000 in
set_option maxHeartbeats 4000000 in
theorem qb_X0_slotBefore {p : Program} {l : Launch} {e : Env} {s : State} {mi : MethodId} {args : Array Value} {below : List Frame} {meth : Method} {co : Code} {Q : State → Prop} {L : wL} {M : wM} {k : Nat} {h : Nat → Nat} {r : Int32} {m : wm} (F : CallFix p mi co cX0_slotBefore 2 s args wsX0_slotBefore RX0) (G : qw_G L (qw_A L) s) (hk : qw_k L k) (hQ : qw_RI p l e rm_X0_slotBefore s mi args below meth co cX0_slotBefore .int Q L r (qw_u1 M k m) h) : ∀ (x1 : Int32) (H : Heap) (locs : List Loc) (ls : Array Slot), qf_X0_slotBefore x1 m = some r → qw_P L (qw_u1 M k m) h H → va_S (qw_A L) s.heap H locs → lv_has ls 2 [(0, .ref (qw_ad L k 0)), (1, .int x1)] → W p l e rm_X0_slotBefore s mi args below meth co H locs 0 0 Q (F0 mi 0 ls []) := by
  intro x1 H locs ls hf hP hS hl
  unfold qf_X0_slotBefore at hf
  refine lv_iload_n F.1 F.2.1 dX0_slotBefore_0 rfl (lv_at hl 1 rfl) ?_
  refine lv_if_le (tgt := 10) F.1 F.2.1 dX0_slotBefore_1 (by decide) (fun c1 => ?_) (fun c1 => ?_)
  · replace hf := qi_t c1 hf
    refine lv_aload_n F.1 F.2.1 dX0_slotBefore_10 rfl (lv_at hl 0 rfl) ?_
    obtain ⟨z2, ez2, hf⟩ := qn_x hf
    refine qr_gS F G (fun w h => F.2.2.2.2 w (List.mem_cons_of_mem _ (List.mem_append_right _ h))) hP hk (qw_u1s _ _ _) 1 (by decide) (List.mem_of_getElem? (i := 1) rfl) ez2 dX0_slotBefore_11 ?_
    refine lv_iconst (v := (nI 1)) F.1 F.2.1 dX0_slotBefore_14 (by decide) ?_
    obtain ⟨z3, ez3, hf⟩ := qn_x hf
    refine qr_isub F ez3 dX0_slotBefore_15 ?_
    have e9 := qs1 hf
    subst e9
    exact hQ _ _ _ _ hP hS rfl dX0_slotBefore_16
  · replace hf := qi_f c1 hf
    refine lv_iload_n F.1 F.2.1 dX0_slotBefore_4 rfl (lv_at hl 1 rfl) ?_
    refine lv_iconst (v := (nI 1)) F.1 F.2.1 dX0_slotBefore_5 (by decide) ?_
    obtain ⟨z4, ez4, hf⟩ := qn_x hf
    refine qr_isub F ez4 dX0_slotBefore_6 ?_
    refine lv_goto (tgt := 16) F.1 F.2.1 dX0_slotBefore_7 (by decide) ?_
    have e9 := qs1 hf
    subst e9
    exact hQ _ _ _ _ hP hS rfl dX0_slotBefore_16
set_option maxRecDepth 100000 in
set_option maxHeartbeats 4000000 in
theorem qc_X0_slotBefore (l : Launch) {L : wL} (hJ : qw_J L) {k : Nat} {X : wM} {h : Nat → Nat} {m : wm} (hX : X k = m) {x1 : Int32} {r : Int32} (hk : qw_k L k) (hf : qf_X0_slotBefore x1 m = some r) : qw_MI l yX0_slotBefore wsX0_slotBefore rm_X0_slotBefore L (.ref (qw_ad L k 0) :: [.int x1]) X h r X h := by
  subst hX
  refine qw_MI_of (cc := cX0_slotBefore) (maxL := 2) (ty := .int) (by decide) rfl hJ (Nat.le_of_ble_eq_true rfl) ?_
  intro p e s mi below meth co Q ls F G hP hQ hl
  exact qb_X0_slotBefore F G hk (by rw [qw_u1i]; exact hQ) _ _ _ _ hf (by rw [qw_u1i]; exact hP) va_S.rf hl
def rm_X0_removeFrame : Room := { frames := 2, cells := 0, slots := 0, locals := 65 }
theorem e_X0_removeFrame : qw_hd yX0_removeFrame RX0 0 := by decide +kernel
set_option maxRecDepth 100000 in
set_option maxHeartbeats 4000000 in
theorem qb_X0_removeFrame_30 {p : Program} {l : Launch} {e : Env} {s : State} {mi : MethodId} {args : Array Value} {below : List Frame} {meth : Method} {co : Code} {Q : State → Prop} {L : wL} {M : wM} {k : Nat} {h : Nat → Nat} {r : Int32} {m9 : wm} (F : CallFix p mi co cX0_removeFrame 2 s args wsX0_removeFrame RX0) (G : qw_G L (qw_A L) s) (hk : qw_k L k) (hQ : qw_RI p l e rm_X0_removeFrame s mi args below meth co cX0_removeFrame .int Q L r (qw_u1 M k m9) h) : ∀ (x1 : Int32) (m : wm) (H : Heap) (locs : List Loc) (ls : Array Slot), qf_X0_removeFrame_30 x1 m = some (r, m9) → qw_P L (qw_u1 M k m) h H → va_S (qw_A L) s.heap H locs → lv_has ls 2 [(0, .ref (qw_ad L k 0)), (1, .int x1)] → W p l e rm_X0_removeFrame s mi args below meth co H locs 0 0 Q (F0 mi 30 ls []) := by
  intro x1 m H locs ls hf hP hS hl
  unfold qf_X0_removeFrame_30 at hf
  refine lv_aload_n F.1 F.2.1 dX0_removeFrame_30 rfl (lv_at hl 0 rfl) ?_
  refine qr_gSr F G (fun w h => F.2.2.2.2 w (List.mem_cons_of_mem _ (List.mem_append_right _ h))) hP hk 2 (by decide) (List.mem_of_getElem? (i := 3) rfl) dX0_removeFrame_31 ?_
  refine lv_iload_n F.1 F.2.1 dX0_removeFrame_34 rfl (lv_at hl 1 rfl) ?_
  refine lv_dup2_11 F.1 F.2.1 dX0_removeFrame_35 rfl rfl ?_
  obtain ⟨g2, hf⟩ := qg_x hf
  obtain ⟨z1, ez1, hf⟩ := qn_x hf
  refine qr_ald F G hP (qw_u1s _ _ _) (qw_IS (c := 2) (n := 4) hk (by decide)) g2 rfl ez1 dX0_removeFrame_36 ?_
  refine lv_iconst (v := (nI 1)) F.1 F.2.1 dX0_removeFrame_37 (by decide) ?_
  obtain ⟨z3, ez3, hf⟩ := qn_x hf
  refine qr_iadd F ez3 dX0_removeFrame_38 ?_
  obtain ⟨g4, hf⟩ := qg_x hf
  obtain ⟨m5, em5, hf⟩ := qn_x hf
  refine qr_ast F G hP hS (qw_u1s _ _ _) (qw_IS (c := 2) (n := 4) hk (by decide)) g4 rfl (qw_fx em5) dX0_removeFrame_39 (fun H locs hP hS => ?_)
  refine lv_aload_n F.1 F.2.1 dX0_removeFrame_40 rfl (lv_at hl 0 rfl) ?_
  refine lv_dup F.1 F.2.1 dX0_removeFrame_41 rfl ?_
  obtain ⟨z6, ez6, hf⟩ := qn_x hf
  refine qr_gS F G (fun w h => F.2.2.2.2 w (List.mem_cons_of_mem _ (List.mem_append_right _ h))) hP hk (qw_u1s _ _ _) 3 (by decide) (List.mem_of_getElem? (i := 1) rfl) ez6 dX0_removeFrame_42 ?_
  refine lv_iconst (v := (nI 1)) F.1 F.2.1 dX0_removeFrame_45 (by decide) ?_
  obtain ⟨z7, ez7, hf⟩ := qn_x hf
  refine qr_isub F ez7 dX0_removeFrame_46 ?_
  obtain ⟨m8, em8, hf⟩ := qn_x hf
  refine qr_pS F G (fun w h => F.2.2.2.2 w (List.mem_cons_of_mem _ (List.mem_append_right _ h))) hP hS hk (qw_u1s _ _ _) 3 (by decide) (List.mem_of_getElem? (i := 1) rfl) (qw_fx em8) dX0_removeFrame_47 (fun H locs hP hS => ?_)
  refine lv_aload_n F.1 F.2.1 dX0_removeFrame_50 rfl (lv_at hl 0 rfl) ?_
  refine lv_aload_n F.1 F.2.1 dX0_removeFrame_51 rfl (lv_at hl 0 rfl) ?_
  refine lv_aload_n F.1 F.2.1 dX0_removeFrame_52 rfl (lv_at hl 0 rfl) ?_
  obtain ⟨z9, ez9, hf⟩ := qn_x hf
  refine qr_gS F G (fun w h => F.2.2.2.2 w (List.mem_cons_of_mem _ (List.mem_append_right _ h))) hP hk (qw_u1s _ _ _) 2 (by decide) (List.mem_of_getElem? (i := 2) rfl) ez9 dX0_removeFrame_53 ?_
  obtain ⟨r10, k11, hf⟩ := qb1_x hf
  refine qr_cVi F G hP hS (qc_X0_slotBefore l G.2.1 (qw_u1s _ _ _) hk k11) (qw_rcS hk) gX0_removeFrame_X0_slotBefore rfl ⟨rfl, rfl⟩ e_X0_slotBefore ⟨Nat.le_of_ble_eq_true rfl, Nat.le_of_ble_eq_true rfl⟩ rfl hl.1 rfl (Nat.le_of_ble_eq_true rfl) ⟨Nat.zero_le _, Nat.zero_le _⟩ dX0_removeFrame_56 (fun H locs hP hS => ?_)
  obtain ⟨m12, em12, hf⟩ := qn_x hf
  refine qr_pS F G (fun w h => F.2.2.2.2 w (List.mem_cons_of_mem _ (List.mem_append_right _ h))) hP hS hk (qw_u1s _ _ _) 2 (by decide) (List.mem_of_getElem? (i := 2) rfl) (qw_fx em12) dX0_removeFrame_59 (fun H locs hP hS => ?_)
  refine lv_iload_n F.1 F.2.1 dX0_removeFrame_62 rfl (lv_at hl 1 rfl) ?_
  obtain ⟨e9, e8⟩ := qs2 hf
  subst e9
  subst e8
  exact hQ _ _ _ _ hP hS rfl dX0_removeFrame_63
set_option maxRecDepth 100000 in
set_option maxHeartbeats 4000000 in
theorem qb_X0_removeFrame_25 {p : Program} {l : Launch} {e : Env} {s : State} {mi : MethodId} {args : Array Value} {below : List Frame} {meth : Method} {co : Code} {Q : State → Prop} {L : wL} {M : wM} {k : Nat} {h : Nat → Nat} {r : Int32} {m9 : wm} (F : CallFix p mi co cX0_removeFrame 2 s args wsX0_removeFrame RX0) (G : qw_G L (qw_A L) s) (hk : qw_k L k) (hQ : qw_RI p l e rm_X0_removeFrame s mi args below meth co cX0_removeFrame .int Q L r (qw_u1 M k m9) h) : ∀ (x1 : Int32) (m : wm) (H : Heap) (locs : List Loc) (ls : Array Slot), qf_X0_removeFrame_25 x1 m = some (r, m9) → qw_P L (qw_u1 M k m) h H → va_S (qw_A L) s.heap H locs → lv_has ls 2 [(0, .ref (qw_ad L k 0)), (1, .int x1)] → W p l e rm_X0_removeFrame s mi args below meth co H locs 0 0 Q (F0 mi 25 ls []) := by
  intro x1 m H locs ls hf hP hS hl
  unfold qf_X0_removeFrame_25 at hf
  refine lv_aload_n F.1 F.2.1 dX0_removeFrame_25 rfl (lv_at hl 0 rfl) ?_
  refine lv_iload_n F.1 F.2.1 dX0_removeFrame_26 rfl (lv_at hl 1 rfl) ?_
  obtain ⟨m2, k1, hf⟩ := qb1_x hf
  refine qr_cVv F G hP hS (qc_X0_confess l G.2.1 (qw_u1s _ _ _) (qw_fx rfl) hk k1) (qw_rcS hk) gX0_removeFrame_X0_confess rfl ⟨rfl, rfl⟩ e_X0_confess ⟨Nat.le_of_ble_eq_true rfl, Nat.le_of_ble_eq_true rfl⟩ rfl hl.1 rfl (Nat.le_of_ble_eq_true rfl) ⟨Nat.zero_le _, Nat.zero_le _⟩ dX0_removeFrame_27 (fun H locs hP hS => ?_)
  exact qb_X0_removeFrame_30 F G hk hQ _ _ _ _ _ hf hP hS (lv_sub hl [0, 1] rfl)
set_option maxRecDepth 100000 in
set_option maxHeartbeats 4000000 in
theorem qb_X0_removeFrame {p : Program} {l : Launch} {e : Env} {s : State} {mi : MethodId} {args : Array Value} {below : List Frame} {meth : Method} {co : Code} {Q : State → Prop} {L : wL} {M : wM} {k : Nat} {h : Nat → Nat} {r : Int32} {m9 : wm} (F : CallFix p mi co cX0_removeFrame 2 s args wsX0_removeFrame RX0) (G : qw_G L (qw_A L) s) (hk : qw_k L k) (hQ : qw_RI p l e rm_X0_removeFrame s mi args below meth co cX0_removeFrame .int Q L r (qw_u1 M k m9) h) : ∀ (m : wm) (H : Heap) (locs : List Loc) (ls : Array Slot), qf_X0_removeFrame m = some (r, m9) → qw_P L (qw_u1 M k m) h H → va_S (qw_A L) s.heap H locs → lv_has ls 2 [(0, .ref (qw_ad L k 0))] → W p l e rm_X0_removeFrame s mi args below meth co H locs 0 0 Q (F0 mi 0 ls []) := by
  intro m H locs ls hf hP hS hl
  unfold qf_X0_removeFrame at hf
  refine lv_aload_n F.1 F.2.1 dX0_removeFrame_0 rfl (lv_at hl 0 rfl) ?_
  refine lv_aload_n F.1 F.2.1 dX0_removeFrame_1 rfl (lv_at hl 0 rfl) ?_
  obtain ⟨z1, ez1, hf⟩ := qn_x hf
  refine qr_gS F G (fun w h => F.2.2.2.2 w (List.mem_cons_of_mem _ (List.mem_append_right _ h))) hP hk (qw_u1s _ _ _) 3 (by decide) (List.mem_of_getElem? (i := 1) rfl) ez1 dX0_removeFrame_2 ?_
  refine lv_iconst (v := (nI 1)) F.1 F.2.1 dX0_removeFrame_5 (by decide) ?_
  obtain ⟨z2, ez2, hf⟩ := qn_x hf
  refine qr_isub F ez2 dX0_removeFrame_6 ?_
  refine lv_aload_n F.1 F.2.1 dX0_removeFrame_7 rfl (lv_at hl 0 rfl) ?_
  obtain ⟨z3, ez3, hf⟩ := qn_x hf
  refine qr_gS F G (fun w h => F.2.2.2.2 w (List.mem_cons_of_mem _ (List.mem_append_right _ h))) hP hk (qw_u1s _ _ _) 2 (by decide) (List.mem_of_getElem? (i := 2) rfl) ez3 dX0_removeFrame_8 ?_
  obtain ⟨r4, k5, hf⟩ := qb1_x hf
  refine qr_cVi F G hP hS (qc_X0_outcomeOf l G.2.1 (qw_u1s _ _ _) hk k5) (qw_rcS hk) gX0_removeFrame_X0_outcomeOf rfl ⟨rfl, rfl⟩ e_X0_outcomeOf ⟨Nat.le_of_ble_eq_true rfl, Nat.le_of_ble_eq_true rfl⟩ rfl hl.1 rfl (Nat.le_of_ble_eq_true rfl) ⟨Nat.zero_le _, Nat.zero_le _⟩ dX0_removeFrame_11 (fun H locs hP hS => ?_)
  refine lv_istore_n (lv' := [(1, .int r4), (0, .ref (qw_ad L k 0))]) F.1 F.2.1 dX0_removeFrame_14 rfl hl (by decide) rfl (fun ls hl => ?_)
  refine lv_iload_n F.1 F.2.1 dX0_removeFrame_15 rfl (lv_at hl 0 rfl) ?_
  refine lv_iconst (v := (nI 2)) F.1 F.2.1 dX0_removeFrame_16 (by decide) ?_
  refine lv_icmp_eq (tgt := 25) F.1 F.2.1 dX0_removeFrame_17 (by decide) (fun c6 => ?_) (fun c6 => ?_)
  · replace hf := qi_t c6 hf
    exact qb_X0_removeFrame_25 F G hk hQ _ _ _ _ _ hf hP hS (lv_sub hl [1, 0] rfl)
  · replace hf := qi_f c6 hf
    refine lv_iload_n F.1 F.2.1 dX0_removeFrame_20 rfl (lv_at hl 0 rfl) ?_
    refine lv_iconst (v := (nI 3)) F.1 F.2.1 dX0_removeFrame_21 (by decide) ?_
    refine lv_icmp_ne (tgt := 30) F.1 F.2.1 dX0_removeFrame_22 (by decide) (fun c7 => ?_) (fun c7 => ?_)
    · replace hf := qi_f c7 hf
      exact qb_X0_removeFrame_30 F G hk hQ _ _ _ _ _ hf hP hS (lv_sub hl [1, 0] rfl)
    · replace hf := qi_t c7 hf
      exact qb_X0_removeFrame_25 F G hk hQ _ _ _ _ _ hf hP hS (lv_sub hl [1, 0] rfl)
set_option maxRecDepth 100000 in
set_option maxHeartbeats 4000000 in
theorem qc_X0_removeFrame (l : Launch) {L : wL} (hJ : qw_J L) {k : Nat} {X X9 : wM} {h : Nat → Nat} {m m9 : wm} (hX : X k = m) (hX9 : qw_u1 X k m9 = X9) {r : Int32} (hk : qw_k L k) (hf : qf_X0_removeFrame m = some (r, m9)) : qw_MI l yX0_removeFrame wsX0_removeFrame rm_X0_removeFrame L (.ref (qw_ad L k 0) :: []) X h r X9 h := by
  subst hX
  subst hX9
  refine qw_MI_of (cc := cX0_removeFrame) (maxL := 2) (ty := .int) (by decide) rfl hJ (Nat.le_of_ble_eq_true rfl) ?_
  intro p e s mi below meth co Q ls F G hP hQ hl
  exact qb_X0_removeFrame F G hk hQ _ _ _ _ hf (by rw [qw_u1i]; exact hP) va_S.rf hl
def rm_X0_removeFrames : Room := { frames := 1, cells := 0, slots := 0, locals := 21 }
theorem e_X0_removeFrames : qw_hd yX0_removeFrames RX0 1 := by decide +kernel
set_option maxRecDepth 100000 in
set_option maxHeartbeats 4000000 in
theorem qb_X0_removeFrames_20 {p : Program} {l : Launch} {e : Env} {s : State} {mi : MethodId} {args : Array Value} {below : List Frame} {meth : Method} {co : Code} {Q : State → Prop} {L : wL} {M : wM} {k : Nat} {h : Nat → Nat} {r : Int32} {m9 : wm} (F : CallFix p mi co cX0_removeFrames 3 s args wsX0_removeFrames RX0) (G : qw_G L (qw_A L) s) (hk : qw_k L k) (hQ : qw_RI p l e rm_X0_removeFrames s mi args below meth co cX0_removeFrames .int Q L r (qw_u1 M k m9) h) : ∀ (n : Nat) (x1 : Int32) (x2 : Int32) (m : wm) (H : Heap) (locs : List Loc) (ls : Array Slot), qf_X0_removeFrames_20 n x1 x2 m = some (r, m9) → qw_P L (qw_u1 M k m) h H → va_S (qw_A L) s.heap H locs → lv_has ls 3 [(0, .ref (qw_ad L k 0)), (1, .int x1), (2, .int x2)] → W p l e rm_X0_removeFrames s mi args below meth co H locs 0 0 Q (F0 mi 20 ls []) := by
  intro n
  induction n with
  | zero =>
    intro x1 x2 m H locs ls hf hP hS hl
    rw [qf_X0_removeFrames_20] at hf
    cases hf
  | succ n ih =>
    intro x1 x2 m H locs ls hf hP hS hl
    rw [qf_X0_removeFrames_20] at hf
    refine lv_iload_n F.1 F.2.1 dX0_removeFrames_20 rfl (lv_at hl 2 rfl) ?_
    refine lv_iload_n F.1 F.2.1 dX0_removeFrames_21 rfl (lv_at hl 1 rfl) ?_
    refine lv_icmp_ge (tgt := 43) F.1 F.2.1 dX0_removeFrames_22 (by decide) (fun c1 => ?_) (fun c1 => ?_)
    · replace hf := qi_t c1 hf
      refine lv_aload_n F.1 F.2.1 dX0_removeFrames_43 rfl (lv_at hl 0 rfl) ?_
      obtain ⟨z2, ez2, hf⟩ := qn_x hf
      refine qr_gS F G (fun w h => F.2.2.2.2 w (List.mem_cons_of_mem _ (List.mem_append_right _ h))) hP hk (qw_u1s _ _ _) 3 (by decide) (List.mem_of_getElem? (i := 1) rfl) ez2 dX0_removeFrames_44 ?_
      obtain ⟨e9, e8⟩ := qs2 hf
      subst e9
      subst e8
      exact hQ _ _ _ _ hP hS rfl dX0_removeFrames_47
    · replace hf := qi_f c1 hf
      refine lv_aload_n F.1 F.2.1 dX0_removeFrames_25 rfl (lv_at hl 0 rfl) ?_
      refine lv_aload_n F.1 F.2.1 dX0_removeFrames_26 rfl (lv_at hl 0 rfl) ?_
      refine lv_aload_n F.1 F.2.1 dX0_removeFrames_27 rfl (lv_at hl 0 rfl) ?_
      obtain ⟨z3, ez3, hf⟩ := qn_x hf
      refine qr_gS F G (fun w h => F.2.2.2.2 w (List.mem_cons_of_mem _ (List.mem_append_right _ h))) hP hk (qw_u1s _ _ _) 2 (by decide) (List.mem_of_getElem? (i := 3) rfl) ez3 dX0_removeFrames_28 ?_
      obtain ⟨r4, k5, hf⟩ := qb1_x hf
      refine qr_cVi F G hP hS (qc_X0_slotBefore l G.2.1 (qw_u1s _ _ _) hk k5) (qw_rcS hk) gX0_removeFrames_X0_slotBefore rfl ⟨rfl, rfl⟩ e_X0_slotBefore ⟨Nat.le_of_ble_eq_true rfl, Nat.le_of_ble_eq_true rfl⟩ rfl hl.1 rfl (Nat.le_of_ble_eq_true rfl) ⟨Nat.zero_le _, Nat.zero_le _⟩ dX0_removeFrames_31 (fun H locs hP hS => ?_)
      obtain ⟨m6, em6, hf⟩ := qn_x hf
      refine qr_pS F G (fun w h => F.2.2.2.2 w (List.mem_cons_of_mem _ (List.mem_append_right _ h))) hP hS hk (qw_u1s _ _ _) 2 (by decide) (List.mem_of_getElem? (i := 3) rfl) (qw_fx em6) dX0_removeFrames_34 (fun H locs hP hS => ?_)
      obtain ⟨z7, ez7, hf⟩ := qn_x hf
      refine lv_iinc (v := z7) (lv' := [(2, .int z7), (0, .ref (qw_ad L k 0)), (1, .int x1)]) F.1 F.2.1 dX0_removeFrames_37 hl (k := 2) rfl ((qw_ii1 _).trans ez7.symm) (by decide) rfl (fun ls hl => ?_)
      refine lv_goto (tgt := 20) F.1 F.2.1 dX0_removeFrames_40 (by decide) ?_
      exact ih _ _ _ _ _ _ hf hP hS (lv_sub hl [1, 2, 0] rfl)
set_option maxRecDepth 100000 in
set_option maxHeartbeats 4000000 in
theorem qb_X0_removeFrames {p : Program} {l : Launch} {e : Env} {s : State} {mi : MethodId} {args : Array Value} {below : List Frame} {meth : Method} {co : Code} {Q : State → Prop} {L : wL} {M : wM} {k : Nat} {h : Nat → Nat} {r : Int32} {m9 : wm} (F : CallFix p mi co cX0_removeFrames 3 s args wsX0_removeFrames RX0) (G : qw_G L (qw_A L) s) (hk : qw_k L k) (hQ : qw_RI p l e rm_X0_removeFrames s mi args below meth co cX0_removeFrames .int Q L r (qw_u1 M k m9) h) : ∀ (x1 : Int32) (m : wm) (H : Heap) (locs : List Loc) (ls : Array Slot), qf_X0_removeFrames x1 m = some (r, m9) → qw_P L (qw_u1 M k m) h H → va_S (qw_A L) s.heap H locs → lv_has ls 3 [(0, .ref (qw_ad L k 0)), (1, .int x1)] → W p l e rm_X0_removeFrames s mi args below meth co H locs 0 0 Q (F0 mi 0 ls []) := by
  intro x1 m H locs ls hf hP hS hl
  unfold qf_X0_removeFrames at hf
  refine lv_aload_n F.1 F.2.1 dX0_removeFrames_0 rfl (lv_at hl 0 rfl) ?_
  refine lv_dup F.1 F.2.1 dX0_removeFrames_1 rfl ?_
  obtain ⟨z1, ez1, hf⟩ := qn_x hf
  refine qr_gS F G (fun w h => F.2.2.2.2 w (List.mem_cons_of_mem _ (List.mem_append_right _ h))) hP hk (qw_u1s _ _ _) 3 (by decide) (List.mem_of_getElem? (i := 1) rfl) ez1 dX0_removeFrames_2 ?_
  refine lv_iload_n F.1 F.2.1 dX0_removeFrames_5 rfl (lv_at hl 1 rfl) ?_
  obtain ⟨z2, ez2, hf⟩ := qn_x hf
  refine qr_isub F ez2 dX0_removeFrames_6 ?_
  obtain ⟨m3, em3, hf⟩ := qn_x hf
  refine qr_pS F G (fun w h => F.2.2.2.2 w (List.mem_cons_of_mem _ (List.mem_append_right _ h))) hP hS hk (qw_u1s _ _ _) 3 (by decide) (List.mem_of_getElem? (i := 1) rfl) (qw_fx em3) dX0_removeFrames_7 (fun H locs hP hS => ?_)
  refine lv_aload_n F.1 F.2.1 dX0_removeFrames_10 rfl (lv_at hl 0 rfl) ?_
  obtain ⟨z4, ez4, hf⟩ := qn_x hf
  refine qr_gS F G (fun w h => F.2.2.2.2 w (List.mem_cons_of_mem _ (List.mem_append_right _ h))) hP hk (qw_u1s _ _ _) 0 (by decide) (List.mem_of_getElem? (i := 2) rfl) ez4 dX0_removeFrames_11 ?_
  refine lv_iconst (v := (nI 1)) F.1 F.2.1 dX0_removeFrames_14 (by decide) ?_
  refine lv_icmp_ne (tgt := 43) F.1 F.2.1 dX0_removeFrames_15 (by decide) (fun c5 => ?_) (fun c5 => ?_)
  · replace hf := qi_f c5 hf
    refine lv_aload_n F.1 F.2.1 dX0_removeFrames_43 rfl (lv_at hl 0 rfl) ?_
    obtain ⟨z6, ez6, hf⟩ := qn_x hf
    refine qr_gS F G (fun w h => F.2.2.2.2 w (List.mem_cons_of_mem _ (List.mem_append_right _ h))) hP hk (qw_u1s _ _ _) 3 (by decide) (List.mem_of_getElem? (i := 1) rfl) ez6 dX0_removeFrames_44 ?_
    obtain ⟨e9, e8⟩ := qs2 hf
    subst e9
    subst e8
    exact hQ _ _ _ _ hP hS rfl dX0_removeFrames_47
  · replace hf := qi_t c5 hf
    refine lv_iconst (v := (nI 0)) F.1 F.2.1 dX0_removeFrames_18 (by decide) ?_
    refine lv_istore_n (lv' := [(2, .int (nI 0)), (0, .ref (qw_ad L k 0)), (1, .int x1)]) F.1 F.2.1 dX0_removeFrames_19 rfl hl (by decide) rfl (fun ls hl => ?_)
    exact qb_X0_removeFrames_20 F G hk hQ _ _ _ _ _ _ _ hf hP hS (lv_sub hl [1, 2, 0] rfl)
set_option maxRecDepth 100000 in
set_option maxHeartbeats 4000000 in
theorem qc_X0_removeFrames (l : Launch) {L : wL} (hJ : qw_J L) {k : Nat} {X X9 : wM} {h : Nat → Nat} {m m9 : wm} (hX : X k = m) (hX9 : qw_u1 X k m9 = X9) {x1 : Int32} {r : Int32} (hk : qw_k L k) (hf : qf_X0_removeFrames x1 m = some (r, m9)) : qw_MI l yX0_removeFrames wsX0_removeFrames rm_X0_removeFrames L (.ref (qw_ad L k 0) :: [.int x1]) X h r X9 h := by
  subst hX
  subst hX9
  refine qw_MI_of (cc := cX0_removeFrames) (maxL := 3) (ty := .int) (by decide) rfl hJ (Nat.le_of_ble_eq_true rfl) ?_
  intro p e s mi below meth co Q ls F G hP hQ hl
  exact qb_X0_removeFrames F G hk hQ _ _ _ _ _ hf (by rw [qw_u1i]; exact hP) va_S.rf hl
def rm_X0_remember : Room := { frames := 0, cells := 0, slots := 0, locals := 0 }
theorem e_X0_remember : qw_hd yX0_remember RX0 3 := by decide +kernel
set_option maxRecDepth 100000 in
set_option maxHeartbeats 4000000 in
theorem qb_X0_remember {p : Program} {l : Launch} {e : Env} {s : State} {mi : MethodId} {args : Array Value} {below : List Frame} {meth : Method} {co : Code} {Q : State → Prop} {L : wL} {M : wM} {k : Nat} {h : Nat → Nat} {m9 : wm} (F : CallFix p mi co cX0_remember 4 s args wsX0_remember RX0) (G : qw_G L (qw_A L) s) (hk : qw_k L k) (hQ : qw_RV p l e rm_X0_remember s mi args below meth co cX0_remember Q L (qw_u1 M k m9) h) : ∀ (x1 : Int32) (x2 : Int32) (x3 : Int32) (m : wm) (H : Heap) (locs : List Loc) (ls : Array Slot), qf_X0_remember x1 x2 x3 m = some m9 → qw_P L (qw_u1 M k m) h H → va_S (qw_A L) s.heap H locs → lv_has ls 4 [(0, .ref (qw_ad L k 0)), (1, .int x1), (2, .int x2), (3, .int x3)] → W p l e rm_X0_remember s mi args below meth co H locs 0 0 Q (F0 mi 0 ls []) := by
  intro x1 x2 x3 m H locs ls hf hP hS hl
  unfold qf_X0_remember at hf
  refine lv_aload_n F.1 F.2.1 dX0_remember_0 rfl (lv_at hl 0 rfl) ?_
  refine qr_gSr F G (fun w h => F.2.2.2.2 w (List.mem_cons_of_mem _ (List.mem_append_right _ h))) hP hk 6 (by decide) (List.mem_of_getElem? (i := 1) rfl) dX0_remember_1 ?_
  refine lv_iconst (v := (nI 0)) F.1 F.2.1 dX0_remember_4 (by decide) ?_
  refine qr_row (c := 16) F G hP hk (by decide) (by decide) rfl rfl (by unfold vp_in; decide) (by decide) dX0_remember_5 ?_
  refine lv_aload_n F.1 F.2.1 dX0_remember_6 rfl (lv_at hl 0 rfl) ?_
  obtain ⟨z1, ez1, hf⟩ := qn_x hf
  refine qr_gS F G (fun w h => F.2.2.2.2 w (List.mem_cons_of_mem _ (List.mem_append_right _ h))) hP hk (qw_u1s _ _ _) 5 (by decide) (List.mem_of_getElem? (i := 2) rfl) ez1 dX0_remember_7 ?_
  refine lv_iload_n F.1 F.2.1 dX0_remember_10 rfl (lv_at hl 1 rfl) ?_
  obtain ⟨g2, hf⟩ := qg_x hf
  obtain ⟨m3, em3, hf⟩ := qn_x hf
  refine qr_ast F G hP hS (qw_u1s _ _ _) (qw_IS (c := 16) (n := 200) hk (by decide)) g2 rfl (qw_fx em3) dX0_remember_11 (fun H locs hP hS => ?_)
  refine lv_aload_n F.1 F.2.1 dX0_remember_12 rfl (lv_at hl 0 rfl) ?_
  refine qr_gSr F G (fun w h => F.2.2.2.2 w (List.mem_cons_of_mem _ (List.mem_append_right _ h))) hP hk 6 (by decide) (List.mem_of_getElem? (i := 1) rfl) dX0_remember_13 ?_
  refine lv_iconst (v := (nI 1)) F.1 F.2.1 dX0_remember_16 (by decide) ?_
  refine qr_row (c := 17) F G hP hk (by decide) (by decide) rfl rfl (by unfold vp_in; decide) (by decide) dX0_remember_17 ?_
  refine lv_aload_n F.1 F.2.1 dX0_remember_18 rfl (lv_at hl 0 rfl) ?_
  obtain ⟨z4, ez4, hf⟩ := qn_x hf
  refine qr_gS F G (fun w h => F.2.2.2.2 w (List.mem_cons_of_mem _ (List.mem_append_right _ h))) hP hk (qw_u1s _ _ _) 5 (by decide) (List.mem_of_getElem? (i := 2) rfl) ez4 dX0_remember_19 ?_
  refine lv_iload_n F.1 F.2.1 dX0_remember_22 rfl (lv_at hl 2 rfl) ?_
  obtain ⟨g5, hf⟩ := qg_x hf
  obtain ⟨m6, em6, hf⟩ := qn_x hf
  refine qr_ast F G hP hS (qw_u1s _ _ _) (qw_IS (c := 17) (n := 200) hk (by decide)) g5 rfl (qw_fx em6) dX0_remember_23 (fun H locs hP hS => ?_)
  refine lv_aload_n F.1 F.2.1 dX0_remember_24 rfl (lv_at hl 0 rfl) ?_
  refine qr_gSr F G (fun w h => F.2.2.2.2 w (List.mem_cons_of_mem _ (List.mem_append_right _ h))) hP hk 6 (by decide) (List.mem_of_getElem? (i := 1) rfl) dX0_remember_25 ?_
  refine lv_iconst (v := (nI 2)) F.1 F.2.1 dX0_remember_28 (by decide) ?_
  refine qr_row (c := 18) F G hP hk (by decide) (by decide) rfl rfl (by unfold vp_in; decide) (by decide) dX0_remember_29 ?_
  refine lv_aload_n F.1 F.2.1 dX0_remember_30 rfl (lv_at hl 0 rfl) ?_
  obtain ⟨z7, ez7, hf⟩ := qn_x hf
  refine qr_gS F G (fun w h => F.2.2.2.2 w (List.mem_cons_of_mem _ (List.mem_append_right _ h))) hP hk (qw_u1s _ _ _) 5 (by decide) (List.mem_of_getElem? (i := 2) rfl) ez7 dX0_remember_31 ?_
  refine lv_iload_n F.1 F.2.1 dX0_remember_34 rfl (lv_at hl 3 rfl) ?_
  obtain ⟨g8, hf⟩ := qg_x hf
  obtain ⟨m9, em9, hf⟩ := qn_x hf
  refine qr_ast F G hP hS (qw_u1s _ _ _) (qw_IS (c := 18) (n := 200) hk (by decide)) g8 rfl (qw_fx em9) dX0_remember_35 (fun H locs hP hS => ?_)
  refine lv_aload_n F.1 F.2.1 dX0_remember_36 rfl (lv_at hl 0 rfl) ?_
  refine lv_dup F.1 F.2.1 dX0_remember_37 rfl ?_
  obtain ⟨z10, ez10, hf⟩ := qn_x hf
  refine qr_gS F G (fun w h => F.2.2.2.2 w (List.mem_cons_of_mem _ (List.mem_append_right _ h))) hP hk (qw_u1s _ _ _) 5 (by decide) (List.mem_of_getElem? (i := 2) rfl) ez10 dX0_remember_38 ?_
  refine lv_iconst (v := (nI 1)) F.1 F.2.1 dX0_remember_41 (by decide) ?_
  obtain ⟨z11, ez11, hf⟩ := qn_x hf
  refine qr_iadd F ez11 dX0_remember_42 ?_
  obtain ⟨m12, em12, hf⟩ := qn_x hf
  refine qr_pS F G (fun w h => F.2.2.2.2 w (List.mem_cons_of_mem _ (List.mem_append_right _ h))) hP hS hk (qw_u1s _ _ _) 5 (by decide) (List.mem_of_getElem? (i := 2) rfl) (qw_fx em12) dX0_remember_43 (fun H locs hP hS => ?_)
  refine lv_aload_n F.1 F.2.1 dX0_remember_46 rfl (lv_at hl 0 rfl) ?_
  refine qr_gSr F G (fun w h => F.2.2.2.2 w (List.mem_cons_of_mem _ (List.mem_append_right _ h))) hP hk 1 (by decide) (List.mem_of_getElem? (i := 3) rfl) dX0_remember_47 ?_
  refine lv_iload_n F.1 F.2.1 dX0_remember_50 rfl (lv_at hl 1 rfl) ?_
  refine lv_dup2_11 F.1 F.2.1 dX0_remember_51 rfl rfl ?_
  obtain ⟨g14, hf⟩ := qg_x hf
  obtain ⟨z13, ez13, hf⟩ := qn_x hf
  refine qr_ald F G hP (qw_u1s _ _ _) (qw_IS (c := 1) (n := 4) hk (by decide)) g14 rfl ez13 dX0_remember_52 ?_
  refine lv_iconst (v := (nI 1)) F.1 F.2.1 dX0_remember_53 (by decide) ?_
  obtain ⟨z15, ez15, hf⟩ := qn_x hf
  refine qr_iadd F ez15 dX0_remember_54 ?_
  obtain ⟨g16, hf⟩ := qg_x hf
  obtain ⟨m17, em17, hf⟩ := qn_x hf
  refine qr_ast F G hP hS (qw_u1s _ _ _) (qw_IS (c := 1) (n := 4) hk (by decide)) g16 rfl (qw_fx em17) dX0_remember_55 (fun H locs hP hS => ?_)
  have e8 := qs1 hf
  subst e8
  exact hQ _ _ _ _ hP hS dX0_remember_56
set_option maxRecDepth 100000 in
set_option maxHeartbeats 4000000 in
theorem qc_X0_remember (l : Launch) {L : wL} (hJ : qw_J L) {k : Nat} {X X9 : wM} {h : Nat → Nat} {m m9 : wm} (hX : X k = m) (hX9 : qw_u1 X k m9 = X9) {x1 : Int32} {x2 : Int32} {x3 : Int32} (hk : qw_k L k) (hf : qf_X0_remember x1 x2 x3 m = some m9) : qw_MV l yX0_remember wsX0_remember rm_X0_remember L (.ref (qw_ad L k 0) :: [.int x1, .int x2, .int x3]) X h X9 h := by
  subst hX
  subst hX9
  refine qw_MV_of (cc := cX0_remember) (maxL := 4) (by decide) rfl hJ (Nat.le_of_ble_eq_true rfl) ?_
  intro p e s mi below meth co Q ls F G hP hQ hl
  exact qb_X0_remember F G hk hQ _ _ _ _ _ _ _ hf (by rw [qw_u1i]; exact hP) va_S.rf hl
def rm_X0_take : Room := { frames := 3, cells := 0, slots := 0, locals := 86 }
theorem e_X0_take : qw_hd yX0_take RX0 3 := by decide +kernel
set_option maxRecDepth 100000 in
set_option maxHeartbeats 4000000 in
theorem qb_X0_take_81 {p : Program} {l : Launch} {e : Env} {s : State} {mi : MethodId} {args : Array Value} {below : List Frame} {meth : Method} {co : Code} {Q : State → Prop} {L : wL} {M : wM} {k : Nat} {h : Nat → Nat} {r : Int32} {m9 : wm} (F : CallFix p mi co cX0_take 6 s args wsX0_take RX0) (G : qw_G L (qw_A L) s) (hk : qw_k L k) (hQ : qw_RI p l e rm_X0_take s mi args below meth co cX0_take .int Q L r (qw_u1 M k m9) h) : ∀ (x1 : Int32) (x2 : Int32) (x3 : Int32) (x5 : Int32) (m : wm) (H : Heap) (locs : List Loc) (ls : Array Slot), qf_X0_take_81 x1 x2 x3 x5 m = some (r, m9) → qw_P L (qw_u1 M k m) h H → va_S (qw_A L) s.heap H locs → lv_has ls 6 [(0, .ref (qw_ad L k 0)), (1, .int x1), (2, .int x2), (3, .int x3), (5, .int x5)] → W p l e rm_X0_take s mi args below meth co H locs 0 0 Q (F0 mi 81 ls []) := by
  intro x1 x2 x3 x5 m H locs ls hf hP hS hl
  unfold qf_X0_take_81 at hf
  refine lv_aload_n F.1 F.2.1 dX0_take_81 rfl (lv_at hl 0 rfl) ?_
  refine lv_iload_n F.1 F.2.1 dX0_take_82 rfl (lv_at hl 1 rfl) ?_
  refine lv_iload_n F.1 F.2.1 dX0_take_83 rfl (lv_at hl 2 rfl) ?_
  refine lv_iload_n F.1 F.2.1 dX0_take_84 rfl (lv_at hl 3 rfl) ?_
  obtain ⟨m2, k1, hf⟩ := qb1_x hf
  refine qr_cVv F G hP hS (qc_X0_remember l G.2.1 (qw_u1s _ _ _) (qw_fx rfl) hk k1) (qw_rcS hk) gX0_take_X0_remember rfl ⟨rfl, rfl⟩ e_X0_remember ⟨Nat.le_of_ble_eq_true rfl, Nat.le_of_ble_eq_true rfl⟩ rfl hl.1 rfl (Nat.le_of_ble_eq_true rfl) ⟨Nat.zero_le _, Nat.zero_le _⟩ dX0_take_85 (fun H locs hP hS => ?_)
  refine lv_iload F.1 F.2.1 dX0_take_88 (lv_at hl 4 rfl) ?_
  obtain ⟨e9, e8⟩ := qs2 hf
  subst e9
  subst e8
  exact hQ _ _ _ _ hP hS rfl dX0_take_90
set_option maxRecDepth 100000 in
set_option maxHeartbeats 4000000 in
theorem qb_X0_take {p : Program} {l : Launch} {e : Env} {s : State} {mi : MethodId} {args : Array Value} {below : List Frame} {meth : Method} {co : Code} {Q : State → Prop} {L : wL} {M : wM} {k : Nat} {h : Nat → Nat} {r : Int32} {m9 : wm} (F : CallFix p mi co cX0_take 6 s args wsX0_take RX0) (G : qw_G L (qw_A L) s) (hk : qw_k L k) (hQ : qw_RI p l e rm_X0_take s mi args below meth co cX0_take .int Q L r (qw_u1 M k m9) h) : ∀ (x1 : Int32) (x2 : Int32) (x3 : Int32) (m : wm) (H : Heap) (locs : List Loc) (ls : Array Slot), qf_X0_take x1 x2 x3 m = some (r, m9) → qw_P L (qw_u1 M k m) h H → va_S (qw_A L) s.heap H locs → lv_has ls 6 [(0, .ref (qw_ad L k 0)), (1, .int x1), (2, .int x2), (3, .int x3)] → W p l e rm_X0_take s mi args below meth co H locs 0 0 Q (F0 mi 0 ls []) := by
  intro x1 x2 x3 m H locs ls hf hP hS hl
  unfold qf_X0_take at hf
  refine lv_aload_n F.1 F.2.1 dX0_take_0 rfl (lv_at hl 0 rfl) ?_
  refine lv_iload_n F.1 F.2.1 dX0_take_1 rfl (lv_at hl 1 rfl) ?_
  refine lv_iload_n F.1 F.2.1 dX0_take_2 rfl (lv_at hl 2 rfl) ?_
  refine lv_iload_n F.1 F.2.1 dX0_take_3 rfl (lv_at hl 3 rfl) ?_
  obtain ⟨r1, k2, hf⟩ := qb1_x hf
  refine qr_cVi F G hP hS (qc_X0_errorOf l G.2.1 (qw_u1s _ _ _) hk k2) (qw_rcS hk) gX0_take_X0_errorOf rfl ⟨rfl, rfl⟩ e_X0_errorOf ⟨Nat.le_of_ble_eq_true rfl, Nat.le_of_ble_eq_true rfl⟩ rfl hl.1 rfl (Nat.le_of_ble_eq_true rfl) ⟨Nat.zero_le _, Nat.zero_le _⟩ dX0_take_4 (fun H locs hP hS => ?_)
  refine lv_istore (lv' := [(4, .int r1), (0, .ref (qw_ad L k 0)), (1, .int x1), (2, .int x2), (3, .int x3)]) F.1 F.2.1 dX0_take_7 hl (by decide) rfl (fun ls hl => ?_)
  refine lv_iload F.1 F.2.1 dX0_take_9 (lv_at hl 0 rfl) ?_
  refine lv_if_eq (tgt := 17) F.1 F.2.1 dX0_take_11 (by decide) (fun c3 => ?_) (fun c3 => ?_)
  · replace hf := qi_t c3 hf
    refine lv_iload_n F.1 F.2.1 dX0_take_17 rfl (lv_at hl 2 rfl) ?_
    by_cases c4 : x1 = (nI 0)
    · replace hf := qi_t c4 hf
      rw [c4]
      refine lv_tableIn (tgt := 44) F.1 F.2.1 dX0_take_18 (x := (nI 0)) (by decide) (by decide) rfl (by decide) ?_
      refine lv_aload_n F.1 F.2.1 dX0_take_44 rfl (lv_at hl 1 rfl) ?_
      refine lv_iload_n F.1 F.2.1 dX0_take_45 rfl (lv_at hl 3 rfl) ?_
      refine lv_iload_n F.1 F.2.1 dX0_take_46 rfl (lv_at hl 4 rfl) ?_
      obtain ⟨r5, m7, k6, hf⟩ := qb2_x hf
      refine qr_cVi F G hP hS (qc_X0_addFrame l G.2.1 (qw_u1s _ _ _) (qw_fx rfl) hk k6) (qw_rcS hk) gX0_take_X0_addFrame rfl ⟨rfl, rfl⟩ e_X0_addFrame ⟨Nat.le_of_ble_eq_true rfl, Nat.le_of_ble_eq_true rfl⟩ rfl hl.1 rfl (Nat.le_of_ble_eq_true rfl) ⟨Nat.zero_le _, Nat.zero_le _⟩ dX0_take_47 (fun H locs hP hS => ?_)
      refine lv_istore (lv' := [(5, .int r5), (4, .int r1), (0, .ref (qw_ad L k 0)), (1, .int x1), (2, .int x2), (3, .int x3)]) F.1 F.2.1 dX0_take_50 hl (by decide) rfl (fun ls hl => ?_)
      refine lv_goto (tgt := 81) F.1 F.2.1 dX0_take_52 (by decide) ?_
      exact qb_X0_take_81 F G hk hQ _ _ _ _ _ _ _ _ hf hP hS (lv_sub hl [2, 3, 4, 5, 0] rfl)
    replace hf := qi_f c4 hf
    by_cases c8 : x1 = (nI 1)
    · replace hf := qi_t c8 hf
      rw [c8]
      refine lv_tableIn (tgt := 55) F.1 F.2.1 dX0_take_18 (x := (nI 1)) (by decide) (by decide) rfl (by decide) ?_
      refine lv_aload_n F.1 F.2.1 dX0_take_55 rfl (lv_at hl 1 rfl) ?_
      refine lv_iload_n F.1 F.2.1 dX0_take_56 rfl (lv_at hl 3 rfl) ?_
      obtain ⟨r9, m11, k10, hf⟩ := qb2_x hf
      refine qr_cVi F G hP hS (qc_X0_replaceFunction l G.2.1 (qw_u1s _ _ _) (qw_fx rfl) hk k10) (qw_rcS hk) gX0_take_X0_replaceFunction rfl ⟨rfl, rfl⟩ e_X0_replaceFunction ⟨Nat.le_of_ble_eq_true rfl, Nat.le_of_ble_eq_true rfl⟩ rfl hl.1 rfl (Nat.le_of_ble_eq_true rfl) ⟨Nat.zero_le _, Nat.zero_le _⟩ dX0_take_57 (fun H locs hP hS => ?_)
      refine lv_istore (lv' := [(5, .int r9), (4, .int r1), (0, .ref (qw_ad L k 0)), (1, .int x1), (2, .int x2), (3, .int x3)]) F.1 F.2.1 dX0_take_60 hl (by decide) rfl (fun ls hl => ?_)
      refine lv_goto (tgt := 81) F.1 F.2.1 dX0_take_62 (by decide) ?_
      exact qb_X0_take_81 F G hk hQ _ _ _ _ _ _ _ _ hf hP hS (lv_sub hl [2, 3, 4, 5, 0] rfl)
    replace hf := qi_f c8 hf
    by_cases c12 : x1 = (nI 2)
    · replace hf := qi_t c12 hf
      rw [c12]
      refine lv_tableIn (tgt := 65) F.1 F.2.1 dX0_take_18 (x := (nI 2)) (by decide) (by decide) rfl (by decide) ?_
      refine lv_aload_n F.1 F.2.1 dX0_take_65 rfl (lv_at hl 1 rfl) ?_
      obtain ⟨r13, m15, k14, hf⟩ := qb2_x hf
      refine qr_cVi F G hP hS (qc_X0_removeFrame l G.2.1 (qw_u1s _ _ _) (qw_fx rfl) hk k14) (qw_rcS hk) gX0_take_X0_removeFrame rfl ⟨rfl, rfl⟩ e_X0_removeFrame ⟨Nat.le_of_ble_eq_true rfl, Nat.le_of_ble_eq_true rfl⟩ rfl hl.1 rfl (Nat.le_of_ble_eq_true rfl) ⟨Nat.zero_le _, Nat.zero_le _⟩ dX0_take_66 (fun H locs hP hS => ?_)
      refine lv_istore (lv' := [(5, .int r13), (4, .int r1), (0, .ref (qw_ad L k 0)), (1, .int x1), (2, .int x2), (3, .int x3)]) F.1 F.2.1 dX0_take_69 hl (by decide) rfl (fun ls hl => ?_)
      refine lv_goto (tgt := 81) F.1 F.2.1 dX0_take_71 (by decide) ?_
      exact qb_X0_take_81 F G hk hQ _ _ _ _ _ _ _ _ hf hP hS (lv_sub hl [2, 3, 4, 5, 0] rfl)
    replace hf := qi_f c12 hf
    refine qr_swD (n := 2) (tgt := 74) F dX0_take_18 rfl (by decide) (fun j hj => ?_) (by decide) ?_
    · rcases (show j = 0 ∨ j = 1 ∨ j = 2 by omega) with rfl | rfl | rfl
      · exact c4
      · exact c8
      · exact c12
    · refine lv_aload_n F.1 F.2.1 dX0_take_74 rfl (lv_at hl 1 rfl) ?_
      refine lv_iload_n F.1 F.2.1 dX0_take_75 rfl (lv_at hl 4 rfl) ?_
      obtain ⟨r16, m18, k17, hf⟩ := qb2_x hf
      refine qr_cVi F G hP hS (qc_X0_removeFrames l G.2.1 (qw_u1s _ _ _) (qw_fx rfl) hk k17) (qw_rcS hk) gX0_take_X0_removeFrames rfl ⟨rfl, rfl⟩ e_X0_removeFrames ⟨Nat.le_of_ble_eq_true rfl, Nat.le_of_ble_eq_true rfl⟩ rfl hl.1 rfl (Nat.le_of_ble_eq_true rfl) ⟨Nat.zero_le _, Nat.zero_le _⟩ dX0_take_76 (fun H locs hP hS => ?_)
      refine lv_istore (lv' := [(5, .int r16), (4, .int r1), (0, .ref (qw_ad L k 0)), (1, .int x1), (2, .int x2), (3, .int x3)]) F.1 F.2.1 dX0_take_79 hl (by decide) rfl (fun ls hl => ?_)
      exact qb_X0_take_81 F G hk hQ _ _ _ _ _ _ _ _ hf hP hS (lv_sub hl [2, 3, 4, 5, 0] rfl)
  · replace hf := qi_f c3 hf
    refine lv_iload F.1 F.2.1 dX0_take_14 (lv_at hl 0 rfl) ?_
    obtain ⟨e9, e8⟩ := qs2 hf
    subst e9
    subst e8
    exact hQ _ _ _ _ hP hS rfl dX0_take_16
set_option maxRecDepth 100000 in
set_option maxHeartbeats 4000000 in
theorem qc_X0_take (l : Launch) {L : wL} (hJ : qw_J L) {k : Nat} {X X9 : wM} {h : Nat → Nat} {m m9 : wm} (hX : X k = m) (hX9 : qw_u1 X k m9 = X9) {x1 : Int32} {x2 : Int32} {x3 : Int32} {r : Int32} (hk : qw_k L k) (hf : qf_X0_take x1 x2 x3 m = some (r, m9)) : qw_MI l yX0_take wsX0_take rm_X0_take L (.ref (qw_ad L k 0) :: [.int x1, .int x2, .int x3]) X h r X9 h := by
  subst hX
  subst hX9
  refine qw_MI_of (cc := cX0_take) (maxL := 6) (ty := .int) (by decide) rfl hJ (Nat.le_of_ble_eq_true rfl) ?_
  intro p e s mi below meth co Q ls F G hP hQ hl
  exact qb_X0_take F G hk hQ _ _ _ _ _ _ _ hf (by rw [qw_u1i]; exact hP) va_S.rf hl
def rm_X0_overrunFrames : Room := { frames := 1, cells := 0, slots := 0, locals := 21 }
theorem e_X0_overrunFrames : qw_hd yX0_overrunFrames RX0 0 := by decide +kernel
set_option maxRecDepth 100000 in
set_option maxHeartbeats 4000000 in
theorem qb_X0_overrunFrames_4 {p : Program} {l : Launch} {e : Env} {s : State} {mi : MethodId} {args : Array Value} {below : List Frame} {meth : Method} {co : Code} {Q : State → Prop} {L : wL} {M : wM} {k : Nat} {h : Nat → Nat} {r : Int32} {m : wm} (F : CallFix p mi co cX0_overrunFrames 3 s args wsX0_overrunFrames RX0) (G : qw_G L (qw_A L) s) (hk : qw_k L k) (hQ : qw_RI p l e rm_X0_overrunFrames s mi args below meth co cX0_overrunFrames .int Q L r (qw_u1 M k m) h) : ∀ (n : Nat) (x1 : Int32) (x2 : Int32) (H : Heap) (locs : List Loc) (ls : Array Slot), qf_X0_overrunFrames_4 n x1 x2 m = some r → qw_P L (qw_u1 M k m) h H → va_S (qw_A L) s.heap H locs → lv_has ls 3 [(0, .ref (qw_ad L k 0)), (1, .int x1), (2, .int x2)] → W p l e rm_X0_overrunFrames s mi args below meth co H locs 0 0 Q (F0 mi 4 ls []) := by
  intro n
  induction n with
  | zero =>
    intro x1 x2 H locs ls hf hP hS hl
    rw [qf_X0_overrunFrames_4] at hf
    cases hf
  | succ n ih =>
    intro x1 x2 H locs ls hf hP hS hl
    rw [qf_X0_overrunFrames_4] at hf
    refine lv_iload_n F.1 F.2.1 dX0_overrunFrames_4 rfl (lv_at hl 2 rfl) ?_
    refine lv_aload_n F.1 F.2.1 dX0_overrunFrames_5 rfl (lv_at hl 0 rfl) ?_
    obtain ⟨z1, ez1, hf⟩ := qn_x hf
    refine qr_gS F G (fun w h => F.2.2.2.2 w (List.mem_cons_of_mem _ (List.mem_append_right _ h))) hP hk (qw_u1s _ _ _) 3 (by decide) (List.mem_of_getElem? (i := 1) rfl) ez1 dX0_overrunFrames_6 ?_
    refine lv_icmp_ge (tgt := 29) F.1 F.2.1 dX0_overrunFrames_9 (by decide) (fun c2 => ?_) (fun c2 => ?_)
    · replace hf := qi_t c2 hf
      refine lv_iload_n F.1 F.2.1 dX0_overrunFrames_29 rfl (lv_at hl 1 rfl) ?_
      have e9 := qs1 hf
      subst e9
      exact hQ _ _ _ _ hP hS rfl dX0_overrunFrames_30
    · replace hf := qi_f c2 hf
      refine lv_aload_n F.1 F.2.1 dX0_overrunFrames_12 rfl (lv_at hl 0 rfl) ?_
      refine lv_iload_n F.1 F.2.1 dX0_overrunFrames_13 rfl (lv_at hl 2 rfl) ?_
      obtain ⟨r3, k4, hf⟩ := qb1_x hf
      refine qr_cVi F G hP hS (qc_X0_isOverrun l G.2.1 (qw_u1s _ _ _) hk k4) (qw_rcS hk) gX0_overrunFrames_X0_isOverrun rfl ⟨rfl, rfl⟩ e_X0_isOverrun ⟨Nat.le_of_ble_eq_true rfl, Nat.le_of_ble_eq_true rfl⟩ rfl hl.1 rfl (Nat.le_of_ble_eq_true rfl) ⟨Nat.zero_le _, Nat.zero_le _⟩ dX0_overrunFrames_14 (fun H locs hP hS => ?_)
      refine lv_if_eq (tgt := 23) F.1 F.2.1 dX0_overrunFrames_17 (by decide) (fun c5 => ?_) (fun c5 => ?_)
      · replace hf := qi_t c5 hf
        obtain ⟨z6, ez6, hf⟩ := qn_x hf
        refine lv_iinc (v := z6) (lv' := [(2, .int z6), (0, .ref (qw_ad L k 0)), (1, .int x1)]) F.1 F.2.1 dX0_overrunFrames_23 hl (k := 2) rfl ((qw_ii1 _).trans ez6.symm) (by decide) rfl (fun ls hl => ?_)
        refine lv_goto (tgt := 4) F.1 F.2.1 dX0_overrunFrames_26 (by decide) ?_
        exact ih _ _ _ _ _ hf hP hS (lv_sub hl [1, 2, 0] rfl)
      · replace hf := qi_f c5 hf
        obtain ⟨z7, ez7, hf⟩ := qn_x hf
        refine lv_iinc (v := z7) (lv' := [(1, .int z7), (0, .ref (qw_ad L k 0)), (2, .int x2)]) F.1 F.2.1 dX0_overrunFrames_20 hl (k := 1) rfl ((qw_ii1 _).trans ez7.symm) (by decide) rfl (fun ls hl => ?_)
        obtain ⟨z8, ez8, hf⟩ := qn_x hf
        refine lv_iinc (v := z8) (lv' := [(2, .int z8), (1, .int z7), (0, .ref (qw_ad L k 0))]) F.1 F.2.1 dX0_overrunFrames_23 hl (k := 2) rfl ((qw_ii1 _).trans ez8.symm) (by decide) rfl (fun ls hl => ?_)
        refine lv_goto (tgt := 4) F.1 F.2.1 dX0_overrunFrames_26 (by decide) ?_
        exact ih _ _ _ _ _ hf hP hS (lv_sub hl [2, 1, 0] rfl)
set_option maxRecDepth 100000 in
set_option maxHeartbeats 4000000 in
theorem qb_X0_overrunFrames {p : Program} {l : Launch} {e : Env} {s : State} {mi : MethodId} {args : Array Value} {below : List Frame} {meth : Method} {co : Code} {Q : State → Prop} {L : wL} {M : wM} {k : Nat} {h : Nat → Nat} {r : Int32} {m : wm} (F : CallFix p mi co cX0_overrunFrames 3 s args wsX0_overrunFrames RX0) (G : qw_G L (qw_A L) s) (hk : qw_k L k) (hQ : qw_RI p l e rm_X0_overrunFrames s mi args below meth co cX0_overrunFrames .int Q L r (qw_u1 M k m) h) : ∀ (H : Heap) (locs : List Loc) (ls : Array Slot), qf_X0_overrunFrames m = some r → qw_P L (qw_u1 M k m) h H → va_S (qw_A L) s.heap H locs → lv_has ls 3 [(0, .ref (qw_ad L k 0))] → W p l e rm_X0_overrunFrames s mi args below meth co H locs 0 0 Q (F0 mi 0 ls []) := by
  intro  H locs ls hf hP hS hl
  unfold qf_X0_overrunFrames at hf
  refine lv_iconst (v := (nI 0)) F.1 F.2.1 dX0_overrunFrames_0 (by decide) ?_
  refine lv_istore_n (lv' := [(1, .int (nI 0)), (0, .ref (qw_ad L k 0))]) F.1 F.2.1 dX0_overrunFrames_1 rfl hl (by decide) rfl (fun ls hl => ?_)
  refine lv_iconst (v := (nI 0)) F.1 F.2.1 dX0_overrunFrames_2 (by decide) ?_
  refine lv_istore_n (lv' := [(2, .int (nI 0)), (1, .int (nI 0)), (0, .ref (qw_ad L k 0))]) F.1 F.2.1 dX0_overrunFrames_3 rfl hl (by decide) rfl (fun ls hl => ?_)
  exact qb_X0_overrunFrames_4 F G hk hQ _ _ _ _ _ _ hf hP hS (lv_sub hl [2, 1, 0] rfl)
set_option maxRecDepth 100000 in
set_option maxHeartbeats 4000000 in
theorem qc_X0_overrunFrames (l : Launch) {L : wL} (hJ : qw_J L) {k : Nat} {X : wM} {h : Nat → Nat} {m : wm} (hX : X k = m) {r : Int32} (hk : qw_k L k) (hf : qf_X0_overrunFrames m = some r) : qw_MI l yX0_overrunFrames wsX0_overrunFrames rm_X0_overrunFrames L (.ref (qw_ad L k 0) :: []) X h r X h := by
  subst hX
  refine qw_MI_of (cc := cX0_overrunFrames) (maxL := 3) (ty := .int) (by decide) rfl hJ (Nat.le_of_ble_eq_true rfl) ?_
  intro p e s mi below meth co Q ls F G hP hQ hl
  exact qb_X0_overrunFrames F G hk (by rw [qw_u1i]; exact hQ) _ _ _ hf (by rw [qw_u1i]; exact hP) va_S.rf hl
