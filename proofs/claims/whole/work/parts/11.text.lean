def rm_X1_add : Room := { frames := 0, cells := 0, slots := 0, locals := 0 }
theorem e_X1_add : qw_hd yX1_add RX1 1 := by decide +kernel
set_option maxRecDepth 100000 in
set_option maxHeartbeats 4000000 in
theorem qb_X1_add {p : Program} {l : Launch} {e : Env} {s : State} {mi : MethodId} {args : Array Value} {below : List Frame} {meth : Method} {co : Code} {Q : State → Prop} {L : wL} {M : wM} {h : Nat → Nat} {m9 : wm} (F : CallFix p mi co cX1_add 2 s args wsX1_add RX1) (G : qw_G L (qw_A L) s) (hv : qw_8 L) (hQ : qw_RV p l e rm_X1_add s mi args below meth co cX1_add Q L (qw_u1 M 8 m9) h) : ∀ (x1 : Int32) (m : wm) (H : Heap) (locs : List Loc) (ls : Array Slot), qf_X1_add x1 m = some m9 → qw_P L (qw_u1 M 8 m) h H → va_S (qw_A L) s.heap H locs → lv_has ls 2 [(0, .ref (qw_ad L 8 2)), (1, .int x1)] → W p l e rm_X1_add s mi args below meth co H locs 0 0 Q (F0 mi 0 ls []) := by
  intro x1 m H locs ls hf hP hS hl
  unfold qf_X1_add at hf
  refine lv_aload_n F.1 F.2.1 dX1_add_0 rfl (lv_at hl 0 rfl) ?_
  refine qr_gXr F G hv (fun w h => F.2.2.2.2 w (List.mem_cons_of_mem _ (List.mem_append_right _ h))) hP (List.mem_of_getElem? (i := 1) rfl) dX1_add_1 ?_
  refine lv_aload_n F.1 F.2.1 dX1_add_4 rfl (lv_at hl 0 rfl) ?_
  obtain ⟨z1, ez1, hf⟩ := qn_x hf
  refine qr_gX F G hv (fun w h => F.2.2.2.2 w (List.mem_cons_of_mem _ (List.mem_append_right _ h))) hP (qw_u1s _ _ _) 1 (by decide) (List.mem_of_getElem? (i := 2) rfl) ez1 dX1_add_5 ?_
  refine lv_iload_n F.1 F.2.1 dX1_add_8 rfl (lv_at hl 1 rfl) ?_
  obtain ⟨g2, hf⟩ := qg_x hf
  obtain ⟨m3, em3, hf⟩ := qn_x hf
  refine qr_ast F G hP hS (qw_u1s _ _ _) (qw_I8 hv) g2 rfl (qw_fx em3) dX1_add_9 (fun H locs hP hS => ?_)
  refine lv_aload_n F.1 F.2.1 dX1_add_10 rfl (lv_at hl 0 rfl) ?_
  refine lv_dup F.1 F.2.1 dX1_add_11 rfl ?_
  obtain ⟨z4, ez4, hf⟩ := qn_x hf
  refine qr_gX F G hv (fun w h => F.2.2.2.2 w (List.mem_cons_of_mem _ (List.mem_append_right _ h))) hP (qw_u1s _ _ _) 1 (by decide) (List.mem_of_getElem? (i := 2) rfl) ez4 dX1_add_12 ?_
  refine lv_iconst (v := (nI 1)) F.1 F.2.1 dX1_add_15 (by decide) ?_
  obtain ⟨z5, ez5, hf⟩ := qn_x hf
  refine qr_iadd F ez5 dX1_add_16 ?_
  obtain ⟨m6, em6, hf⟩ := qn_x hf
  refine qr_pX F G hv (fun w h => F.2.2.2.2 w (List.mem_cons_of_mem _ (List.mem_append_right _ h))) hP hS (qw_u1s _ _ _) 1 (by decide) (List.mem_of_getElem? (i := 2) rfl) (qw_fx em6) dX1_add_17 (fun H locs hP hS => ?_)
  have e8 := qs1 hf
  subst e8
  exact hQ _ _ _ _ hP hS dX1_add_20
set_option maxRecDepth 100000 in
set_option maxHeartbeats 4000000 in
theorem qc_X1_add (l : Launch) {L : wL} (hJ : qw_J L) {X X9 : wM} {h : Nat → Nat} {m m9 : wm} (hX : X 8 = m) (hX9 : qw_u1 X 8 m9 = X9) {x1 : Int32} (hv : qw_8 L) (hf : qf_X1_add x1 m = some m9) : qw_MV l yX1_add wsX1_add rm_X1_add L (.ref (qw_ad L 8 2) :: [.int x1]) X h X9 h := by
  subst hX
  subst hX9
  refine qw_MV_of (cc := cX1_add) (maxL := 2) (by decide) rfl hJ (Nat.le_of_ble_eq_true rfl) ?_
  intro p e s mi below meth co Q ls F G hP hQ hl
  exact qb_X1_add F G hv hQ _ _ _ _ _ hf (by rw [qw_u1i]; exact hP) va_S.rf hl
def rm_X1_isAtEnd : Room := { frames := 0, cells := 0, slots := 0, locals := 0 }
theorem e_X1_isAtEnd : qw_hd yX1_isAtEnd RX1 0 := by decide +kernel
set_option maxRecDepth 100000 in
set_option maxHeartbeats 4000000 in
theorem qb_X1_isAtEnd {p : Program} {l : Launch} {e : Env} {s : State} {mi : MethodId} {args : Array Value} {below : List Frame} {meth : Method} {co : Code} {Q : State → Prop} {L : wL} {M : wM} {h : Nat → Nat} {r : Int32} {m : wm} (F : CallFix p mi co cX1_isAtEnd 1 s args wsX1_isAtEnd RX1) (G : qw_G L (qw_A L) s) (hv : qw_8 L) (hQ : qw_RI p l e rm_X1_isAtEnd s mi args below meth co cX1_isAtEnd .boolean Q L r (qw_u1 M 8 m) h) : ∀ (H : Heap) (locs : List Loc) (ls : Array Slot), qf_X1_isAtEnd m = some r → qw_P L (qw_u1 M 8 m) h H → va_S (qw_A L) s.heap H locs → lv_has ls 1 [(0, .ref (qw_ad L 8 2))] → W p l e rm_X1_isAtEnd s mi args below meth co H locs 0 0 Q (F0 mi 0 ls []) := by
  intro  H locs ls hf hP hS hl
  unfold qf_X1_isAtEnd at hf
  refine lv_aload_n F.1 F.2.1 dX1_isAtEnd_0 rfl (lv_at hl 0 rfl) ?_
  obtain ⟨z1, ez1, hf⟩ := qn_x hf
  refine qr_gX F G hv (fun w h => F.2.2.2.2 w (List.mem_cons_of_mem _ (List.mem_append_right _ h))) hP (qw_u1s _ _ _) 2 (by decide) (List.mem_of_getElem? (i := 1) rfl) ez1 dX1_isAtEnd_1 ?_
  refine lv_aload_n F.1 F.2.1 dX1_isAtEnd_4 rfl (lv_at hl 0 rfl) ?_
  obtain ⟨z2, ez2, hf⟩ := qn_x hf
  refine qr_gX F G hv (fun w h => F.2.2.2.2 w (List.mem_cons_of_mem _ (List.mem_append_right _ h))) hP (qw_u1s _ _ _) 1 (by decide) (List.mem_of_getElem? (i := 2) rfl) ez2 dX1_isAtEnd_5 ?_
  refine lv_icmp_lt (tgt := 15) F.1 F.2.1 dX1_isAtEnd_8 (by decide) (fun c3 => ?_) (fun c3 => ?_)
  · replace hf := qi_t c3 hf
    refine lv_iconst (v := (nI 0)) F.1 F.2.1 dX1_isAtEnd_15 (by decide) ?_
    have e9 := qs1 hf
    subst e9
    exact hQ _ _ _ _ hP hS rfl dX1_isAtEnd_16
  · replace hf := qi_f c3 hf
    refine lv_iconst (v := (nI 1)) F.1 F.2.1 dX1_isAtEnd_11 (by decide) ?_
    refine lv_goto (tgt := 16) F.1 F.2.1 dX1_isAtEnd_12 (by decide) ?_
    have e9 := qs1 hf
    subst e9
    exact hQ _ _ _ _ hP hS rfl dX1_isAtEnd_16
set_option maxRecDepth 100000 in
set_option maxHeartbeats 4000000 in
theorem qc_X1_isAtEnd (l : Launch) {L : wL} (hJ : qw_J L) {X : wM} {h : Nat → Nat} {m : wm} (hX : X 8 = m) {r : Int32} (hv : qw_8 L) (hf : qf_X1_isAtEnd m = some r) : qw_MI l yX1_isAtEnd wsX1_isAtEnd rm_X1_isAtEnd L (.ref (qw_ad L 8 2) :: []) X h r X h := by
  subst hX
  refine qw_MI_of (cc := cX1_isAtEnd) (maxL := 1) (ty := .boolean) (by decide) rfl hJ (Nat.le_of_ble_eq_true rfl) ?_
  intro p e s mi below meth co Q ls F G hP hQ hl
  exact qb_X1_isAtEnd F G hv (by rw [qw_u1i]; exact hQ) _ _ _ hf (by rw [qw_u1i]; exact hP) va_S.rf hl
def rm_X1_sign : Room := { frames := 0, cells := 0, slots := 0, locals := 0 }
theorem e_X1_sign : qw_hd yX1_sign RX1 0 := by decide +kernel
set_option maxRecDepth 100000 in
set_option maxHeartbeats 4000000 in
theorem qb_X1_sign {p : Program} {l : Launch} {e : Env} {s : State} {mi : MethodId} {args : Array Value} {below : List Frame} {meth : Method} {co : Code} {Q : State → Prop} {L : wL} {M : wM} {h : Nat → Nat} {r : Int32} {m : wm} (F : CallFix p mi co cX1_sign 1 s args wsX1_sign RX1) (G : qw_G L (qw_A L) s) (hv : qw_8 L) (hQ : qw_RI p l e rm_X1_sign s mi args below meth co cX1_sign .int Q L r (qw_u1 M 8 m) h) : ∀ (H : Heap) (locs : List Loc) (ls : Array Slot), qf_X1_sign m = some r → qw_P L (qw_u1 M 8 m) h H → va_S (qw_A L) s.heap H locs → lv_has ls 1 [(0, .ref (qw_ad L 8 2))] → W p l e rm_X1_sign s mi args below meth co H locs 0 0 Q (F0 mi 0 ls []) := by
  intro  H locs ls hf hP hS hl
  unfold qf_X1_sign at hf
  refine lv_aload_n F.1 F.2.1 dX1_sign_0 rfl (lv_at hl 0 rfl) ?_
  obtain ⟨z1, ez1, hf⟩ := qn_x hf
  refine qr_gX F G hv (fun w h => F.2.2.2.2 w (List.mem_cons_of_mem _ (List.mem_append_right _ h))) hP (qw_u1s _ _ _) 2 (by decide) (List.mem_of_getElem? (i := 1) rfl) ez1 dX1_sign_1 ?_
  refine lv_aload_n F.1 F.2.1 dX1_sign_4 rfl (lv_at hl 0 rfl) ?_
  obtain ⟨z2, ez2, hf⟩ := qn_x hf
  refine qr_gX F G hv (fun w h => F.2.2.2.2 w (List.mem_cons_of_mem _ (List.mem_append_right _ h))) hP (qw_u1s _ _ _) 1 (by decide) (List.mem_of_getElem? (i := 2) rfl) ez2 dX1_sign_5 ?_
  refine lv_icmp_ge (tgt := 23) F.1 F.2.1 dX1_sign_8 (by decide) (fun c3 => ?_) (fun c3 => ?_)
  · replace hf := qi_t c3 hf
    refine lv_iconst (v := (nI 0)) F.1 F.2.1 dX1_sign_23 (by decide) ?_
    have e9 := qs1 hf
    subst e9
    exact hQ _ _ _ _ hP hS rfl dX1_sign_24
  · replace hf := qi_f c3 hf
    refine lv_aload_n F.1 F.2.1 dX1_sign_11 rfl (lv_at hl 0 rfl) ?_
    refine qr_gXr F G hv (fun w h => F.2.2.2.2 w (List.mem_cons_of_mem _ (List.mem_append_right _ h))) hP (List.mem_of_getElem? (i := 3) rfl) dX1_sign_12 ?_
    refine lv_aload_n F.1 F.2.1 dX1_sign_15 rfl (lv_at hl 0 rfl) ?_
    obtain ⟨z4, ez4, hf⟩ := qn_x hf
    refine qr_gX F G hv (fun w h => F.2.2.2.2 w (List.mem_cons_of_mem _ (List.mem_append_right _ h))) hP (qw_u1s _ _ _) 2 (by decide) (List.mem_of_getElem? (i := 1) rfl) ez4 dX1_sign_16 ?_
    obtain ⟨g6, hf⟩ := qg_x hf
    obtain ⟨z5, ez5, hf⟩ := qn_x hf
    refine qr_ald F G hP (qw_u1s _ _ _) (qw_I8 hv) g6 rfl ez5 dX1_sign_19 ?_
    refine lv_goto (tgt := 24) F.1 F.2.1 dX1_sign_20 (by decide) ?_
    have e9 := qs1 hf
    subst e9
    exact hQ _ _ _ _ hP hS rfl dX1_sign_24
set_option maxRecDepth 100000 in
set_option maxHeartbeats 4000000 in
theorem qc_X1_sign (l : Launch) {L : wL} (hJ : qw_J L) {X : wM} {h : Nat → Nat} {m : wm} (hX : X 8 = m) {r : Int32} (hv : qw_8 L) (hf : qf_X1_sign m = some r) : qw_MI l yX1_sign wsX1_sign rm_X1_sign L (.ref (qw_ad L 8 2) :: []) X h r X h := by
  subst hX
  refine qw_MI_of (cc := cX1_sign) (maxL := 1) (ty := .int) (by decide) rfl hJ (Nat.le_of_ble_eq_true rfl) ?_
  intro p e s mi below meth co Q ls F G hP hQ hl
  exact qb_X1_sign F G hv (by rw [qw_u1i]; exact hQ) _ _ _ hf (by rw [qw_u1i]; exact hP) va_S.rf hl
def rm_X1_skipSpaces : Room := { frames := 0, cells := 0, slots := 0, locals := 0 }
theorem e_X1_skipSpaces : qw_hd yX1_skipSpaces RX1 0 := by decide +kernel
set_option maxRecDepth 100000 in
set_option maxHeartbeats 4000000 in
theorem qb_X1_skipSpaces_0 {p : Program} {l : Launch} {e : Env} {s : State} {mi : MethodId} {args : Array Value} {below : List Frame} {meth : Method} {co : Code} {Q : State → Prop} {L : wL} {M : wM} {h : Nat → Nat} {m9 : wm} (F : CallFix p mi co cX1_skipSpaces 1 s args wsX1_skipSpaces RX1) (G : qw_G L (qw_A L) s) (hv : qw_8 L) (hQ : qw_RV p l e rm_X1_skipSpaces s mi args below meth co cX1_skipSpaces Q L (qw_u1 M 8 m9) h) : ∀ (n : Nat) (m : wm) (H : Heap) (locs : List Loc) (ls : Array Slot), qf_X1_skipSpaces_0 n m = some m9 → qw_P L (qw_u1 M 8 m) h H → va_S (qw_A L) s.heap H locs → lv_has ls 1 [(0, .ref (qw_ad L 8 2))] → W p l e rm_X1_skipSpaces s mi args below meth co H locs 0 0 Q (F0 mi 0 ls []) := by
  intro n
  induction n with
  | zero =>
    intro m H locs ls hf hP hS hl
    rw [qf_X1_skipSpaces_0] at hf
    cases hf
  | succ n ih =>
    intro m H locs ls hf hP hS hl
    rw [qf_X1_skipSpaces_0] at hf
    refine lv_aload_n F.1 F.2.1 dX1_skipSpaces_0 rfl (lv_at hl 0 rfl) ?_
    obtain ⟨z1, ez1, hf⟩ := qn_x hf
    refine qr_gX F G hv (fun w h => F.2.2.2.2 w (List.mem_cons_of_mem _ (List.mem_append_right _ h))) hP (qw_u1s _ _ _) 2 (by decide) (List.mem_of_getElem? (i := 1) rfl) ez1 dX1_skipSpaces_1 ?_
    refine lv_aload_n F.1 F.2.1 dX1_skipSpaces_4 rfl (lv_at hl 0 rfl) ?_
    obtain ⟨z2, ez2, hf⟩ := qn_x hf
    refine qr_gX F G hv (fun w h => F.2.2.2.2 w (List.mem_cons_of_mem _ (List.mem_append_right _ h))) hP (qw_u1s _ _ _) 1 (by decide) (List.mem_of_getElem? (i := 2) rfl) ez2 dX1_skipSpaces_5 ?_
    refine lv_icmp_ge (tgt := 38) F.1 F.2.1 dX1_skipSpaces_8 (by decide) (fun c3 => ?_) (fun c3 => ?_)
    · replace hf := qi_t c3 hf
      have e8 := qs1 hf
      subst e8
      exact hQ _ _ _ _ hP hS dX1_skipSpaces_38
    · replace hf := qi_f c3 hf
      refine lv_aload_n F.1 F.2.1 dX1_skipSpaces_11 rfl (lv_at hl 0 rfl) ?_
      refine qr_gXr F G hv (fun w h => F.2.2.2.2 w (List.mem_cons_of_mem _ (List.mem_append_right _ h))) hP (List.mem_of_getElem? (i := 3) rfl) dX1_skipSpaces_12 ?_
      refine lv_aload_n F.1 F.2.1 dX1_skipSpaces_15 rfl (lv_at hl 0 rfl) ?_
      obtain ⟨z4, ez4, hf⟩ := qn_x hf
      refine qr_gX F G hv (fun w h => F.2.2.2.2 w (List.mem_cons_of_mem _ (List.mem_append_right _ h))) hP (qw_u1s _ _ _) 2 (by decide) (List.mem_of_getElem? (i := 1) rfl) ez4 dX1_skipSpaces_16 ?_
      obtain ⟨g6, hf⟩ := qg_x hf
      obtain ⟨z5, ez5, hf⟩ := qn_x hf
      refine qr_ald F G hP (qw_u1s _ _ _) (qw_I8 hv) g6 rfl ez5 dX1_skipSpaces_19 ?_
      refine lv_bipush (v := (nI 32)) F.1 F.2.1 dX1_skipSpaces_20 (by decide) ?_
      refine lv_icmp_ne (tgt := 38) F.1 F.2.1 dX1_skipSpaces_22 (by decide) (fun c7 => ?_) (fun c7 => ?_)
      · replace hf := qi_f c7 hf
        have e8 := qs1 hf
        subst e8
        exact hQ _ _ _ _ hP hS dX1_skipSpaces_38
      · replace hf := qi_t c7 hf
        refine lv_aload_n F.1 F.2.1 dX1_skipSpaces_25 rfl (lv_at hl 0 rfl) ?_
        refine lv_dup F.1 F.2.1 dX1_skipSpaces_26 rfl ?_
        obtain ⟨z8, ez8, hf⟩ := qn_x hf
        refine qr_gX F G hv (fun w h => F.2.2.2.2 w (List.mem_cons_of_mem _ (List.mem_append_right _ h))) hP (qw_u1s _ _ _) 2 (by decide) (List.mem_of_getElem? (i := 1) rfl) ez8 dX1_skipSpaces_27 ?_
        refine lv_iconst (v := (nI 1)) F.1 F.2.1 dX1_skipSpaces_30 (by decide) ?_
        obtain ⟨z9, ez9, hf⟩ := qn_x hf
        refine qr_iadd F ez9 dX1_skipSpaces_31 ?_
        obtain ⟨m10, em10, hf⟩ := qn_x hf
        refine qr_pX F G hv (fun w h => F.2.2.2.2 w (List.mem_cons_of_mem _ (List.mem_append_right _ h))) hP hS (qw_u1s _ _ _) 2 (by decide) (List.mem_of_getElem? (i := 1) rfl) (qw_fx em10) dX1_skipSpaces_32 (fun H locs hP hS => ?_)
        refine lv_goto (tgt := 0) F.1 F.2.1 dX1_skipSpaces_35 (by decide) ?_
        exact ih _ _ _ _ hf hP hS (lv_sub hl [0] rfl)
set_option maxRecDepth 100000 in
set_option maxHeartbeats 4000000 in
theorem qb_X1_skipSpaces {p : Program} {l : Launch} {e : Env} {s : State} {mi : MethodId} {args : Array Value} {below : List Frame} {meth : Method} {co : Code} {Q : State → Prop} {L : wL} {M : wM} {h : Nat → Nat} {m9 : wm} (F : CallFix p mi co cX1_skipSpaces 1 s args wsX1_skipSpaces RX1) (G : qw_G L (qw_A L) s) (hv : qw_8 L) (hQ : qw_RV p l e rm_X1_skipSpaces s mi args below meth co cX1_skipSpaces Q L (qw_u1 M 8 m9) h) : ∀ (m : wm) (H : Heap) (locs : List Loc) (ls : Array Slot), qf_X1_skipSpaces m = some m9 → qw_P L (qw_u1 M 8 m) h H → va_S (qw_A L) s.heap H locs → lv_has ls 1 [(0, .ref (qw_ad L 8 2))] → W p l e rm_X1_skipSpaces s mi args below meth co H locs 0 0 Q (F0 mi 0 ls []) := by
  intro m H locs ls hf hP hS hl
  unfold qf_X1_skipSpaces at hf
  refine lv_aload_n F.1 F.2.1 dX1_skipSpaces_0 rfl (lv_at hl 0 rfl) ?_
  obtain ⟨z1, ez1, hf⟩ := qn_x hf
  refine qr_gX F G hv (fun w h => F.2.2.2.2 w (List.mem_cons_of_mem _ (List.mem_append_right _ h))) hP (qw_u1s _ _ _) 2 (by decide) (List.mem_of_getElem? (i := 1) rfl) ez1 dX1_skipSpaces_1 ?_
  refine lv_aload_n F.1 F.2.1 dX1_skipSpaces_4 rfl (lv_at hl 0 rfl) ?_
  obtain ⟨z2, ez2, hf⟩ := qn_x hf
  refine qr_gX F G hv (fun w h => F.2.2.2.2 w (List.mem_cons_of_mem _ (List.mem_append_right _ h))) hP (qw_u1s _ _ _) 1 (by decide) (List.mem_of_getElem? (i := 2) rfl) ez2 dX1_skipSpaces_5 ?_
  refine lv_icmp_ge (tgt := 38) F.1 F.2.1 dX1_skipSpaces_8 (by decide) (fun c3 => ?_) (fun c3 => ?_)
  · replace hf := qi_t c3 hf
    have e8 := qs1 hf
    subst e8
    exact hQ _ _ _ _ hP hS dX1_skipSpaces_38
  · replace hf := qi_f c3 hf
    refine lv_aload_n F.1 F.2.1 dX1_skipSpaces_11 rfl (lv_at hl 0 rfl) ?_
    refine qr_gXr F G hv (fun w h => F.2.2.2.2 w (List.mem_cons_of_mem _ (List.mem_append_right _ h))) hP (List.mem_of_getElem? (i := 3) rfl) dX1_skipSpaces_12 ?_
    refine lv_aload_n F.1 F.2.1 dX1_skipSpaces_15 rfl (lv_at hl 0 rfl) ?_
    obtain ⟨z4, ez4, hf⟩ := qn_x hf
    refine qr_gX F G hv (fun w h => F.2.2.2.2 w (List.mem_cons_of_mem _ (List.mem_append_right _ h))) hP (qw_u1s _ _ _) 2 (by decide) (List.mem_of_getElem? (i := 1) rfl) ez4 dX1_skipSpaces_16 ?_
    obtain ⟨g6, hf⟩ := qg_x hf
    obtain ⟨z5, ez5, hf⟩ := qn_x hf
    refine qr_ald F G hP (qw_u1s _ _ _) (qw_I8 hv) g6 rfl ez5 dX1_skipSpaces_19 ?_
    refine lv_bipush (v := (nI 32)) F.1 F.2.1 dX1_skipSpaces_20 (by decide) ?_
    refine lv_icmp_ne (tgt := 38) F.1 F.2.1 dX1_skipSpaces_22 (by decide) (fun c7 => ?_) (fun c7 => ?_)
    · replace hf := qi_f c7 hf
      have e8 := qs1 hf
      subst e8
      exact hQ _ _ _ _ hP hS dX1_skipSpaces_38
    · replace hf := qi_t c7 hf
      refine lv_aload_n F.1 F.2.1 dX1_skipSpaces_25 rfl (lv_at hl 0 rfl) ?_
      refine lv_dup F.1 F.2.1 dX1_skipSpaces_26 rfl ?_
      obtain ⟨z8, ez8, hf⟩ := qn_x hf
      refine qr_gX F G hv (fun w h => F.2.2.2.2 w (List.mem_cons_of_mem _ (List.mem_append_right _ h))) hP (qw_u1s _ _ _) 2 (by decide) (List.mem_of_getElem? (i := 1) rfl) ez8 dX1_skipSpaces_27 ?_
      refine lv_iconst (v := (nI 1)) F.1 F.2.1 dX1_skipSpaces_30 (by decide) ?_
      obtain ⟨z9, ez9, hf⟩ := qn_x hf
      refine qr_iadd F ez9 dX1_skipSpaces_31 ?_
      obtain ⟨m10, em10, hf⟩ := qn_x hf
      refine qr_pX F G hv (fun w h => F.2.2.2.2 w (List.mem_cons_of_mem _ (List.mem_append_right _ h))) hP hS (qw_u1s _ _ _) 2 (by decide) (List.mem_of_getElem? (i := 1) rfl) (qw_fx em10) dX1_skipSpaces_32 (fun H locs hP hS => ?_)
      refine lv_goto (tgt := 0) F.1 F.2.1 dX1_skipSpaces_35 (by decide) ?_
      exact qb_X1_skipSpaces_0 F G hv hQ _ _ _ _ _ hf hP hS (lv_sub hl [0] rfl)
set_option maxRecDepth 100000 in
set_option maxHeartbeats 4000000 in
theorem qc_X1_skipSpaces (l : Launch) {L : wL} (hJ : qw_J L) {X X9 : wM} {h : Nat → Nat} {m m9 : wm} (hX : X 8 = m) (hX9 : qw_u1 X 8 m9 = X9) (hv : qw_8 L) (hf : qf_X1_skipSpaces m = some m9) : qw_MV l yX1_skipSpaces wsX1_skipSpaces rm_X1_skipSpaces L (.ref (qw_ad L 8 2) :: []) X h X9 h := by
  subst hX
  subst hX9
  refine qw_MV_of (cc := cX1_skipSpaces) (maxL := 1) (by decide) rfl hJ (Nat.le_of_ble_eq_true rfl) ?_
  intro p e s mi below meth co Q ls F G hP hQ hl
  exact qb_X1_skipSpaces F G hv hQ _ _ _ _ hf (by rw [qw_u1i]; exact hP) va_S.rf hl
def rm_X1_readSign : Room := { frames := 1, cells := 0, slots := 0, locals := 20 }
theorem e_X1_readSign : qw_hd yX1_readSign RX1 1 := by decide +kernel
set_option maxRecDepth 100000 in
set_option maxHeartbeats 4000000 in
theorem qb_X1_readSign {p : Program} {l : Launch} {e : Env} {s : State} {mi : MethodId} {args : Array Value} {below : List Frame} {meth : Method} {co : Code} {Q : State → Prop} {L : wL} {M : wM} {h : Nat → Nat} {r : Int32} {m9 : wm} (F : CallFix p mi co cX1_readSign 2 s args wsX1_readSign RX1) (G : qw_G L (qw_A L) s) (hv : qw_8 L) (hQ : qw_RI p l e rm_X1_readSign s mi args below meth co cX1_readSign .boolean Q L r (qw_u1 M 8 m9) h) : ∀ (x1 : Int32) (m : wm) (H : Heap) (locs : List Loc) (ls : Array Slot), qf_X1_readSign x1 m = some (r, m9) → qw_P L (qw_u1 M 8 m) h H → va_S (qw_A L) s.heap H locs → lv_has ls 2 [(0, .ref (qw_ad L 8 2)), (1, .int x1)] → W p l e rm_X1_readSign s mi args below meth co H locs 0 0 Q (F0 mi 0 ls []) := by
  intro x1 m H locs ls hf hP hS hl
  unfold qf_X1_readSign at hf
  refine lv_aload_n F.1 F.2.1 dX1_readSign_0 rfl (lv_at hl 0 rfl) ?_
  obtain ⟨m2, k1, hf⟩ := qb1_x hf
  refine qr_cVv F G hP hS (qc_X1_skipSpaces l G.2.1 (qw_u1s _ _ _) (qw_fx rfl) hv k1) (qw_rcX hv) gX1_readSign_X1_skipSpaces rfl ⟨rfl, rfl⟩ e_X1_skipSpaces ⟨Nat.le_of_ble_eq_true rfl, Nat.le_of_ble_eq_true rfl⟩ rfl hl.1 rfl (Nat.le_of_ble_eq_true rfl) ⟨Nat.zero_le _, Nat.zero_le _⟩ dX1_readSign_1 (fun H locs hP hS => ?_)
  refine lv_aload_n F.1 F.2.1 dX1_readSign_4 rfl (lv_at hl 0 rfl) ?_
  obtain ⟨r3, k4, hf⟩ := qb1_x hf
  refine qr_cVi F G hP hS (qc_X1_sign l G.2.1 (qw_u1s _ _ _) hv k4) (qw_rcX hv) gX1_readSign_X1_sign rfl ⟨rfl, rfl⟩ e_X1_sign ⟨Nat.le_of_ble_eq_true rfl, Nat.le_of_ble_eq_true rfl⟩ rfl hl.1 rfl (Nat.le_of_ble_eq_true rfl) ⟨Nat.zero_le _, Nat.zero_le _⟩ dX1_readSign_5 (fun H locs hP hS => ?_)
  refine lv_iload_n F.1 F.2.1 dX1_readSign_8 rfl (lv_at hl 1 rfl) ?_
  refine lv_icmp_eq (tgt := 14) F.1 F.2.1 dX1_readSign_9 (by decide) (fun c5 => ?_) (fun c5 => ?_)
  · replace hf := qi_t c5 hf
    refine lv_aload_n F.1 F.2.1 dX1_readSign_14 rfl (lv_at hl 0 rfl) ?_
    refine lv_dup F.1 F.2.1 dX1_readSign_15 rfl ?_
    obtain ⟨z6, ez6, hf⟩ := qn_x hf
    refine qr_gX F G hv (fun w h => F.2.2.2.2 w (List.mem_cons_of_mem _ (List.mem_append_right _ h))) hP (qw_u1s _ _ _) 2 (by decide) (List.mem_of_getElem? (i := 1) rfl) ez6 dX1_readSign_16 ?_
    refine lv_iconst (v := (nI 1)) F.1 F.2.1 dX1_readSign_19 (by decide) ?_
    obtain ⟨z7, ez7, hf⟩ := qn_x hf
    refine qr_iadd F ez7 dX1_readSign_20 ?_
    obtain ⟨m8, em8, hf⟩ := qn_x hf
    refine qr_pX F G hv (fun w h => F.2.2.2.2 w (List.mem_cons_of_mem _ (List.mem_append_right _ h))) hP hS (qw_u1s _ _ _) 2 (by decide) (List.mem_of_getElem? (i := 1) rfl) (qw_fx em8) dX1_readSign_21 (fun H locs hP hS => ?_)
    refine lv_iconst (v := (nI 1)) F.1 F.2.1 dX1_readSign_24 (by decide) ?_
    obtain ⟨e9, e8⟩ := qs2 hf
    subst e9
    subst e8
    exact hQ _ _ _ _ hP hS rfl dX1_readSign_25
  · replace hf := qi_f c5 hf
    refine lv_iconst (v := (nI 0)) F.1 F.2.1 dX1_readSign_12 (by decide) ?_
    obtain ⟨e9, e8⟩ := qs2 hf
    subst e9
    subst e8
    exact hQ _ _ _ _ hP hS rfl dX1_readSign_13
set_option maxRecDepth 100000 in
set_option maxHeartbeats 4000000 in
theorem qc_X1_readSign (l : Launch) {L : wL} (hJ : qw_J L) {X X9 : wM} {h : Nat → Nat} {m m9 : wm} (hX : X 8 = m) (hX9 : qw_u1 X 8 m9 = X9) {x1 : Int32} {r : Int32} (hv : qw_8 L) (hf : qf_X1_readSign x1 m = some (r, m9)) : qw_MI l yX1_readSign wsX1_readSign rm_X1_readSign L (.ref (qw_ad L 8 2) :: [.int x1]) X h r X9 h := by
  subst hX
  subst hX9
  refine qw_MI_of (cc := cX1_readSign) (maxL := 2) (ty := .boolean) (by decide) rfl hJ (Nat.le_of_ble_eq_true rfl) ?_
  intro p e s mi below meth co Q ls F G hP hQ hl
  exact qb_X1_readSign F G hv hQ _ _ _ _ _ hf (by rw [qw_u1i]; exact hP) va_S.rf hl
def rm_X1_isDigit : Room := { frames := 0, cells := 0, slots := 0, locals := 0 }
theorem e_X1_isDigit : qw_hd yX1_isDigit RX1 1 := by decide +kernel
set_option maxRecDepth 100000 in
set_option maxHeartbeats 4000000 in
theorem qb_X1_isDigit {p : Program} {l : Launch} {e : Env} {s : State} {mi : MethodId} {args : Array Value} {below : List Frame} {meth : Method} {co : Code} {Q : State → Prop} {L : wL} {X : wM} {h : Nat → Nat} {r : Int32} (F : CallFix p mi co cX1_isDigit 1 s args wsX1_isDigit RX1) (G : qw_G L (qw_A L) s) (hQ : qw_RI p l e rm_X1_isDigit s mi args below meth co cX1_isDigit .boolean Q L r X h) : ∀ (x0 : Int32) (H : Heap) (locs : List Loc) (ls : Array Slot), qf_X1_isDigit x0 = some r → qw_P L X h H → va_S (qw_A L) s.heap H locs → lv_has ls 1 [(0, .int x0)] → W p l e rm_X1_isDigit s mi args below meth co H locs 0 0 Q (F0 mi 0 ls []) := by
  intro x0 H locs ls hf hP hS hl
  unfold qf_X1_isDigit at hf
  refine lv_iload_n F.1 F.2.1 dX1_isDigit_0 rfl (lv_at hl 0 rfl) ?_
  refine lv_bipush (v := (nI 48)) F.1 F.2.1 dX1_isDigit_1 (by decide) ?_
  refine lv_icmp_lt (tgt := 16) F.1 F.2.1 dX1_isDigit_3 (by decide) (fun c1 => ?_) (fun c1 => ?_)
  · replace hf := qi_t c1 hf
    refine lv_iconst (v := (nI 0)) F.1 F.2.1 dX1_isDigit_16 (by decide) ?_
    have e9 := qs1 hf
    subst e9
    exact hQ _ _ _ _ hP hS rfl dX1_isDigit_17
  · replace hf := qi_f c1 hf
    refine lv_iload_n F.1 F.2.1 dX1_isDigit_6 rfl (lv_at hl 0 rfl) ?_
    refine lv_bipush (v := (nI 57)) F.1 F.2.1 dX1_isDigit_7 (by decide) ?_
    refine lv_icmp_gt (tgt := 16) F.1 F.2.1 dX1_isDigit_9 (by decide) (fun c2 => ?_) (fun c2 => ?_)
    · replace hf := qi_t c2 hf
      refine lv_iconst (v := (nI 0)) F.1 F.2.1 dX1_isDigit_16 (by decide) ?_
      have e9 := qs1 hf
      subst e9
      exact hQ _ _ _ _ hP hS rfl dX1_isDigit_17
    · replace hf := qi_f c2 hf
      refine lv_iconst (v := (nI 1)) F.1 F.2.1 dX1_isDigit_12 (by decide) ?_
      refine lv_goto (tgt := 17) F.1 F.2.1 dX1_isDigit_13 (by decide) ?_
      have e9 := qs1 hf
      subst e9
      exact hQ _ _ _ _ hP hS rfl dX1_isDigit_17
set_option maxRecDepth 100000 in
set_option maxHeartbeats 4000000 in
theorem qc_X1_isDigit (l : Launch) {L : wL} (hJ : qw_J L) {X : wM} {h : Nat → Nat} {x0 : Int32} {r : Int32} (hf : qf_X1_isDigit x0 = some r) : qw_MI l yX1_isDigit wsX1_isDigit rm_X1_isDigit L [.int x0] X h r X h := by
  refine qw_MI_of (cc := cX1_isDigit) (maxL := 1) (ty := .boolean) (by decide) rfl hJ (Nat.le_of_ble_eq_true rfl) ?_
  intro p e s mi below meth co Q ls F G hP hQ hl
  exact qb_X1_isDigit F G  hQ _ _ _ _ hf hP va_S.rf hl
def rm_X1_readNumber : Room := { frames := 1, cells := 0, slots := 0, locals := 20 }
theorem e_X1_readNumber : qw_hd yX1_readNumber RX1 0 := by decide +kernel
set_option maxRecDepth 100000 in
set_option maxHeartbeats 4000000 in
theorem qb_X1_readNumber_116 {p : Program} {l : Launch} {e : Env} {s : State} {mi : MethodId} {args : Array Value} {below : List Frame} {meth : Method} {co : Code} {Q : State → Prop} {L : wL} {M : wM} {h : Nat → Nat} {r : Int32} {m9 : wm} (F : CallFix p mi co cX1_readNumber 5 s args wsX1_readNumber RX1) (G : qw_G L (qw_A L) s) (hv : qw_8 L) (hQ : qw_RI p l e rm_X1_readNumber s mi args below meth co cX1_readNumber .int Q L r (qw_u1 M 8 m9) h) : ∀ (x1 : Int32) (x2 : Int32) (y0 : Int32) (m : wm) (H : Heap) (locs : List Loc) (ls : Array Slot), qf_X1_readNumber_116 x1 x2 y0 m = some (r, m9) → qw_P L (qw_u1 M 8 m) h H → va_S (qw_A L) s.heap H locs → lv_has ls 5 [(0, .ref (qw_ad L 8 2)), (1, .int x1), (2, .int x2)] → W p l e rm_X1_readNumber s mi args below meth co H locs 0 0 Q (F0 mi 116 ls [.int y0]) := by
  intro x1 x2 y0 m H locs ls hf hP hS hl
  unfold qf_X1_readNumber_116 at hf
  refine lv_istore (lv' := [(4, .int y0), (0, .ref (qw_ad L 8 2)), (1, .int x1), (2, .int x2)]) F.1 F.2.1 dX1_readNumber_116 hl (by decide) rfl (fun ls hl => ?_)
  refine lv_iload F.1 F.2.1 dX1_readNumber_118 (lv_at hl 0 rfl) ?_
  refine lv_if_ne (tgt := 130) F.1 F.2.1 dX1_readNumber_120 (by decide) (fun c1 => ?_) (fun c1 => ?_)
  · replace hf := qi_f c1 hf
    refine lv_iload_n F.1 F.2.1 dX1_readNumber_130 rfl (lv_at hl 3 rfl) ?_
    obtain ⟨e9, e8⟩ := qs2 hf
    subst e9
    subst e8
    exact hQ _ _ _ _ hP hS rfl dX1_readNumber_131
  · replace hf := qi_t c1 hf
    refine lv_aload_n F.1 F.2.1 dX1_readNumber_123 rfl (lv_at hl 1 rfl) ?_
    refine lv_iload_n F.1 F.2.1 dX1_readNumber_124 rfl (lv_at hl 2 rfl) ?_
    obtain ⟨m2, em2, hf⟩ := qn_x hf
    refine qr_pX F G hv (fun w h => F.2.2.2.2 w (List.mem_cons_of_mem _ (List.mem_append_right _ h))) hP hS (qw_u1s _ _ _) 2 (by decide) (List.mem_of_getElem? (i := 1) rfl) (qw_fx em2) dX1_readNumber_125 (fun H locs hP hS => ?_)
    refine lv_iconst (v := (-1 : Int32)) F.1 F.2.1 dX1_readNumber_128 (by decide) ?_
    obtain ⟨e9, e8⟩ := qs2 hf
    subst e9
    subst e8
    exact hQ _ _ _ _ hP hS rfl dX1_readNumber_129
set_option maxRecDepth 100000 in
set_option maxHeartbeats 4000000 in
theorem qb_X1_readNumber_111 {p : Program} {l : Launch} {e : Env} {s : State} {mi : MethodId} {args : Array Value} {below : List Frame} {meth : Method} {co : Code} {Q : State → Prop} {L : wL} {M : wM} {h : Nat → Nat} {r : Int32} {m9 : wm} (F : CallFix p mi co cX1_readNumber 5 s args wsX1_readNumber RX1) (G : qw_G L (qw_A L) s) (hv : qw_8 L) (hQ : qw_RI p l e rm_X1_readNumber s mi args below meth co cX1_readNumber .int Q L r (qw_u1 M 8 m9) h) : ∀ (x1 : Int32) (x2 : Int32) (m : wm) (H : Heap) (locs : List Loc) (ls : Array Slot), qf_X1_readNumber_111 x1 x2 m = some (r, m9) → qw_P L (qw_u1 M 8 m) h H → va_S (qw_A L) s.heap H locs → lv_has ls 5 [(0, .ref (qw_ad L 8 2)), (1, .int x1), (2, .int x2)] → W p l e rm_X1_readNumber s mi args below meth co H locs 0 0 Q (F0 mi 111 ls []) := by
  intro x1 x2 m H locs ls hf hP hS hl
  unfold qf_X1_readNumber_111 at hf
  refine lv_iconst (v := (nI 1)) F.1 F.2.1 dX1_readNumber_111 (by decide) ?_
  refine lv_goto (tgt := 116) F.1 F.2.1 dX1_readNumber_112 (by decide) ?_
  exact qb_X1_readNumber_116 F G hv hQ _ _ _ _ _ _ _ hf hP hS (lv_sub hl [0, 1, 2] rfl)
set_option maxRecDepth 100000 in
set_option maxHeartbeats 4000000 in
theorem qb_X1_readNumber_115 {p : Program} {l : Launch} {e : Env} {s : State} {mi : MethodId} {args : Array Value} {below : List Frame} {meth : Method} {co : Code} {Q : State → Prop} {L : wL} {M : wM} {h : Nat → Nat} {r : Int32} {m9 : wm} (F : CallFix p mi co cX1_readNumber 5 s args wsX1_readNumber RX1) (G : qw_G L (qw_A L) s) (hv : qw_8 L) (hQ : qw_RI p l e rm_X1_readNumber s mi args below meth co cX1_readNumber .int Q L r (qw_u1 M 8 m9) h) : ∀ (x1 : Int32) (x2 : Int32) (m : wm) (H : Heap) (locs : List Loc) (ls : Array Slot), qf_X1_readNumber_115 x1 x2 m = some (r, m9) → qw_P L (qw_u1 M 8 m) h H → va_S (qw_A L) s.heap H locs → lv_has ls 5 [(0, .ref (qw_ad L 8 2)), (1, .int x1), (2, .int x2)] → W p l e rm_X1_readNumber s mi args below meth co H locs 0 0 Q (F0 mi 115 ls []) := by
  intro x1 x2 m H locs ls hf hP hS hl
  unfold qf_X1_readNumber_115 at hf
  refine lv_iconst (v := (nI 0)) F.1 F.2.1 dX1_readNumber_115 (by decide) ?_
  exact qb_X1_readNumber_116 F G hv hQ _ _ _ _ _ _ _ hf hP hS (lv_sub hl [0, 1, 2] rfl)
set_option maxRecDepth 100000 in
set_option maxHeartbeats 4000000 in
theorem qb_X1_readNumber_78 {p : Program} {l : Launch} {e : Env} {s : State} {mi : MethodId} {args : Array Value} {below : List Frame} {meth : Method} {co : Code} {Q : State → Prop} {L : wL} {M : wM} {h : Nat → Nat} {r : Int32} {m9 : wm} (F : CallFix p mi co cX1_readNumber 5 s args wsX1_readNumber RX1) (G : qw_G L (qw_A L) s) (hv : qw_8 L) (hQ : qw_RI p l e rm_X1_readNumber s mi args below meth co cX1_readNumber .int Q L r (qw_u1 M 8 m9) h) : ∀ (x1 : Int32) (x2 : Int32) (m : wm) (H : Heap) (locs : List Loc) (ls : Array Slot), qf_X1_readNumber_78 x1 x2 m = some (r, m9) → qw_P L (qw_u1 M 8 m) h H → va_S (qw_A L) s.heap H locs → lv_has ls 5 [(0, .ref (qw_ad L 8 2)), (1, .int x1), (2, .int x2)] → W p l e rm_X1_readNumber s mi args below meth co H locs 0 0 Q (F0 mi 78 ls []) := by
  intro x1 x2 m H locs ls hf hP hS hl
  unfold qf_X1_readNumber_78 at hf
  refine lv_aload_n F.1 F.2.1 dX1_readNumber_78 rfl (lv_at hl 0 rfl) ?_
  obtain ⟨z1, ez1, hf⟩ := qn_x hf
  refine qr_gX F G hv (fun w h => F.2.2.2.2 w (List.mem_cons_of_mem _ (List.mem_append_right _ h))) hP (qw_u1s _ _ _) 2 (by decide) (List.mem_of_getElem? (i := 1) rfl) ez1 dX1_readNumber_79 ?_
  refine lv_iload_n F.1 F.2.1 dX1_readNumber_82 rfl (lv_at hl 1 rfl) ?_
  obtain ⟨z2, ez2, hf⟩ := qn_x hf
  refine qr_isub F ez2 dX1_readNumber_83 ?_
  refine lv_istore_n (lv' := [(3, .int z2), (0, .ref (qw_ad L 8 2)), (1, .int x1), (2, .int x2)]) F.1 F.2.1 dX1_readNumber_84 rfl hl (by decide) rfl (fun ls hl => ?_)
  refine lv_iload_n F.1 F.2.1 dX1_readNumber_85 rfl (lv_at hl 0 rfl) ?_
  refine lv_iconst (v := (nI 1)) F.1 F.2.1 dX1_readNumber_86 (by decide) ?_
  refine lv_icmp_eq (tgt := 111) F.1 F.2.1 dX1_readNumber_87 (by decide) (fun c3 => ?_) (fun c3 => ?_)
  · replace hf := qi_t c3 hf
    exact qb_X1_readNumber_111 F G hv hQ _ _ _ _ _ _ hf hP hS (lv_sub hl [1, 2, 3] rfl)
  · replace hf := qi_f c3 hf
    refine lv_iload_n F.1 F.2.1 dX1_readNumber_90 rfl (lv_at hl 0 rfl) ?_
    refine lv_iconst (v := (nI 1)) F.1 F.2.1 dX1_readNumber_91 (by decide) ?_
    refine lv_icmp_le (tgt := 115) F.1 F.2.1 dX1_readNumber_92 (by decide) (fun c4 => ?_) (fun c4 => ?_)
    · replace hf := qi_t c4 hf
      exact qb_X1_readNumber_115 F G hv hQ _ _ _ _ _ _ hf hP hS (lv_sub hl [1, 2, 3] rfl)
    · replace hf := qi_f c4 hf
      refine lv_iload_n F.1 F.2.1 dX1_readNumber_95 rfl (lv_at hl 0 rfl) ?_
      refine lv_iconst (v := (nI 3)) F.1 F.2.1 dX1_readNumber_96 (by decide) ?_
      refine lv_icmp_gt (tgt := 115) F.1 F.2.1 dX1_readNumber_97 (by decide) (fun c5 => ?_) (fun c5 => ?_)
      · replace hf := qi_t c5 hf
        exact qb_X1_readNumber_115 F G hv hQ _ _ _ _ _ _ hf hP hS (lv_sub hl [1, 2, 3] rfl)
      · replace hf := qi_f c5 hf
        refine lv_aload_n F.1 F.2.1 dX1_readNumber_100 rfl (lv_at hl 1 rfl) ?_
        refine qr_gXr F G hv (fun w h => F.2.2.2.2 w (List.mem_cons_of_mem _ (List.mem_append_right _ h))) hP (List.mem_of_getElem? (i := 3) rfl) dX1_readNumber_101 ?_
        refine lv_iload_n F.1 F.2.1 dX1_readNumber_104 rfl (lv_at hl 2 rfl) ?_
        obtain ⟨g7, hf⟩ := qg_x hf
        obtain ⟨z6, ez6, hf⟩ := qn_x hf
        refine qr_ald F G hP (qw_u1s _ _ _) (qw_I8 hv) g7 rfl ez6 dX1_readNumber_105 ?_
        refine lv_bipush (v := (nI 48)) F.1 F.2.1 dX1_readNumber_106 (by decide) ?_
        refine lv_icmp_eq (tgt := 115) F.1 F.2.1 dX1_readNumber_108 (by decide) (fun c8 => ?_) (fun c8 => ?_)
        · replace hf := qi_t c8 hf
          exact qb_X1_readNumber_115 F G hv hQ _ _ _ _ _ _ hf hP hS (lv_sub hl [1, 2, 3] rfl)
        · replace hf := qi_f c8 hf
          exact qb_X1_readNumber_111 F G hv hQ _ _ _ _ _ _ hf hP hS (lv_sub hl [1, 2, 3] rfl)
set_option maxRecDepth 100000 in
set_option maxHeartbeats 4000000 in
theorem qb_X1_readNumber_11 {p : Program} {l : Launch} {e : Env} {s : State} {mi : MethodId} {args : Array Value} {below : List Frame} {meth : Method} {co : Code} {Q : State → Prop} {L : wL} {M : wM} {h : Nat → Nat} {r : Int32} {m9 : wm} (F : CallFix p mi co cX1_readNumber 5 s args wsX1_readNumber RX1) (G : qw_G L (qw_A L) s) (hv : qw_8 L) (hQ : qw_RI p l e rm_X1_readNumber s mi args below meth co cX1_readNumber .int Q L r (qw_u1 M 8 m9) h) : ∀ (n : Nat) (x1 : Int32) (x2 : Int32) (m : wm) (H : Heap) (locs : List Loc) (ls : Array Slot), qf_X1_readNumber_11 n x1 x2 m = some (r, m9) → qw_P L (qw_u1 M 8 m) h H → va_S (qw_A L) s.heap H locs → lv_has ls 5 [(0, .ref (qw_ad L 8 2)), (1, .int x1), (2, .int x2)] → W p l e rm_X1_readNumber s mi args below meth co H locs 0 0 Q (F0 mi 11 ls []) := by
  intro n
  induction n with
  | zero =>
    intro x1 x2 m H locs ls hf hP hS hl
    rw [qf_X1_readNumber_11] at hf
    cases hf
  | succ n ih =>
    intro x1 x2 m H locs ls hf hP hS hl
    rw [qf_X1_readNumber_11] at hf
    refine lv_aload_n F.1 F.2.1 dX1_readNumber_11 rfl (lv_at hl 0 rfl) ?_
    obtain ⟨z1, ez1, hf⟩ := qn_x hf
    refine qr_gX F G hv (fun w h => F.2.2.2.2 w (List.mem_cons_of_mem _ (List.mem_append_right _ h))) hP (qw_u1s _ _ _) 2 (by decide) (List.mem_of_getElem? (i := 1) rfl) ez1 dX1_readNumber_12 ?_
    refine lv_aload_n F.1 F.2.1 dX1_readNumber_15 rfl (lv_at hl 0 rfl) ?_
    obtain ⟨z2, ez2, hf⟩ := qn_x hf
    refine qr_gX F G hv (fun w h => F.2.2.2.2 w (List.mem_cons_of_mem _ (List.mem_append_right _ h))) hP (qw_u1s _ _ _) 1 (by decide) (List.mem_of_getElem? (i := 2) rfl) ez2 dX1_readNumber_16 ?_
    refine lv_icmp_ge (tgt := 78) F.1 F.2.1 dX1_readNumber_19 (by decide) (fun c3 => ?_) (fun c3 => ?_)
    · replace hf := qi_t c3 hf
      exact qb_X1_readNumber_78 F G hv hQ _ _ _ _ _ _ hf hP hS (lv_sub hl [0, 1, 2] rfl)
    · replace hf := qi_f c3 hf
      refine lv_aload_n F.1 F.2.1 dX1_readNumber_22 rfl (lv_at hl 0 rfl) ?_
      obtain ⟨z4, ez4, hf⟩ := qn_x hf
      refine qr_gX F G hv (fun w h => F.2.2.2.2 w (List.mem_cons_of_mem _ (List.mem_append_right _ h))) hP (qw_u1s _ _ _) 2 (by decide) (List.mem_of_getElem? (i := 1) rfl) ez4 dX1_readNumber_23 ?_
      refine lv_iload_n F.1 F.2.1 dX1_readNumber_26 rfl (lv_at hl 1 rfl) ?_
      obtain ⟨z5, ez5, hf⟩ := qn_x hf
      refine qr_isub F ez5 dX1_readNumber_27 ?_
      refine lv_iconst (v := (nI 3)) F.1 F.2.1 dX1_readNumber_28 (by decide) ?_
      refine lv_icmp_gt (tgt := 78) F.1 F.2.1 dX1_readNumber_29 (by decide) (fun c6 => ?_) (fun c6 => ?_)
      · replace hf := qi_t c6 hf
        exact qb_X1_readNumber_78 F G hv hQ _ _ _ _ _ _ hf hP hS (lv_sub hl [0, 1, 2] rfl)
      · replace hf := qi_f c6 hf
        refine lv_aload_n F.1 F.2.1 dX1_readNumber_32 rfl (lv_at hl 0 rfl) ?_
        refine qr_gXr F G hv (fun w h => F.2.2.2.2 w (List.mem_cons_of_mem _ (List.mem_append_right _ h))) hP (List.mem_of_getElem? (i := 3) rfl) dX1_readNumber_33 ?_
        refine lv_aload_n F.1 F.2.1 dX1_readNumber_36 rfl (lv_at hl 0 rfl) ?_
        obtain ⟨z7, ez7, hf⟩ := qn_x hf
        refine qr_gX F G hv (fun w h => F.2.2.2.2 w (List.mem_cons_of_mem _ (List.mem_append_right _ h))) hP (qw_u1s _ _ _) 2 (by decide) (List.mem_of_getElem? (i := 1) rfl) ez7 dX1_readNumber_37 ?_
        obtain ⟨g9, hf⟩ := qg_x hf
        obtain ⟨z8, ez8, hf⟩ := qn_x hf
        refine qr_ald F G hP (qw_u1s _ _ _) (qw_I8 hv) g9 rfl ez8 dX1_readNumber_40 ?_
        obtain ⟨r10, k11, hf⟩ := qb1_x hf
        refine qr_cSi F G hP hS (qc_X1_isDigit l G.2.1 k11) gX1_readNumber_X1_isDigit rfl ⟨rfl, rfl⟩ e_X1_isDigit ⟨Nat.le_of_ble_eq_true rfl, Nat.le_of_ble_eq_true rfl⟩ rfl hl.1 rfl (Nat.le_of_ble_eq_true rfl) ⟨Nat.zero_le _, Nat.zero_le _⟩ dX1_readNumber_41 (fun H locs hP hS => ?_)
        refine lv_if_eq (tgt := 78) F.1 F.2.1 dX1_readNumber_44 (by decide) (fun c12 => ?_) (fun c12 => ?_)
        · replace hf := qi_t c12 hf
          exact qb_X1_readNumber_78 F G hv hQ _ _ _ _ _ _ hf hP hS (lv_sub hl [0, 1, 2] rfl)
        · replace hf := qi_f c12 hf
          refine lv_bipush (v := (nI 10)) F.1 F.2.1 dX1_readNumber_47 (by decide) ?_
          refine lv_iload_n F.1 F.2.1 dX1_readNumber_49 rfl (lv_at hl 2 rfl) ?_
          obtain ⟨z13, ez13, hf⟩ := qn_x hf
          refine qr_imul F ez13 dX1_readNumber_50 ?_
          refine lv_aload_n F.1 F.2.1 dX1_readNumber_51 rfl (lv_at hl 0 rfl) ?_
          refine qr_gXr F G hv (fun w h => F.2.2.2.2 w (List.mem_cons_of_mem _ (List.mem_append_right _ h))) hP (List.mem_of_getElem? (i := 3) rfl) dX1_readNumber_52 ?_
          refine lv_aload_n F.1 F.2.1 dX1_readNumber_55 rfl (lv_at hl 0 rfl) ?_
          obtain ⟨z14, ez14, hf⟩ := qn_x hf
          refine qr_gX F G hv (fun w h => F.2.2.2.2 w (List.mem_cons_of_mem _ (List.mem_append_right _ h))) hP (qw_u1s _ _ _) 2 (by decide) (List.mem_of_getElem? (i := 1) rfl) ez14 dX1_readNumber_56 ?_
          obtain ⟨g16, hf⟩ := qg_x hf
          obtain ⟨z15, ez15, hf⟩ := qn_x hf
          refine qr_ald F G hP (qw_u1s _ _ _) (qw_I8 hv) g16 rfl ez15 dX1_readNumber_59 ?_
          obtain ⟨z17, ez17, hf⟩ := qn_x hf
          refine qr_iadd F ez17 dX1_readNumber_60 ?_
          refine lv_bipush (v := (nI 48)) F.1 F.2.1 dX1_readNumber_61 (by decide) ?_
          obtain ⟨z18, ez18, hf⟩ := qn_x hf
          refine qr_isub F ez18 dX1_readNumber_63 ?_
          refine lv_istore_n (lv' := [(2, .int z18), (0, .ref (qw_ad L 8 2)), (1, .int x1)]) F.1 F.2.1 dX1_readNumber_64 rfl hl (by decide) rfl (fun ls hl => ?_)
          refine lv_aload_n F.1 F.2.1 dX1_readNumber_65 rfl (lv_at hl 1 rfl) ?_
          refine lv_dup F.1 F.2.1 dX1_readNumber_66 rfl ?_
          obtain ⟨z19, ez19, hf⟩ := qn_x hf
          refine qr_gX F G hv (fun w h => F.2.2.2.2 w (List.mem_cons_of_mem _ (List.mem_append_right _ h))) hP (qw_u1s _ _ _) 2 (by decide) (List.mem_of_getElem? (i := 1) rfl) ez19 dX1_readNumber_67 ?_
          refine lv_iconst (v := (nI 1)) F.1 F.2.1 dX1_readNumber_70 (by decide) ?_
          obtain ⟨z20, ez20, hf⟩ := qn_x hf
          refine qr_iadd F ez20 dX1_readNumber_71 ?_
          obtain ⟨m21, em21, hf⟩ := qn_x hf
          refine qr_pX F G hv (fun w h => F.2.2.2.2 w (List.mem_cons_of_mem _ (List.mem_append_right _ h))) hP hS (qw_u1s _ _ _) 2 (by decide) (List.mem_of_getElem? (i := 1) rfl) (qw_fx em21) dX1_readNumber_72 (fun H locs hP hS => ?_)
          refine lv_goto (tgt := 11) F.1 F.2.1 dX1_readNumber_75 (by decide) ?_
          exact ih _ _ _ _ _ _ hf hP hS (lv_sub hl [1, 2, 0] rfl)
set_option maxRecDepth 100000 in
set_option maxHeartbeats 4000000 in
theorem qb_X1_readNumber {p : Program} {l : Launch} {e : Env} {s : State} {mi : MethodId} {args : Array Value} {below : List Frame} {meth : Method} {co : Code} {Q : State → Prop} {L : wL} {M : wM} {h : Nat → Nat} {r : Int32} {m9 : wm} (F : CallFix p mi co cX1_readNumber 5 s args wsX1_readNumber RX1) (G : qw_G L (qw_A L) s) (hv : qw_8 L) (hQ : qw_RI p l e rm_X1_readNumber s mi args below meth co cX1_readNumber .int Q L r (qw_u1 M 8 m9) h) : ∀ (m : wm) (H : Heap) (locs : List Loc) (ls : Array Slot), qf_X1_readNumber m = some (r, m9) → qw_P L (qw_u1 M 8 m) h H → va_S (qw_A L) s.heap H locs → lv_has ls 5 [(0, .ref (qw_ad L 8 2))] → W p l e rm_X1_readNumber s mi args below meth co H locs 0 0 Q (F0 mi 0 ls []) := by
  intro m H locs ls hf hP hS hl
  unfold qf_X1_readNumber at hf
  refine lv_aload_n F.1 F.2.1 dX1_readNumber_0 rfl (lv_at hl 0 rfl) ?_
  obtain ⟨m2, k1, hf⟩ := qb1_x hf
  refine qr_cVv F G hP hS (qc_X1_skipSpaces l G.2.1 (qw_u1s _ _ _) (qw_fx rfl) hv k1) (qw_rcX hv) gX1_readNumber_X1_skipSpaces rfl ⟨rfl, rfl⟩ e_X1_skipSpaces ⟨Nat.le_of_ble_eq_true rfl, Nat.le_of_ble_eq_true rfl⟩ rfl hl.1 rfl (Nat.le_of_ble_eq_true rfl) ⟨Nat.zero_le _, Nat.zero_le _⟩ dX1_readNumber_1 (fun H locs hP hS => ?_)
  refine lv_aload_n F.1 F.2.1 dX1_readNumber_4 rfl (lv_at hl 0 rfl) ?_
  obtain ⟨z3, ez3, hf⟩ := qn_x hf
  refine qr_gX F G hv (fun w h => F.2.2.2.2 w (List.mem_cons_of_mem _ (List.mem_append_right _ h))) hP (qw_u1s _ _ _) 2 (by decide) (List.mem_of_getElem? (i := 1) rfl) ez3 dX1_readNumber_5 ?_
  refine lv_istore_n (lv' := [(1, .int z3), (0, .ref (qw_ad L 8 2))]) F.1 F.2.1 dX1_readNumber_8 rfl hl (by decide) rfl (fun ls hl => ?_)
  refine lv_iconst (v := (nI 0)) F.1 F.2.1 dX1_readNumber_9 (by decide) ?_
  refine lv_istore_n (lv' := [(2, .int (nI 0)), (1, .int z3), (0, .ref (qw_ad L 8 2))]) F.1 F.2.1 dX1_readNumber_10 rfl hl (by decide) rfl (fun ls hl => ?_)
  exact qb_X1_readNumber_11 F G hv hQ _ _ _ _ _ _ _ hf hP hS (lv_sub hl [2, 1, 0] rfl)
set_option maxRecDepth 100000 in
set_option maxHeartbeats 4000000 in
theorem qc_X1_readNumber (l : Launch) {L : wL} (hJ : qw_J L) {X X9 : wM} {h : Nat → Nat} {m m9 : wm} (hX : X 8 = m) (hX9 : qw_u1 X 8 m9 = X9) {r : Int32} (hv : qw_8 L) (hf : qf_X1_readNumber m = some (r, m9)) : qw_MI l yX1_readNumber wsX1_readNumber rm_X1_readNumber L (.ref (qw_ad L 8 2) :: []) X h r X9 h := by
  subst hX
  subst hX9
  refine qw_MI_of (cc := cX1_readNumber) (maxL := 5) (ty := .int) (by decide) rfl hJ (Nat.le_of_ble_eq_true rfl) ?_
  intro p e s mi below meth co Q ls F G hP hQ hl
  exact qb_X1_readNumber F G hv hQ _ _ _ _ hf (by rw [qw_u1i]; exact hP) va_S.rf hl
