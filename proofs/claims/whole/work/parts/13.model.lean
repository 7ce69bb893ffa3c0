def rm_X3_in : Room := { frames := 0, cells := 0, slots := 0, locals := 0 }
theorem e_X3_in : qw_hd yX3_in RX3 3 := by decide +kernel
set_option maxRecDepth 100000 in
set_option maxHeartbeats 4000000 in
theorem qb_X3_in {p : Program} {l : Launch} {e : Env} {s : State} {mi : MethodId} {args : Array Value} {below : List Frame} {meth : Method} {co : Code} {Q : State → Prop} {L : wL} {X : wM} {h : Nat → Nat} {r : Int32} (F : CallFix p mi co cX3_in 3 s args wsX3_in RX3) (G : qw_G L (qw_A L) s) (hQ : qw_RI p l e rm_X3_in s mi args below meth co cX3_in .boolean Q L r X h) : ∀ (x0 : Int32) (x1 : Int32) (x2 : Int32) (H : Heap) (locs : List Loc) (ls : Array Slot), qf_X3_in x0 x1 x2 = some r → qw_P L X h H → va_S (qw_A L) s.heap H locs → lv_has ls 3 [(0, .int x0), (1, .int x1), (2, .int x2)] → W p l e rm_X3_in s mi args below meth co H locs 0 0 Q (F0 mi 0 ls []) := by
  intro x0 x1 x2 H locs ls hf hP hS hl
  unfold qf_X3_in at hf
  refine lv_iload_n F.1 F.2.1 dX3_in_0 rfl (lv_at hl 0 rfl) ?_
  refine lv_iload_n F.1 F.2.1 dX3_in_1 rfl (lv_at hl 1 rfl) ?_
  refine lv_icmp_lt (tgt := 14) F.1 F.2.1 dX3_in_2 (by decide) (fun c1 => ?_) (fun c1 => ?_)
  · replace hf := qi_t c1 hf
    refine lv_iconst (v := (nI 0)) F.1 F.2.1 dX3_in_14 (by decide) ?_
    have e9 := qs1 hf
    subst e9
    exact hQ _ _ _ _ hP hS rfl dX3_in_15
  · replace hf := qi_f c1 hf
    refine lv_iload_n F.1 F.2.1 dX3_in_5 rfl (lv_at hl 0 rfl) ?_
    refine lv_iload_n F.1 F.2.1 dX3_in_6 rfl (lv_at hl 2 rfl) ?_
    refine lv_icmp_gt (tgt := 14) F.1 F.2.1 dX3_in_7 (by decide) (fun c2 => ?_) (fun c2 => ?_)
    · replace hf := qi_t c2 hf
      refine lv_iconst (v := (nI 0)) F.1 F.2.1 dX3_in_14 (by decide) ?_
      have e9 := qs1 hf
      subst e9
      exact hQ _ _ _ _ hP hS rfl dX3_in_15
    · replace hf := qi_f c2 hf
      refine lv_iconst (v := (nI 1)) F.1 F.2.1 dX3_in_10 (by decide) ?_
      refine lv_goto (tgt := 15) F.1 F.2.1 dX3_in_11 (by decide) ?_
      have e9 := qs1 hf
      subst e9
      exact hQ _ _ _ _ hP hS rfl dX3_in_15
set_option maxRecDepth 100000 in
set_option maxHeartbeats 4000000 in
theorem qc_X3_in (l : Launch) {L : wL} (hJ : qw_J L) {X : wM} {h : Nat → Nat} {x0 x1 x2 : Int32} {r : Int32} (hf : qf_X3_in x0 x1 x2 = some r) : qw_MI l yX3_in wsX3_in rm_X3_in L [.int x0, .int x1, .int x2] X h r X h := by
  refine qw_MI_of (cc := cX3_in) (maxL := 3) (ty := .boolean) (by decide) rfl hJ (Nat.le_of_ble_eq_true rfl) ?_
  intro p e s mi below meth co Q ls F G hP hQ hl
  exact qb_X3_in F G  hQ _ _ _ _ _ _ hf hP va_S.rf hl
def rm_X3_acts : Room := { frames := 0, cells := 0, slots := 0, locals := 0 }
theorem e_X3_acts : qw_hd yX3_acts RX3 0 := by decide +kernel
set_option maxRecDepth 100000 in
set_option maxHeartbeats 4000000 in
theorem qb_X3_acts_93 {p : Program} {l : Launch} {e : Env} {s : State} {mi : MethodId} {args : Array Value} {below : List Frame} {meth : Method} {co : Code} {Q : State → Prop} {L : wL} {M : wM} {h : Nat → Nat} {m9 : wm} (F : CallFix p mi co cX3_acts 2 s args wsX3_acts RX3) (G : qw_G L (qw_A L) s) (hv : qw_9 L) (hQ : qw_RV p l e rm_X3_acts s mi args below meth co cX3_acts Q L (qw_u1 M 9 m9) h) : ∀ (m : wm) (H : Heap) (locs : List Loc) (ls : Array Slot), qf_X3_acts_93 m = some m9 → qw_P L (qw_u1 M 9 m) h H → va_S (qw_A L) s.heap H locs → lv_has ls 2 [(0, .ref (qw_ad L 9 0))] → W p l e rm_X3_acts s mi args below meth co H locs 0 0 Q (F0 mi 93 ls []) := by
  intro m H locs ls hf hP hS hl
  unfold qf_X3_acts_93 at hf
  refine lv_aload_n F.1 F.2.1 dX3_acts_93 rfl (lv_at hl 0 rfl) ?_
  refine lv_dup F.1 F.2.1 dX3_acts_94 rfl ?_
  obtain ⟨z1, ez1, hf⟩ := qn_x hf
  refine qr_gM F G hv (fun w h => F.2.2.2.2 w (List.mem_cons_of_mem _ (List.mem_append_right _ h))) hP (qw_u1s _ _ _) 3 (by decide) (List.mem_of_getElem? (i := 2) rfl) ez1 dX3_acts_95 ?_
  refine lv_iconst (v := (nI 1)) F.1 F.2.1 dX3_acts_98 (by decide) ?_
  obtain ⟨z2, ez2, hf⟩ := qn_x hf
  refine qr_iadd F ez2 dX3_acts_99 ?_
  obtain ⟨m3, em3, hf⟩ := qn_x hf
  refine qr_pM F G hv (fun w h => F.2.2.2.2 w (List.mem_cons_of_mem _ (List.mem_append_right _ h))) hP hS (qw_u1s _ _ _) 3 (by decide) (List.mem_of_getElem? (i := 2) rfl) (qw_fx em3) dX3_acts_100 (fun H locs hP hS => ?_)
  have e8 := qs1 hf
  subst e8
  exact hQ _ _ _ _ hP hS dX3_acts_103
set_option maxRecDepth 100000 in
set_option maxHeartbeats 4000000 in
theorem qb_X3_acts_59 {p : Program} {l : Launch} {e : Env} {s : State} {mi : MethodId} {args : Array Value} {below : List Frame} {meth : Method} {co : Code} {Q : State → Prop} {L : wL} {M : wM} {h : Nat → Nat} {m9 : wm} (F : CallFix p mi co cX3_acts 2 s args wsX3_acts RX3) (G : qw_G L (qw_A L) s) (hv : qw_9 L) (hQ : qw_RV p l e rm_X3_acts s mi args below meth co cX3_acts Q L (qw_u1 M 9 m9) h) : ∀ (n : Nat) (x1 : Int32) (m : wm) (H : Heap) (locs : List Loc) (ls : Array Slot), qf_X3_acts_59 n x1 m = some m9 → qw_P L (qw_u1 M 9 m) h H → va_S (qw_A L) s.heap H locs → lv_has ls 2 [(0, .ref (qw_ad L 9 0)), (1, .int x1)] → W p l e rm_X3_acts s mi args below meth co H locs 0 0 Q (F0 mi 59 ls []) := by
  intro n
  induction n with
  | zero =>
    intro x1 m H locs ls hf hP hS hl
    rw [qf_X3_acts_59] at hf
    cases hf
  | succ n ih =>
    intro x1 m H locs ls hf hP hS hl
    rw [qf_X3_acts_59] at hf
    refine lv_iload_n F.1 F.2.1 dX3_acts_59 rfl (lv_at hl 1 rfl) ?_
    refine lv_sipush (v := (nI 935)) F.1 F.2.1 dX3_acts_60 (by decide) ?_
    refine lv_icmp_ge (tgt := 93) F.1 F.2.1 dX3_acts_63 (by decide) (fun c1 => ?_) (fun c1 => ?_)
    · replace hf := qi_t c1 hf
      exact qb_X3_acts_93 F G hv hQ _ _ _ _ hf hP hS (lv_sub hl [0] rfl)
    · replace hf := qi_f c1 hf
      refine lv_aload_n F.1 F.2.1 dX3_acts_66 rfl (lv_at hl 0 rfl) ?_
      refine qr_gMr F G hv (fun w h => F.2.2.2.2 w (List.mem_cons_of_mem _ (List.mem_append_right _ h))) hP 1 2 (by decide) (List.mem_of_getElem? (i := 3) rfl) dX3_acts_67 ?_
      refine lv_sipush (v := (nI 935)) F.1 F.2.1 dX3_acts_70 (by decide) ?_
      refine lv_aload_n F.1 F.2.1 dX3_acts_73 rfl (lv_at hl 0 rfl) ?_
      obtain ⟨z2, ez2, hf⟩ := qn_x hf
      refine qr_gM F G hv (fun w h => F.2.2.2.2 w (List.mem_cons_of_mem _ (List.mem_append_right _ h))) hP (qw_u1s _ _ _) 3 (by decide) (List.mem_of_getElem? (i := 2) rfl) ez2 dX3_acts_74 ?_
      obtain ⟨z3, ez3, hf⟩ := qn_x hf
      refine qr_imul F ez3 dX3_acts_77 ?_
      refine lv_iload_n F.1 F.2.1 dX3_acts_78 rfl (lv_at hl 1 rfl) ?_
      obtain ⟨z4, ez4, hf⟩ := qn_x hf
      refine qr_iadd F ez4 dX3_acts_79 ?_
      refine lv_aload_n F.1 F.2.1 dX3_acts_80 rfl (lv_at hl 0 rfl) ?_
      refine qr_gMr F G hv (fun w h => F.2.2.2.2 w (List.mem_cons_of_mem _ (List.mem_append_right _ h))) hP 0 1 (by decide) (List.mem_of_getElem? (i := 4) rfl) dX3_acts_81 ?_
      refine lv_iload_n F.1 F.2.1 dX3_acts_84 rfl (lv_at hl 1 rfl) ?_
      obtain ⟨g6, hf⟩ := qg_x hf
      obtain ⟨z5, ez5, hf⟩ := qn_x hf
      refine qr_ald F G hP (qw_u1s _ _ _) (qw_I9 (c := 1) (n := 935) hv (by decide)) g6 rfl ez5 dX3_acts_85 ?_
      obtain ⟨g7, hf⟩ := qg_x hf
      obtain ⟨m8, em8, hf⟩ := qn_x hf
      refine qr_ast F G hP hS (qw_u1s _ _ _) (qw_I9 (c := 2) (n := 4675) hv (by decide)) g7 rfl (qw_fx em8) dX3_acts_86 (fun H locs hP hS => ?_)
      obtain ⟨z9, ez9, hf⟩ := qn_x hf
      refine lv_iinc (v := z9) (lv' := [(1, .int z9), (0, .ref (qw_ad L 9 0))]) F.1 F.2.1 dX3_acts_87 hl (k := 1) rfl ((qw_ii1 _).trans ez9.symm) (by decide) rfl (fun ls hl => ?_)
      refine lv_goto (tgt := 59) F.1 F.2.1 dX3_acts_90 (by decide) ?_
      exact ih _ _ _ _ _ hf hP hS (lv_sub hl [1, 0] rfl)
set_option maxRecDepth 100000 in
set_option maxHeartbeats 4000000 in
theorem qb_X3_acts_57 {p : Program} {l : Launch} {e : Env} {s : State} {mi : MethodId} {args : Array Value} {below : List Frame} {meth : Method} {co : Code} {Q : State → Prop} {L : wL} {M : wM} {h : Nat → Nat} {m9 : wm} (F : CallFix p mi co cX3_acts 2 s args wsX3_acts RX3) (G : qw_G L (qw_A L) s) (hv : qw_9 L) (hQ : qw_RV p l e rm_X3_acts s mi args below meth co cX3_acts Q L (qw_u1 M 9 m9) h) : ∀ (m : wm) (H : Heap) (locs : List Loc) (ls : Array Slot), qf_X3_acts_57 m = some m9 → qw_P L (qw_u1 M 9 m) h H → va_S (qw_A L) s.heap H locs → lv_has ls 2 [(0, .ref (qw_ad L 9 0))] → W p l e rm_X3_acts s mi args below meth co H locs 0 0 Q (F0 mi 57 ls []) := by
  intro m H locs ls hf hP hS hl
  unfold qf_X3_acts_57 at hf
  refine lv_iconst (v := (nI 0)) F.1 F.2.1 dX3_acts_57 (by decide) ?_
  refine lv_istore_n (lv' := [(1, .int (nI 0)), (0, .ref (qw_ad L 9 0))]) F.1 F.2.1 dX3_acts_58 rfl hl (by decide) rfl (fun ls hl => ?_)
  exact qb_X3_acts_59 F G hv hQ _ _ _ _ _ _ hf hP hS (lv_sub hl [1, 0] rfl)
set_option maxRecDepth 100000 in
set_option maxHeartbeats 4000000 in
theorem qb_X3_acts_47 {p : Program} {l : Launch} {e : Env} {s : State} {mi : MethodId} {args : Array Value} {below : List Frame} {meth : Method} {co : Code} {Q : State → Prop} {L : wL} {M : wM} {h : Nat → Nat} {m9 : wm} (F : CallFix p mi co cX3_acts 2 s args wsX3_acts RX3) (G : qw_G L (qw_A L) s) (hv : qw_9 L) (hQ : qw_RV p l e rm_X3_acts s mi args below meth co cX3_acts Q L (qw_u1 M 9 m9) h) : ∀ (m : wm) (H : Heap) (locs : List Loc) (ls : Array Slot), qf_X3_acts_47 m = some m9 → qw_P L (qw_u1 M 9 m) h H → va_S (qw_A L) s.heap H locs → lv_has ls 2 [(0, .ref (qw_ad L 9 0))] → W p l e rm_X3_acts s mi args below meth co H locs 0 0 Q (F0 mi 47 ls []) := by
  intro m H locs ls hf hP hS hl
  unfold qf_X3_acts_47 at hf
  refine lv_aload_n F.1 F.2.1 dX3_acts_47 rfl (lv_at hl 0 rfl) ?_
  refine lv_dup F.1 F.2.1 dX3_acts_48 rfl ?_
  obtain ⟨z1, ez1, hf⟩ := qn_x hf
  refine qr_gM F G hv (fun w h => F.2.2.2.2 w (List.mem_cons_of_mem _ (List.mem_append_right _ h))) hP (qw_u1s _ _ _) 3 (by decide) (List.mem_of_getElem? (i := 2) rfl) ez1 dX3_acts_49 ?_
  refine lv_iconst (v := (nI 1)) F.1 F.2.1 dX3_acts_52 (by decide) ?_
  obtain ⟨z2, ez2, hf⟩ := qn_x hf
  refine qr_isub F ez2 dX3_acts_53 ?_
  obtain ⟨m3, em3, hf⟩ := qn_x hf
  refine qr_pM F G hv (fun w h => F.2.2.2.2 w (List.mem_cons_of_mem _ (List.mem_append_right _ h))) hP hS (qw_u1s _ _ _) 3 (by decide) (List.mem_of_getElem? (i := 2) rfl) (qw_fx em3) dX3_acts_54 (fun H locs hP hS => ?_)
  exact qb_X3_acts_57 F G hv hQ _ _ _ _ hf hP hS (lv_sub hl [0] rfl)
set_option maxRecDepth 100000 in
set_option maxHeartbeats 4000000 in
theorem qb_X3_acts_18 {p : Program} {l : Launch} {e : Env} {s : State} {mi : MethodId} {args : Array Value} {below : List Frame} {meth : Method} {co : Code} {Q : State → Prop} {L : wL} {M : wM} {h : Nat → Nat} {m9 : wm} (F : CallFix p mi co cX3_acts 2 s args wsX3_acts RX3) (G : qw_G L (qw_A L) s) (hv : qw_9 L) (hQ : qw_RV p l e rm_X3_acts s mi args below meth co cX3_acts Q L (qw_u1 M 9 m9) h) : ∀ (n : Nat) (x1 : Int32) (m : wm) (H : Heap) (locs : List Loc) (ls : Array Slot), qf_X3_acts_18 n x1 m = some m9 → qw_P L (qw_u1 M 9 m) h H → va_S (qw_A L) s.heap H locs → lv_has ls 2 [(0, .ref (qw_ad L 9 0)), (1, .int x1)] → W p l e rm_X3_acts s mi args below meth co H locs 0 0 Q (F0 mi 18 ls []) := by
  intro n
  induction n with
  | zero =>
    intro x1 m H locs ls hf hP hS hl
    rw [qf_X3_acts_18] at hf
    cases hf
  | succ n ih =>
    intro x1 m H locs ls hf hP hS hl
    rw [qf_X3_acts_18] at hf
    refine lv_iload_n F.1 F.2.1 dX3_acts_18 rfl (lv_at hl 1 rfl) ?_
    refine lv_sipush (v := (nI 3740)) F.1 F.2.1 dX3_acts_19 (by decide) ?_
    refine lv_icmp_ge (tgt := 47) F.1 F.2.1 dX3_acts_22 (by decide) (fun c1 => ?_) (fun c1 => ?_)
    · replace hf := qi_t c1 hf
      exact qb_X3_acts_47 F G hv hQ _ _ _ _ hf hP hS (lv_sub hl [0] rfl)
    · replace hf := qi_f c1 hf
      refine lv_aload_n F.1 F.2.1 dX3_acts_25 rfl (lv_at hl 0 rfl) ?_
      refine qr_gMr F G hv (fun w h => F.2.2.2.2 w (List.mem_cons_of_mem _ (List.mem_append_right _ h))) hP 1 2 (by decide) (List.mem_of_getElem? (i := 3) rfl) dX3_acts_26 ?_
      refine lv_iload_n F.1 F.2.1 dX3_acts_29 rfl (lv_at hl 1 rfl) ?_
      refine lv_aload_n F.1 F.2.1 dX3_acts_30 rfl (lv_at hl 0 rfl) ?_
      refine qr_gMr F G hv (fun w h => F.2.2.2.2 w (List.mem_cons_of_mem _ (List.mem_append_right _ h))) hP 1 2 (by decide) (List.mem_of_getElem? (i := 3) rfl) dX3_acts_31 ?_
      refine lv_iload_n F.1 F.2.1 dX3_acts_34 rfl (lv_at hl 1 rfl) ?_
      refine lv_sipush (v := (nI 935)) F.1 F.2.1 dX3_acts_35 (by decide) ?_
      obtain ⟨z2, ez2, hf⟩ := qn_x hf
      refine qr_iadd F ez2 dX3_acts_38 ?_
      obtain ⟨g4, hf⟩ := qg_x hf
      obtain ⟨z3, ez3, hf⟩ := qn_x hf
      refine qr_ald F G hP (qw_u1s _ _ _) (qw_I9 (c := 2) (n := 4675) hv (by decide)) g4 rfl ez3 dX3_acts_39 ?_
      obtain ⟨g5, hf⟩ := qg_x hf
      obtain ⟨m6, em6, hf⟩ := qn_x hf
      refine qr_ast F G hP hS (qw_u1s _ _ _) (qw_I9 (c := 2) (n := 4675) hv (by decide)) g5 rfl (qw_fx em6) dX3_acts_40 (fun H locs hP hS => ?_)
      obtain ⟨z7, ez7, hf⟩ := qn_x hf
      refine lv_iinc (v := z7) (lv' := [(1, .int z7), (0, .ref (qw_ad L 9 0))]) F.1 F.2.1 dX3_acts_41 hl (k := 1) rfl ((qw_ii1 _).trans ez7.symm) (by decide) rfl (fun ls hl => ?_)
      refine lv_goto (tgt := 18) F.1 F.2.1 dX3_acts_44 (by decide) ?_
      exact ih _ _ _ _ _ hf hP hS (lv_sub hl [1, 0] rfl)
set_option maxRecDepth 100000 in
set_option maxHeartbeats 4000000 in
theorem qb_X3_acts {p : Program} {l : Launch} {e : Env} {s : State} {mi : MethodId} {args : Array Value} {below : List Frame} {meth : Method} {co : Code} {Q : State → Prop} {L : wL} {M : wM} {h : Nat → Nat} {m9 : wm} (F : CallFix p mi co cX3_acts 2 s args wsX3_acts RX3) (G : qw_G L (qw_A L) s) (hv : qw_9 L) (hQ : qw_RV p l e rm_X3_acts s mi args below meth co cX3_acts Q L (qw_u1 M 9 m9) h) : ∀ (m : wm) (H : Heap) (locs : List Loc) (ls : Array Slot), qf_X3_acts m = some m9 → qw_P L (qw_u1 M 9 m) h H → va_S (qw_A L) s.heap H locs → lv_has ls 2 [(0, .ref (qw_ad L 9 0))] → W p l e rm_X3_acts s mi args below meth co H locs 0 0 Q (F0 mi 0 ls []) := by
  intro m H locs ls hf hP hS hl
  unfold qf_X3_acts at hf
  refine lv_aload_n F.1 F.2.1 dX3_acts_0 rfl (lv_at hl 0 rfl) ?_
  obtain ⟨z1, ez1, hf⟩ := qn_x hf
  refine qr_gM F G hv (fun w h => F.2.2.2.2 w (List.mem_cons_of_mem _ (List.mem_append_right _ h))) hP (qw_u1s _ _ _) 4 (by decide) (List.mem_of_getElem? (i := 1) rfl) ez1 dX3_acts_1 ?_
  refine lv_if_eq (tgt := 8) F.1 F.2.1 dX3_acts_4 (by decide) (fun c2 => ?_) (fun c2 => ?_)
  · replace hf := qi_t c2 hf
    refine lv_aload_n F.1 F.2.1 dX3_acts_8 rfl (lv_at hl 0 rfl) ?_
    obtain ⟨z3, ez3, hf⟩ := qn_x hf
    refine qr_gM F G hv (fun w h => F.2.2.2.2 w (List.mem_cons_of_mem _ (List.mem_append_right _ h))) hP (qw_u1s _ _ _) 3 (by decide) (List.mem_of_getElem? (i := 2) rfl) ez3 dX3_acts_9 ?_
    refine lv_iconst (v := (nI 5)) F.1 F.2.1 dX3_acts_12 (by decide) ?_
    refine lv_icmp_ne (tgt := 57) F.1 F.2.1 dX3_acts_13 (by decide) (fun c4 => ?_) (fun c4 => ?_)
    · replace hf := qi_f c4 hf
      exact qb_X3_acts_57 F G hv hQ _ _ _ _ hf hP hS (lv_sub hl [0] rfl)
    · replace hf := qi_t c4 hf
      refine lv_iconst (v := (nI 0)) F.1 F.2.1 dX3_acts_16 (by decide) ?_
      refine lv_istore_n (lv' := [(1, .int (nI 0)), (0, .ref (qw_ad L 9 0))]) F.1 F.2.1 dX3_acts_17 rfl hl (by decide) rfl (fun ls hl => ?_)
      exact qb_X3_acts_18 F G hv hQ _ _ _ _ _ _ hf hP hS (lv_sub hl [1, 0] rfl)
  · replace hf := qi_f c2 hf
    have e8 := qs1 hf
    subst e8
    exact hQ _ _ _ _ hP hS dX3_acts_7
set_option maxRecDepth 100000 in
set_option maxHeartbeats 4000000 in
theorem qc_X3_acts (l : Launch) {L : wL} (hJ : qw_J L) {X X9 : wM} {h : Nat → Nat} {m m9 : wm} (hX : X 9 = m) (hX9 : qw_u1 X 9 m9 = X9) (hv : qw_9 L) (hf : qf_X3_acts m = some m9) : qw_MV l yX3_acts wsX3_acts rm_X3_acts L (.ref (qw_ad L 9 0) :: []) X h X9 h := by
  subst hX
  subst hX9
  refine qw_MV_of (cc := cX3_acts) (maxL := 2) (by decide) rfl hJ (Nat.le_of_ble_eq_true rfl) ?_
  intro p e s mi below meth co Q ls F G hP hQ hl
  exact qb_X3_acts F G hv hQ _ _ _ _ hf (by rw [qw_u1i]; exact hP) va_S.rf hl
def rm_X3_begins : Room := { frames := 0, cells := 0, slots := 0, locals := 0 }
theorem e_X3_begins : qw_hd yX3_begins RX3 1 := by decide +kernel
set_option maxRecDepth 100000 in
set_option maxHeartbeats 4000000 in
theorem qb_X3_begins_58 {p : Program} {l : Launch} {e : Env} {s : State} {mi : MethodId} {args : Array Value} {below : List Frame} {meth : Method} {co : Code} {Q : State → Prop} {L : wL} {M : wM} {h : Nat → Nat} {m9 : wm} (F : CallFix p mi co cX3_begins 4 s args wsX3_begins RX3) (G : qw_G L (qw_A L) s) (hv : qw_9 L) (hQ : qw_RV p l e rm_X3_begins s mi args below meth co cX3_begins Q L (qw_u1 M 9 m9) h) : ∀ (n : Nat) (x3 : Int32) (m : wm) (H : Heap) (locs : List Loc) (ls : Array Slot), qf_X3_begins_58 n x3 m = some m9 → qw_P L (qw_u1 M 9 m) h H → va_S (qw_A L) s.heap H locs → lv_has ls 4 [(0, .ref (qw_ad L 9 0)), (3, .int x3)] → W p l e rm_X3_begins s mi args below meth co H locs 0 0 Q (F0 mi 58 ls []) := by
  intro n
  induction n with
  | zero =>
    intro x3 m H locs ls hf hP hS hl
    rw [qf_X3_begins_58] at hf
    cases hf
  | succ n ih =>
    intro x3 m H locs ls hf hP hS hl
    rw [qf_X3_begins_58] at hf
    refine lv_iload_n F.1 F.2.1 dX3_begins_58 rfl (lv_at hl 1 rfl) ?_
    refine lv_bipush (v := (nI 16)) F.1 F.2.1 dX3_begins_59 (by decide) ?_
    refine lv_icmp_ge (tgt := 102) F.1 F.2.1 dX3_begins_61 (by decide) (fun c1 => ?_) (fun c1 => ?_)
    · replace hf := qi_t c1 hf
      have e8 := qs1 hf
      subst e8
      exact hQ _ _ _ _ hP hS dX3_begins_102
    · replace hf := qi_f c1 hf
      refine lv_aload_n F.1 F.2.1 dX3_begins_64 rfl (lv_at hl 0 rfl) ?_
      refine qr_gMr F G hv (fun w h => F.2.2.2.2 w (List.mem_cons_of_mem _ (List.mem_append_right _ h))) hP 0 1 (by decide) (List.mem_of_getElem? (i := 1) rfl) dX3_begins_65 ?_
      refine lv_sipush (v := (nI 215)) F.1 F.2.1 dX3_begins_68 (by decide) ?_
      refine lv_iconst (v := (nI 3)) F.1 F.2.1 dX3_begins_71 (by decide) ?_
      refine lv_iload_n F.1 F.2.1 dX3_begins_72 rfl (lv_at hl 1 rfl) ?_
      obtain ⟨z2, ez2, hf⟩ := qn_x hf
      refine qr_imul F ez2 dX3_begins_73 ?_
      obtain ⟨z3, ez3, hf⟩ := qn_x hf
      refine qr_iadd F ez3 dX3_begins_74 ?_
      refine lv_iconst (v := (nI 0)) F.1 F.2.1 dX3_begins_75 (by decide) ?_
      obtain ⟨z4, ez4, hf⟩ := qn_x hf
      refine qr_iadd F ez4 dX3_begins_76 ?_
      refine lv_bipush (v := (-9 : Int32)) F.1 F.2.1 dX3_begins_77 (by decide) ?_
      obtain ⟨g5, hf⟩ := qg_x hf
      obtain ⟨m6, em6, hf⟩ := qn_x hf
      refine qr_ast F G hP hS (qw_u1s _ _ _) (qw_I9 (c := 1) (n := 935) hv (by decide)) g5 rfl (qw_fx em6) dX3_begins_79 (fun H locs hP hS => ?_)
      refine lv_aload_n F.1 F.2.1 dX3_begins_80 rfl (lv_at hl 0 rfl) ?_
      refine qr_gMr F G hv (fun w h => F.2.2.2.2 w (List.mem_cons_of_mem _ (List.mem_append_right _ h))) hP 0 1 (by decide) (List.mem_of_getElem? (i := 1) rfl) dX3_begins_81 ?_
      refine lv_sipush (v := (nI 215)) F.1 F.2.1 dX3_begins_84 (by decide) ?_
      refine lv_iconst (v := (nI 3)) F.1 F.2.1 dX3_begins_87 (by decide) ?_
      refine lv_iload_n F.1 F.2.1 dX3_begins_88 rfl (lv_at hl 1 rfl) ?_
      obtain ⟨z7, ez7, hf⟩ := qn_x hf
      refine qr_imul F ez7 dX3_begins_89 ?_
      obtain ⟨z8, ez8, hf⟩ := qn_x hf
      refine qr_iadd F ez8 dX3_begins_90 ?_
      refine lv_iconst (v := (nI 1)) F.1 F.2.1 dX3_begins_91 (by decide) ?_
      obtain ⟨z9, ez9, hf⟩ := qn_x hf
      refine qr_iadd F ez9 dX3_begins_92 ?_
      refine lv_bipush (v := (-9 : Int32)) F.1 F.2.1 dX3_begins_93 (by decide) ?_
      obtain ⟨g10, hf⟩ := qg_x hf
      obtain ⟨m11, em11, hf⟩ := qn_x hf
      refine qr_ast F G hP hS (qw_u1s _ _ _) (qw_I9 (c := 1) (n := 935) hv (by decide)) g10 rfl (qw_fx em11) dX3_begins_95 (fun H locs hP hS => ?_)
      obtain ⟨z12, ez12, hf⟩ := qn_x hf
      refine lv_iinc (v := z12) (lv' := [(3, .int z12), (0, .ref (qw_ad L 9 0))]) F.1 F.2.1 dX3_begins_96 hl (k := 1) rfl ((qw_ii1 _).trans ez12.symm) (by decide) rfl (fun ls hl => ?_)
      refine lv_goto (tgt := 58) F.1 F.2.1 dX3_begins_99 (by decide) ?_
      exact ih _ _ _ _ _ hf hP hS (lv_sub hl [1, 0] rfl)
set_option maxRecDepth 100000 in
set_option maxHeartbeats 4000000 in
theorem qb_X3_begins_30 {p : Program} {l : Launch} {e : Env} {s : State} {mi : MethodId} {args : Array Value} {below : List Frame} {meth : Method} {co : Code} {Q : State → Prop} {L : wL} {M : wM} {h : Nat → Nat} {m9 : wm} (F : CallFix p mi co cX3_begins 4 s args wsX3_begins RX3) (G : qw_G L (qw_A L) s) (hv : qw_9 L) (hQ : qw_RV p l e rm_X3_begins s mi args below meth co cX3_begins Q L (qw_u1 M 9 m9) h) : ∀ (x1 : Int32) (x2 : Int32) (m : wm) (H : Heap) (locs : List Loc) (ls : Array Slot), qf_X3_begins_30 x1 x2 m = some m9 → qw_P L (qw_u1 M 9 m) h H → va_S (qw_A L) s.heap H locs → lv_has ls 4 [(0, .ref (qw_ad L 9 0)), (1, .int x1), (2, .int x2)] → W p l e rm_X3_begins s mi args below meth co H locs 0 0 Q (F0 mi 30 ls []) := by
  intro x1 x2 m H locs ls hf hP hS hl
  unfold qf_X3_begins_30 at hf
  refine lv_aload_n F.1 F.2.1 dX3_begins_30 rfl (lv_at hl 0 rfl) ?_
  refine qr_gMr F G hv (fun w h => F.2.2.2.2 w (List.mem_cons_of_mem _ (List.mem_append_right _ h))) hP 0 1 (by decide) (List.mem_of_getElem? (i := 1) rfl) dX3_begins_31 ?_
  refine lv_bipush (v := (nI 14)) F.1 F.2.1 dX3_begins_34 (by decide) ?_
  refine lv_iload_n F.1 F.2.1 dX3_begins_36 rfl (lv_at hl 2 rfl) ?_
  obtain ⟨m1, em1, hf⟩ := qn_x hf
  refine qr_ast F G hP hS (qw_u1s _ _ _) (qw_I9 (c := 1) (n := 935) hv (by decide)) (by unfold vp_in; decide) (by decide) (qw_fx em1) dX3_begins_37 (fun H locs hP hS => ?_)
  refine lv_aload_n F.1 F.2.1 dX3_begins_38 rfl (lv_at hl 0 rfl) ?_
  refine qr_gMr F G hv (fun w h => F.2.2.2.2 w (List.mem_cons_of_mem _ (List.mem_append_right _ h))) hP 0 1 (by decide) (List.mem_of_getElem? (i := 1) rfl) dX3_begins_39 ?_
  refine lv_bipush (v := (nI 11)) F.1 F.2.1 dX3_begins_42 (by decide) ?_
  refine lv_iload_n F.1 F.2.1 dX3_begins_44 rfl (lv_at hl 1 rfl) ?_
  obtain ⟨m2, em2, hf⟩ := qn_x hf
  refine qr_ast F G hP hS (qw_u1s _ _ _) (qw_I9 (c := 1) (n := 935) hv (by decide)) (by unfold vp_in; decide) (by decide) (qw_fx em2) dX3_begins_45 (fun H locs hP hS => ?_)
  refine lv_aload_n F.1 F.2.1 dX3_begins_46 rfl (lv_at hl 0 rfl) ?_
  refine qr_gMr F G hv (fun w h => F.2.2.2.2 w (List.mem_cons_of_mem _ (List.mem_append_right _ h))) hP 0 1 (by decide) (List.mem_of_getElem? (i := 1) rfl) dX3_begins_47 ?_
  refine lv_bipush (v := (nI 12)) F.1 F.2.1 dX3_begins_50 (by decide) ?_
  refine lv_iload_n F.1 F.2.1 dX3_begins_52 rfl (lv_at hl 1 rfl) ?_
  refine lv_iconst (v := (nI 1)) F.1 F.2.1 dX3_begins_53 (by decide) ?_
  obtain ⟨z3, ez3, hf⟩ := qn_x hf
  refine qr_isub F ez3 dX3_begins_54 ?_
  obtain ⟨m4, em4, hf⟩ := qn_x hf
  refine qr_ast F G hP hS (qw_u1s _ _ _) (qw_I9 (c := 1) (n := 935) hv (by decide)) (by unfold vp_in; decide) (by decide) (qw_fx em4) dX3_begins_55 (fun H locs hP hS => ?_)
  refine lv_iconst (v := (nI 0)) F.1 F.2.1 dX3_begins_56 (by decide) ?_
  refine lv_istore_n (lv' := [(3, .int (nI 0)), (0, .ref (qw_ad L 9 0)), (1, .int x1), (2, .int x2)]) F.1 F.2.1 dX3_begins_57 rfl hl (by decide) rfl (fun ls hl => ?_)
  exact qb_X3_begins_58 F G hv hQ _ _ _ _ _ _ hf hP hS (lv_sub hl [1, 0] rfl)
set_option maxRecDepth 100000 in
set_option maxHeartbeats 4000000 in
theorem qb_X3_begins_10 {p : Program} {l : Launch} {e : Env} {s : State} {mi : MethodId} {args : Array Value} {below : List Frame} {meth : Method} {co : Code} {Q : State → Prop} {L : wL} {M : wM} {h : Nat → Nat} {m9 : wm} (F : CallFix p mi co cX3_begins 4 s args wsX3_begins RX3) (G : qw_G L (qw_A L) s) (hv : qw_9 L) (hQ : qw_RV p l e rm_X3_begins s mi args below meth co cX3_begins Q L (qw_u1 M 9 m9) h) : ∀ (n : Nat) (x1 : Int32) (x2 : Int32) (x3 : Int32) (m : wm) (H : Heap) (locs : List Loc) (ls : Array Slot), qf_X3_begins_10 n x1 x2 x3 m = some m9 → qw_P L (qw_u1 M 9 m) h H → va_S (qw_A L) s.heap H locs → lv_has ls 4 [(0, .ref (qw_ad L 9 0)), (1, .int x1), (2, .int x2), (3, .int x3)] → W p l e rm_X3_begins s mi args below meth co H locs 0 0 Q (F0 mi 10 ls []) := by
  intro n
  induction n with
  | zero =>
    intro x1 x2 x3 m H locs ls hf hP hS hl
    rw [qf_X3_begins_10] at hf
    cases hf
  | succ n ih =>
    intro x1 x2 x3 m H locs ls hf hP hS hl
    rw [qf_X3_begins_10] at hf
    refine lv_iload_n F.1 F.2.1 dX3_begins_10 rfl (lv_at hl 3 rfl) ?_
    refine lv_sipush (v := (nI 935)) F.1 F.2.1 dX3_begins_11 (by decide) ?_
    refine lv_icmp_ge (tgt := 30) F.1 F.2.1 dX3_begins_14 (by decide) (fun c1 => ?_) (fun c1 => ?_)
    · replace hf := qi_t c1 hf
      exact qb_X3_begins_30 F G hv hQ _ _ _ _ _ _ hf hP hS (lv_sub hl [0, 1, 2] rfl)
    · replace hf := qi_f c1 hf
      refine lv_aload_n F.1 F.2.1 dX3_begins_17 rfl (lv_at hl 0 rfl) ?_
      refine qr_gMr F G hv (fun w h => F.2.2.2.2 w (List.mem_cons_of_mem _ (List.mem_append_right _ h))) hP 0 1 (by decide) (List.mem_of_getElem? (i := 1) rfl) dX3_begins_18 ?_
      refine lv_iload_n F.1 F.2.1 dX3_begins_21 rfl (lv_at hl 3 rfl) ?_
      refine lv_iconst (v := (nI 0)) F.1 F.2.1 dX3_begins_22 (by decide) ?_
      obtain ⟨g2, hf⟩ := qg_x hf
      obtain ⟨m3, em3, hf⟩ := qn_x hf
      refine qr_ast F G hP hS (qw_u1s _ _ _) (qw_I9 (c := 1) (n := 935) hv (by decide)) g2 rfl (qw_fx em3) dX3_begins_23 (fun H locs hP hS => ?_)
      obtain ⟨z4, ez4, hf⟩ := qn_x hf
      refine lv_iinc (v := z4) (lv' := [(3, .int z4), (0, .ref (qw_ad L 9 0)), (1, .int x1), (2, .int x2)]) F.1 F.2.1 dX3_begins_24 hl (k := 3) rfl ((qw_ii1 _).trans ez4.symm) (by decide) rfl (fun ls hl => ?_)
      refine lv_goto (tgt := 10) F.1 F.2.1 dX3_begins_27 (by decide) ?_
      exact ih _ _ _ _ _ _ _ hf hP hS (lv_sub hl [1, 2, 3, 0] rfl)
set_option maxRecDepth 100000 in
set_option maxHeartbeats 4000000 in
theorem qb_X3_begins {p : Program} {l : Launch} {e : Env} {s : State} {mi : MethodId} {args : Array Value} {below : List Frame} {meth : Method} {co : Code} {Q : State → Prop} {L : wL} {M : wM} {h : Nat → Nat} {m9 : wm} (F : CallFix p mi co cX3_begins 4 s args wsX3_begins RX3) (G : qw_G L (qw_A L) s) (hv : qw_9 L) (hQ : qw_RV p l e rm_X3_begins s mi args below meth co cX3_begins Q L (qw_u1 M 9 m9) h) : ∀ (x1 : Int32) (m : wm) (H : Heap) (locs : List Loc) (ls : Array Slot), qf_X3_begins x1 m = some m9 → qw_P L (qw_u1 M 9 m) h H → va_S (qw_A L) s.heap H locs → lv_has ls 4 [(0, .ref (qw_ad L 9 0)), (1, .int x1)] → W p l e rm_X3_begins s mi args below meth co H locs 0 0 Q (F0 mi 0 ls []) := by
  intro x1 m H locs ls hf hP hS hl
  unfold qf_X3_begins at hf
  refine lv_aload_n F.1 F.2.1 dX3_begins_0 rfl (lv_at hl 0 rfl) ?_
  refine qr_gMr F G hv (fun w h => F.2.2.2.2 w (List.mem_cons_of_mem _ (List.mem_append_right _ h))) hP 0 1 (by decide) (List.mem_of_getElem? (i := 1) rfl) dX3_begins_1 ?_
  refine lv_bipush (v := (nI 14)) F.1 F.2.1 dX3_begins_4 (by decide) ?_
  obtain ⟨z1, ez1, hf⟩ := qn_x hf
  refine qr_ald F G hP (qw_u1s _ _ _) (qw_I9 (c := 1) (n := 935) hv (by decide)) (by unfold vp_in; decide) (by decide) ez1 dX3_begins_6 ?_
  refine lv_istore_n (lv' := [(2, .int z1), (0, .ref (qw_ad L 9 0)), (1, .int x1)]) F.1 F.2.1 dX3_begins_7 rfl hl (by decide) rfl (fun ls hl => ?_)
  refine lv_iconst (v := (nI 0)) F.1 F.2.1 dX3_begins_8 (by decide) ?_
  refine lv_istore_n (lv' := [(3, .int (nI 0)), (2, .int z1), (0, .ref (qw_ad L 9 0)), (1, .int x1)]) F.1 F.2.1 dX3_begins_9 rfl hl (by decide) rfl (fun ls hl => ?_)
  exact qb_X3_begins_10 F G hv hQ _ _ _ _ _ _ _ _ hf hP hS (lv_sub hl [2, 3, 1, 0] rfl)
set_option maxRecDepth 100000 in
set_option maxHeartbeats 4000000 in
theorem qc_X3_begins (l : Launch) {L : wL} (hJ : qw_J L) {X X9 : wM} {h : Nat → Nat} {m m9 : wm} (hX : X 9 = m) (hX9 : qw_u1 X 9 m9 = X9) {x1 : Int32} (hv : qw_9 L) (hf : qf_X3_begins x1 m = some m9) : qw_MV l yX3_begins wsX3_begins rm_X3_begins L (.ref (qw_ad L 9 0) :: [.int x1]) X h X9 h := by
  subst hX
  subst hX9
  refine qw_MV_of (cc := cX3_begins) (maxL := 4) (by decide) rfl hJ (Nat.le_of_ble_eq_true rfl) ?_
  intro p e s mi below meth co Q ls F G hP hQ hl
  exact qb_X3_begins F G hv hQ _ _ _ _ _ hf (by rw [qw_u1i]; exact hP) va_S.rf hl
def rm_X3_ofFrame : Room := { frames := 0, cells := 0, slots := 0, locals := 0 }
theorem e_X3_ofFrame : qw_hd yX3_ofFrame RX3 2 := by decide +kernel
set_option maxRecDepth 100000 in
set_option maxHeartbeats 4000000 in
theorem qb_X3_ofFrame {p : Program} {l : Launch} {e : Env} {s : State} {mi : MethodId} {args : Array Value} {below : List Frame} {meth : Method} {co : Code} {Q : State → Prop} {L : wL} {M : wM} {h : Nat → Nat} {r : Int32} {m : wm} (F : CallFix p mi co cX3_ofFrame 3 s args wsX3_ofFrame RX3) (G : qw_G L (qw_A L) s) (hv : qw_9 L) (hQ : qw_RI p l e rm_X3_ofFrame s mi args below meth co cX3_ofFrame .int Q L r (qw_u1 M 9 m) h) : ∀ (x1 : Int32) (x2 : Int32) (H : Heap) (locs : List Loc) (ls : Array Slot), qf_X3_ofFrame x1 x2 m = some r → qw_P L (qw_u1 M 9 m) h H → va_S (qw_A L) s.heap H locs → lv_has ls 3 [(0, .ref (qw_ad L 9 0)), (1, .int x1), (2, .int x2)] → W p l e rm_X3_ofFrame s mi args below meth co H locs 0 0 Q (F0 mi 0 ls []) := by
  intro x1 x2 H locs ls hf hP hS hl
  unfold qf_X3_ofFrame at hf
  refine lv_aload_n F.1 F.2.1 dX3_ofFrame_0 rfl (lv_at hl 0 rfl) ?_
  refine qr_gMr F G hv (fun w h => F.2.2.2.2 w (List.mem_cons_of_mem _ (List.mem_append_right _ h))) hP 0 1 (by decide) (List.mem_of_getElem? (i := 1) rfl) dX3_ofFrame_1 ?_
  refine lv_bipush (v := (nI 15)) F.1 F.2.1 dX3_ofFrame_4 (by decide) ?_
  refine lv_iconst (v := (nI 5)) F.1 F.2.1 dX3_ofFrame_6 (by decide) ?_
  refine lv_iload_n F.1 F.2.1 dX3_ofFrame_7 rfl (lv_at hl 1 rfl) ?_
  obtain ⟨z1, ez1, hf⟩ := qn_x hf
  refine qr_imul F ez1 dX3_ofFrame_8 ?_
  obtain ⟨z2, ez2, hf⟩ := qn_x hf
  refine qr_iadd F ez2 dX3_ofFrame_9 ?_
  refine lv_iload_n F.1 F.2.1 dX3_ofFrame_10 rfl (lv_at hl 2 rfl) ?_
  obtain ⟨z3, ez3, hf⟩ := qn_x hf
  refine qr_iadd F ez3 dX3_ofFrame_11 ?_
  obtain ⟨g5, hf⟩ := qg_x hf
  obtain ⟨z4, ez4, hf⟩ := qn_x hf
  refine qr_ald F G hP (qw_u1s _ _ _) (qw_I9 (c := 1) (n := 935) hv (by decide)) g5 rfl ez4 dX3_ofFrame_12 ?_
  have e9 := qs1 hf
  subst e9
  exact hQ _ _ _ _ hP hS rfl dX3_ofFrame_13
set_option maxRecDepth 100000 in
set_option maxHeartbeats 4000000 in
theorem qc_X3_ofFrame (l : Launch) {L : wL} (hJ : qw_J L) {X : wM} {h : Nat → Nat} {m : wm} (hX : X 9 = m) {x1 x2 : Int32} {r : Int32} (hv : qw_9 L) (hf : qf_X3_ofFrame x1 x2 m = some r) : qw_MI l yX3_ofFrame wsX3_ofFrame rm_X3_ofFrame L (.ref (qw_ad L 9 0) :: [.int x1, .int x2]) X h r X h := by
  subst hX
  refine qw_MI_of (cc := cX3_ofFrame) (maxL := 3) (ty := .int) (by decide) rfl hJ (Nat.le_of_ble_eq_true rfl) ?_
  intro p e s mi below meth co Q ls F G hP hQ hl
  exact qb_X3_ofFrame F G hv (by rw [qw_u1i]; exact hQ) _ _ _ _ _ hf (by rw [qw_u1i]; exact hP) va_S.rf hl
def rm_X3_ofSlot : Room := { frames := 0, cells := 0, slots := 0, locals := 0 }
theorem e_X3_ofSlot : qw_hd yX3_ofSlot RX3 2 := by decide +kernel
set_option maxRecDepth 100000 in
set_option maxHeartbeats 4000000 in
theorem qb_X3_ofSlot {p : Program} {l : Launch} {e : Env} {s : State} {mi : MethodId} {args : Array Value} {below : List Frame} {meth : Method} {co : Code} {Q : State → Prop} {L : wL} {M : wM} {h : Nat → Nat} {r : Int32} {m : wm} (F : CallFix p mi co cX3_ofSlot 3 s args wsX3_ofSlot RX3) (G : qw_G L (qw_A L) s) (hv : qw_9 L) (hQ : qw_RI p l e rm_X3_ofSlot s mi args below meth co cX3_ofSlot .int Q L r (qw_u1 M 9 m) h) : ∀ (x1 : Int32) (x2 : Int32) (H : Heap) (locs : List Loc) (ls : Array Slot), qf_X3_ofSlot x1 x2 m = some r → qw_P L (qw_u1 M 9 m) h H → va_S (qw_A L) s.heap H locs → lv_has ls 3 [(0, .ref (qw_ad L 9 0)), (1, .int x1), (2, .int x2)] → W p l e rm_X3_ofSlot s mi args below meth co H locs 0 0 Q (F0 mi 0 ls []) := by
  intro x1 x2 H locs ls hf hP hS hl
  unfold qf_X3_ofSlot at hf
  refine lv_aload_n F.1 F.2.1 dX3_ofSlot_0 rfl (lv_at hl 0 rfl) ?_
  refine qr_gMr F G hv (fun w h => F.2.2.2.2 w (List.mem_cons_of_mem _ (List.mem_append_right _ h))) hP 0 1 (by decide) (List.mem_of_getElem? (i := 1) rfl) dX3_ofSlot_1 ?_
  refine lv_sipush (v := (nI 215)) F.1 F.2.1 dX3_ofSlot_4 (by decide) ?_
  refine lv_iconst (v := (nI 3)) F.1 F.2.1 dX3_ofSlot_7 (by decide) ?_
  refine lv_iload_n F.1 F.2.1 dX3_ofSlot_8 rfl (lv_at hl 1 rfl) ?_
  obtain ⟨z1, ez1, hf⟩ := qn_x hf
  refine qr_imul F ez1 dX3_ofSlot_9 ?_
  obtain ⟨z2, ez2, hf⟩ := qn_x hf
  refine qr_iadd F ez2 dX3_ofSlot_10 ?_
  refine lv_iload_n F.1 F.2.1 dX3_ofSlot_11 rfl (lv_at hl 2 rfl) ?_
  obtain ⟨z3, ez3, hf⟩ := qn_x hf
  refine qr_iadd F ez3 dX3_ofSlot_12 ?_
  obtain ⟨g5, hf⟩ := qg_x hf
  obtain ⟨z4, ez4, hf⟩ := qn_x hf
  refine qr_ald F G hP (qw_u1s _ _ _) (qw_I9 (c := 1) (n := 935) hv (by decide)) g5 rfl ez4 dX3_ofSlot_13 ?_
  have e9 := qs1 hf
  subst e9
  exact hQ _ _ _ _ hP hS rfl dX3_ofSlot_14
set_option maxRecDepth 100000 in
set_option maxHeartbeats 4000000 in
theorem qc_X3_ofSlot (l : Launch) {L : wL} (hJ : qw_J L) {X : wM} {h : Nat → Nat} {m : wm} (hX : X 9 = m) {x1 x2 : Int32} {r : Int32} (hv : qw_9 L) (hf : qf_X3_ofSlot x1 x2 m = some r) : qw_MI l yX3_ofSlot wsX3_ofSlot rm_X3_ofSlot L (.ref (qw_ad L 9 0) :: [.int x1, .int x2]) X h r X h := by
  subst hX
  refine qw_MI_of (cc := cX3_ofSlot) (maxL := 3) (ty := .int) (by decide) rfl hJ (Nat.le_of_ble_eq_true rfl) ?_
  intro p e s mi below meth co Q ls F G hP hQ hl
  exact qb_X3_ofSlot F G hv (by rw [qw_u1i]; exact hQ) _ _ _ _ _ hf (by rw [qw_u1i]; exact hP) va_S.rf hl
def rm_X3_notes : Room := { frames := 0, cells := 0, slots := 0, locals := 0 }
theorem e_X3_notes : qw_hd yX3_notes RX3 2 := by decide +kernel
set_option maxRecDepth 100000 in
set_option maxHeartbeats 4000000 in
theorem qb_X3_notes {p : Program} {l : Launch} {e : Env} {s : State} {mi : MethodId} {args : Array Value} {below : List Frame} {meth : Method} {co : Code} {Q : State → Prop} {L : wL} {M : wM} {h : Nat → Nat} {m9 : wm} (F : CallFix p mi co cX3_notes 3 s args wsX3_notes RX3) (G : qw_G L (qw_A L) s) (hv : qw_9 L) (hQ : qw_RV p l e rm_X3_notes s mi args below meth co cX3_notes Q L (qw_u1 M 9 m9) h) : ∀ (x1 : Int32) (x2 : Int32) (m : wm) (H : Heap) (locs : List Loc) (ls : Array Slot), qf_X3_notes x1 x2 m = some m9 → qw_P L (qw_u1 M 9 m) h H → va_S (qw_A L) s.heap H locs → lv_has ls 3 [(0, .ref (qw_ad L 9 0)), (1, .int x1), (2, .int x2)] → W p l e rm_X3_notes s mi args below meth co H locs 0 0 Q (F0 mi 0 ls []) := by
  intro x1 x2 m H locs ls hf hP hS hl
  unfold qf_X3_notes at hf
  refine lv_aload_n F.1 F.2.1 dX3_notes_0 rfl (lv_at hl 0 rfl) ?_
  refine qr_gMr F G hv (fun w h => F.2.2.2.2 w (List.mem_cons_of_mem _ (List.mem_append_right _ h))) hP 0 1 (by decide) (List.mem_of_getElem? (i := 1) rfl) dX3_notes_1 ?_
  refine lv_sipush (v := (nI 335)) F.1 F.2.1 dX3_notes_4 (by decide) ?_
  refine lv_iconst (v := (nI 2)) F.1 F.2.1 dX3_notes_7 (by decide) ?_
  refine lv_aload_n F.1 F.2.1 dX3_notes_8 rfl (lv_at hl 0 rfl) ?_
  refine qr_gMr F G hv (fun w h => F.2.2.2.2 w (List.mem_cons_of_mem _ (List.mem_append_right _ h))) hP 0 1 (by decide) (List.mem_of_getElem? (i := 1) rfl) dX3_notes_9 ?_
  refine lv_iconst (v := (nI 1)) F.1 F.2.1 dX3_notes_12 (by decide) ?_
  obtain ⟨z1, ez1, hf⟩ := qn_x hf
  refine qr_ald F G hP (qw_u1s _ _ _) (qw_I9 (c := 1) (n := 935) hv (by decide)) (by unfold vp_in; decide) (by decide) ez1 dX3_notes_13 ?_
  obtain ⟨z2, ez2, hf⟩ := qn_x hf
  refine qr_imul F ez2 dX3_notes_14 ?_
  obtain ⟨z3, ez3, hf⟩ := qn_x hf
  refine qr_iadd F ez3 dX3_notes_15 ?_
  refine lv_iload_n F.1 F.2.1 dX3_notes_16 rfl (lv_at hl 1 rfl) ?_
  obtain ⟨g4, hf⟩ := qg_x hf
  obtain ⟨m5, em5, hf⟩ := qn_x hf
  refine qr_ast F G hP hS (qw_u1s _ _ _) (qw_I9 (c := 1) (n := 935) hv (by decide)) g4 rfl (qw_fx em5) dX3_notes_17 (fun H locs hP hS => ?_)
  refine lv_aload_n F.1 F.2.1 dX3_notes_18 rfl (lv_at hl 0 rfl) ?_
  refine qr_gMr F G hv (fun w h => F.2.2.2.2 w (List.mem_cons_of_mem _ (List.mem_append_right _ h))) hP 0 1 (by decide) (List.mem_of_getElem? (i := 1) rfl) dX3_notes_19 ?_
  refine lv_sipush (v := (nI 335)) F.1 F.2.1 dX3_notes_22 (by decide) ?_
  refine lv_iconst (v := (nI 2)) F.1 F.2.1 dX3_notes_25 (by decide) ?_
  refine lv_aload_n F.1 F.2.1 dX3_notes_26 rfl (lv_at hl 0 rfl) ?_
  refine qr_gMr F G hv (fun w h => F.2.2.2.2 w (List.mem_cons_of_mem _ (List.mem_append_right _ h))) hP 0 1 (by decide) (List.mem_of_getElem? (i := 1) rfl) dX3_notes_27 ?_
  refine lv_iconst (v := (nI 1)) F.1 F.2.1 dX3_notes_30 (by decide) ?_
  obtain ⟨z6, ez6, hf⟩ := qn_x hf
  refine qr_ald F G hP (qw_u1s _ _ _) (qw_I9 (c := 1) (n := 935) hv (by decide)) (by unfold vp_in; decide) (by decide) ez6 dX3_notes_31 ?_
  obtain ⟨z7, ez7, hf⟩ := qn_x hf
  refine qr_imul F ez7 dX3_notes_32 ?_
  obtain ⟨z8, ez8, hf⟩ := qn_x hf
  refine qr_iadd F ez8 dX3_notes_33 ?_
  refine lv_iconst (v := (nI 1)) F.1 F.2.1 dX3_notes_34 (by decide) ?_
  obtain ⟨z9, ez9, hf⟩ := qn_x hf
  refine qr_iadd F ez9 dX3_notes_35 ?_
  refine lv_iload_n F.1 F.2.1 dX3_notes_36 rfl (lv_at hl 2 rfl) ?_
  obtain ⟨g10, hf⟩ := qg_x hf
  obtain ⟨m11, em11, hf⟩ := qn_x hf
  refine qr_ast F G hP hS (qw_u1s _ _ _) (qw_I9 (c := 1) (n := 935) hv (by decide)) g10 rfl (qw_fx em11) dX3_notes_37 (fun H locs hP hS => ?_)
  refine lv_aload_n F.1 F.2.1 dX3_notes_38 rfl (lv_at hl 0 rfl) ?_
  refine qr_gMr F G hv (fun w h => F.2.2.2.2 w (List.mem_cons_of_mem _ (List.mem_append_right _ h))) hP 0 1 (by decide) (List.mem_of_getElem? (i := 1) rfl) dX3_notes_39 ?_
  refine lv_iconst (v := (nI 1)) F.1 F.2.1 dX3_notes_42 (by decide) ?_
  refine lv_dup2_11 F.1 F.2.1 dX3_notes_43 rfl rfl ?_
  obtain ⟨z12, ez12, hf⟩ := qn_x hf
  refine qr_ald F G hP (qw_u1s _ _ _) (qw_I9 (c := 1) (n := 935) hv (by decide)) (by unfold vp_in; decide) (by decide) ez12 dX3_notes_44 ?_
  refine lv_iconst (v := (nI 1)) F.1 F.2.1 dX3_notes_45 (by decide) ?_
  obtain ⟨z13, ez13, hf⟩ := qn_x hf
  refine qr_iadd F ez13 dX3_notes_46 ?_
  obtain ⟨m14, em14, hf⟩ := qn_x hf
  refine qr_ast F G hP hS (qw_u1s _ _ _) (qw_I9 (c := 1) (n := 935) hv (by decide)) (by unfold vp_in; decide) (by decide) (qw_fx em14) dX3_notes_47 (fun H locs hP hS => ?_)
  refine lv_aload_n F.1 F.2.1 dX3_notes_48 rfl (lv_at hl 0 rfl) ?_
  refine qr_gMr F G hv (fun w h => F.2.2.2.2 w (List.mem_cons_of_mem _ (List.mem_append_right _ h))) hP 0 1 (by decide) (List.mem_of_getElem? (i := 1) rfl) dX3_notes_49 ?_
  refine lv_iconst (v := (nI 2)) F.1 F.2.1 dX3_notes_52 (by decide) ?_
  refine lv_iload_n F.1 F.2.1 dX3_notes_53 rfl (lv_at hl 1 rfl) ?_
  obtain ⟨z15, ez15, hf⟩ := qn_x hf
  refine qr_iadd F ez15 dX3_notes_54 ?_
  refine lv_dup2_11 F.1 F.2.1 dX3_notes_55 rfl rfl ?_
  obtain ⟨g17, hf⟩ := qg_x hf
  obtain ⟨z16, ez16, hf⟩ := qn_x hf
  refine qr_ald F G hP (qw_u1s _ _ _) (qw_I9 (c := 1) (n := 935) hv (by decide)) g17 rfl ez16 dX3_notes_56 ?_
  refine lv_iconst (v := (nI 1)) F.1 F.2.1 dX3_notes_57 (by decide) ?_
  obtain ⟨z18, ez18, hf⟩ := qn_x hf
  refine qr_iadd F ez18 dX3_notes_58 ?_
  obtain ⟨g19, hf⟩ := qg_x hf
  obtain ⟨m20, em20, hf⟩ := qn_x hf
  refine qr_ast F G hP hS (qw_u1s _ _ _) (qw_I9 (c := 1) (n := 935) hv (by decide)) g19 rfl (qw_fx em20) dX3_notes_59 (fun H locs hP hS => ?_)
  have e8 := qs1 hf
  subst e8
  exact hQ _ _ _ _ hP hS dX3_notes_60
set_option maxRecDepth 100000 in
set_option maxHeartbeats 4000000 in
theorem qc_X3_notes (l : Launch) {L : wL} (hJ : qw_J L) {X X9 : wM} {h : Nat → Nat} {m m9 : wm} (hX : X 9 = m) (hX9 : qw_u1 X 9 m9 = X9) {x1 x2 : Int32} (hv : qw_9 L) (hf : qf_X3_notes x1 x2 m = some m9) : qw_MV l yX3_notes wsX3_notes rm_X3_notes L (.ref (qw_ad L 9 0) :: [.int x1, .int x2]) X h X9 h := by
  subst hX
  subst hX9
  refine qw_MV_of (cc := cX3_notes) (maxL := 3) (by decide) rfl hJ (Nat.le_of_ble_eq_true rfl) ?_
  intro p e s mi below meth co Q ls F G hP hQ hl
  exact qb_X3_notes F G hv hQ _ _ _ _ _ _ hf (by rw [qw_u1i]; exact hP) va_S.rf hl
def rm_X3_call : Room := { frames := 1, cells := 0, slots := 0, locals := 22 }
theorem e_X3_call : qw_hd yX3_call RX3 2 := by decide +kernel
set_option maxRecDepth 100000 in
set_option maxHeartbeats 4000000 in
theorem qb_X3_call_333 {p : Program} {l : Launch} {e : Env} {s : State} {mi : MethodId} {args : Array Value} {below : List Frame} {meth : Method} {co : Code} {Q : State → Prop} {L : wL} {M : wM} {h : Nat → Nat} {r : Int32} {m9 : wm} (F : CallFix p mi co cX3_call 7 s args wsX3_call RX3) (G : qw_G L (qw_A L) s) (hv : qw_9 L) (hQ : qw_RI p l e rm_X3_call s mi args below meth co cX3_call .int Q L r (qw_u1 M 9 m9) h) : ∀ (x2 : Int32) (x3 : Int32) (y0 : Int32) (y1 : Int32) (m : wm) (H : Heap) (locs : List Loc) (ls : Array Slot), qf_X3_call_333 x2 x3 y0 y1 m = some (r, m9) → qw_P L (qw_u1 M 9 m) h H → va_S (qw_A L) s.heap H locs → lv_has ls 7 [(0, .ref (qw_ad L 9 0)), (2, .int x2), (3, .int x3)] → W p l e rm_X3_call s mi args below meth co H locs 0 0 Q (F0 mi 333 ls [.int y0, .int y1, .ref (qw_ad L 9 1)]) := by
  intro x2 x3 y0 y1 m H locs ls hf hP hS hl
  unfold qf_X3_call_333 at hf
  obtain ⟨g1, hf⟩ := qg_x hf
  obtain ⟨m2, em2, hf⟩ := qn_x hf
  refine qr_ast F G hP hS (qw_u1s _ _ _) (qw_I9 (c := 1) (n := 935) hv (by decide)) g1 rfl (qw_fx em2) dX3_call_333 (fun H locs hP hS => ?_)
  refine lv_aload_n F.1 F.2.1 dX3_call_334 rfl (lv_at hl 0 rfl) ?_
  refine qr_gMr F G hv (fun w h => F.2.2.2.2 w (List.mem_cons_of_mem _ (List.mem_append_right _ h))) hP 0 1 (by decide) (List.mem_of_getElem? (i := 1) rfl) dX3_call_335 ?_
  refine lv_sipush (v := (nI 735)) F.1 F.2.1 dX3_call_338 (by decide) ?_
  refine lv_iload_n F.1 F.2.1 dX3_call_341 rfl (lv_at hl 2 rfl) ?_
  obtain ⟨z3, ez3, hf⟩ := qn_x hf
  refine qr_iadd F ez3 dX3_call_342 ?_
  refine lv_iconst (v := (nI 0)) F.1 F.2.1 dX3_call_343 (by decide) ?_
  obtain ⟨g4, hf⟩ := qg_x hf
  obtain ⟨m5, em5, hf⟩ := qn_x hf
  refine qr_ast F G hP hS (qw_u1s _ _ _) (qw_I9 (c := 1) (n := 935) hv (by decide)) g4 rfl (qw_fx em5) dX3_call_344 (fun H locs hP hS => ?_)
  refine lv_aload_n F.1 F.2.1 dX3_call_345 rfl (lv_at hl 0 rfl) ?_
  refine lv_iconst (v := (nI 0)) F.1 F.2.1 dX3_call_346 (by decide) ?_
  refine lv_iload_n F.1 F.2.1 dX3_call_347 rfl (lv_at hl 1 rfl) ?_
  obtain ⟨m7, k6, hf⟩ := qb1_x hf
  refine qr_cVv F G hP hS (qc_X3_notes l G.2.1 (qw_u1s _ _ _) (qw_fx rfl) hv k6) (qw_rcM hv) gX3_call_X3_notes rfl ⟨rfl, rfl⟩ e_X3_notes ⟨Nat.le_of_ble_eq_true rfl, Nat.le_of_ble_eq_true rfl⟩ rfl hl.1 rfl (Nat.le_of_ble_eq_true rfl) ⟨Nat.zero_le _, Nat.zero_le _⟩ dX3_call_348 (fun H locs hP hS => ?_)
  refine lv_iload_n F.1 F.2.1 dX3_call_351 rfl (lv_at hl 2 rfl) ?_
  obtain ⟨e9, e8⟩ := qs2 hf
  subst e9
  subst e8
  exact hQ _ _ _ _ hP hS rfl dX3_call_352
set_option maxRecDepth 100000 in
set_option maxHeartbeats 4000000 in
theorem qb_X3_call_160 {p : Program} {l : Launch} {e : Env} {s : State} {mi : MethodId} {args : Array Value} {below : List Frame} {meth : Method} {co : Code} {Q : State → Prop} {L : wL} {M : wM} {h : Nat → Nat} {r : Int32} {m9 : wm} (F : CallFix p mi co cX3_call 7 s args wsX3_call RX3) (G : qw_G L (qw_A L) s) (hv : qw_9 L) (hQ : qw_RI p l e rm_X3_call s mi args below meth co cX3_call .int Q L r (qw_u1 M 9 m9) h) : ∀ (x1 : Int32) (x2 : Int32) (x3 : Int32) (x4 : Int32) (m : wm) (H : Heap) (locs : List Loc) (ls : Array Slot), qf_X3_call_160 x1 x2 x3 x4 m = some (r, m9) → qw_P L (qw_u1 M 9 m) h H → va_S (qw_A L) s.heap H locs → lv_has ls 7 [(0, .ref (qw_ad L 9 0)), (1, .int x1), (2, .int x2), (3, .int x3), (4, .int x4)] → W p l e rm_X3_call s mi args below meth co H locs 0 0 Q (F0 mi 160 ls []) := by
  intro x1 x2 x3 x4 m H locs ls hf hP hS hl
  unfold qf_X3_call_160 at hf
  refine lv_aload_n F.1 F.2.1 dX3_call_160 rfl (lv_at hl 0 rfl) ?_
  refine qr_gMr F G hv (fun w h => F.2.2.2.2 w (List.mem_cons_of_mem _ (List.mem_append_right _ h))) hP 0 1 (by decide) (List.mem_of_getElem? (i := 1) rfl) dX3_call_161 ?_
  refine lv_bipush (v := (nI 12)) F.1 F.2.1 dX3_call_164 (by decide) ?_
  refine lv_iload F.1 F.2.1 dX3_call_166 (lv_at hl 4 rfl) ?_
  obtain ⟨m1, em1, hf⟩ := qn_x hf
  refine qr_ast F G hP hS (qw_u1s _ _ _) (qw_I9 (c := 1) (n := 935) hv (by decide)) (by unfold vp_in; decide) (by decide) (qw_fx em1) dX3_call_168 (fun H locs hP hS => ?_)
  refine lv_aload_n F.1 F.2.1 dX3_call_169 rfl (lv_at hl 0 rfl) ?_
  refine qr_gMr F G hv (fun w h => F.2.2.2.2 w (List.mem_cons_of_mem _ (List.mem_append_right _ h))) hP 0 1 (by decide) (List.mem_of_getElem? (i := 1) rfl) dX3_call_170 ?_
  refine lv_sipush (v := (nI 215)) F.1 F.2.1 dX3_call_173 (by decide) ?_
  refine lv_iconst (v := (nI 3)) F.1 F.2.1 dX3_call_176 (by decide) ?_
  refine lv_iload F.1 F.2.1 dX3_call_177 (lv_at hl 4 rfl) ?_
  obtain ⟨z2, ez2, hf⟩ := qn_x hf
  refine qr_imul F ez2 dX3_call_179 ?_
  obtain ⟨z3, ez3, hf⟩ := qn_x hf
  refine qr_iadd F ez3 dX3_call_180 ?_
  refine lv_iconst (v := (nI 0)) F.1 F.2.1 dX3_call_181 (by decide) ?_
  obtain ⟨z4, ez4, hf⟩ := qn_x hf
  refine qr_iadd F ez4 dX3_call_182 ?_
  refine lv_iload_n F.1 F.2.1 dX3_call_183 rfl (lv_at hl 3 rfl) ?_
  obtain ⟨g5, hf⟩ := qg_x hf
  obtain ⟨m6, em6, hf⟩ := qn_x hf
  refine qr_ast F G hP hS (qw_u1s _ _ _) (qw_I9 (c := 1) (n := 935) hv (by decide)) g5 rfl (qw_fx em6) dX3_call_184 (fun H locs hP hS => ?_)
  refine lv_aload_n F.1 F.2.1 dX3_call_185 rfl (lv_at hl 0 rfl) ?_
  refine qr_gMr F G hv (fun w h => F.2.2.2.2 w (List.mem_cons_of_mem _ (List.mem_append_right _ h))) hP 0 1 (by decide) (List.mem_of_getElem? (i := 1) rfl) dX3_call_186 ?_
  refine lv_sipush (v := (nI 215)) F.1 F.2.1 dX3_call_189 (by decide) ?_
  refine lv_iconst (v := (nI 3)) F.1 F.2.1 dX3_call_192 (by decide) ?_
  refine lv_iload F.1 F.2.1 dX3_call_193 (lv_at hl 4 rfl) ?_
  obtain ⟨z7, ez7, hf⟩ := qn_x hf
  refine qr_imul F ez7 dX3_call_195 ?_
  obtain ⟨z8, ez8, hf⟩ := qn_x hf
  refine qr_iadd F ez8 dX3_call_196 ?_
  refine lv_iconst (v := (nI 1)) F.1 F.2.1 dX3_call_197 (by decide) ?_
  obtain ⟨z9, ez9, hf⟩ := qn_x hf
  refine qr_iadd F ez9 dX3_call_198 ?_
  refine lv_iload_n F.1 F.2.1 dX3_call_199 rfl (lv_at hl 2 rfl) ?_
  obtain ⟨g10, hf⟩ := qg_x hf
  obtain ⟨m11, em11, hf⟩ := qn_x hf
  refine qr_ast F G hP hS (qw_u1s _ _ _) (qw_I9 (c := 1) (n := 935) hv (by decide)) g10 rfl (qw_fx em11) dX3_call_200 (fun H locs hP hS => ?_)
  refine lv_aload_n F.1 F.2.1 dX3_call_201 rfl (lv_at hl 0 rfl) ?_
  refine qr_gMr F G hv (fun w h => F.2.2.2.2 w (List.mem_cons_of_mem _ (List.mem_append_right _ h))) hP 0 1 (by decide) (List.mem_of_getElem? (i := 1) rfl) dX3_call_202 ?_
  refine lv_sipush (v := (nI 215)) F.1 F.2.1 dX3_call_205 (by decide) ?_
  refine lv_iconst (v := (nI 3)) F.1 F.2.1 dX3_call_208 (by decide) ?_
  refine lv_iload F.1 F.2.1 dX3_call_209 (lv_at hl 4 rfl) ?_
  obtain ⟨z12, ez12, hf⟩ := qn_x hf
  refine qr_imul F ez12 dX3_call_211 ?_
  obtain ⟨z13, ez13, hf⟩ := qn_x hf
  refine qr_iadd F ez13 dX3_call_212 ?_
  refine lv_iconst (v := (nI 2)) F.1 F.2.1 dX3_call_213 (by decide) ?_
  obtain ⟨z14, ez14, hf⟩ := qn_x hf
  refine qr_iadd F ez14 dX3_call_214 ?_
  refine lv_dup2_11 F.1 F.2.1 dX3_call_215 rfl rfl ?_
  obtain ⟨g16, hf⟩ := qg_x hf
  obtain ⟨z15, ez15, hf⟩ := qn_x hf
  refine qr_ald F G hP (qw_u1s _ _ _) (qw_I9 (c := 1) (n := 935) hv (by decide)) g16 rfl ez15 dX3_call_216 ?_
  refine lv_iconst (v := (nI 1)) F.1 F.2.1 dX3_call_217 (by decide) ?_
  obtain ⟨z17, ez17, hf⟩ := qn_x hf
  refine qr_iadd F ez17 dX3_call_218 ?_
  obtain ⟨g18, hf⟩ := qg_x hf
  obtain ⟨m19, em19, hf⟩ := qn_x hf
  refine qr_ast F G hP hS (qw_u1s _ _ _) (qw_I9 (c := 1) (n := 935) hv (by decide)) g18 rfl (qw_fx em19) dX3_call_219 (fun H locs hP hS => ?_)
  refine lv_bipush (v := (nI 15)) F.1 F.2.1 dX3_call_220 (by decide) ?_
  refine lv_iconst (v := (nI 5)) F.1 F.2.1 dX3_call_222 (by decide) ?_
  refine lv_aload_n F.1 F.2.1 dX3_call_223 rfl (lv_at hl 0 rfl) ?_
  refine qr_gMr F G hv (fun w h => F.2.2.2.2 w (List.mem_cons_of_mem _ (List.mem_append_right _ h))) hP 0 1 (by decide) (List.mem_of_getElem? (i := 1) rfl) dX3_call_224 ?_
  refine lv_iconst (v := (nI 0)) F.1 F.2.1 dX3_call_227 (by decide) ?_
  obtain ⟨z20, ez20, hf⟩ := qn_x hf
  refine qr_ald F G hP (qw_u1s _ _ _) (qw_I9 (c := 1) (n := 935) hv (by decide)) (by unfold vp_in; decide) (by decide) ez20 dX3_call_228 ?_
  obtain ⟨z21, ez21, hf⟩ := qn_x hf
  refine qr_imul F ez21 dX3_call_229 ?_
  obtain ⟨z22, ez22, hf⟩ := qn_x hf
  refine qr_iadd F ez22 dX3_call_230 ?_
  refine lv_istore (lv' := [(5, .int z22), (0, .ref (qw_ad L 9 0)), (1, .int x1), (2, .int x2), (3, .int x3), (4, .int x4)]) F.1 F.2.1 dX3_call_231 hl (by decide) rfl (fun ls hl => ?_)
  refine lv_aload_n F.1 F.2.1 dX3_call_233 rfl (lv_at hl 1 rfl) ?_
  refine qr_gMr F G hv (fun w h => F.2.2.2.2 w (List.mem_cons_of_mem _ (List.mem_append_right _ h))) hP 0 1 (by decide) (List.mem_of_getElem? (i := 1) rfl) dX3_call_234 ?_
  refine lv_iload F.1 F.2.1 dX3_call_237 (lv_at hl 0 rfl) ?_
  refine lv_iconst (v := (nI 0)) F.1 F.2.1 dX3_call_239 (by decide) ?_
  obtain ⟨z23, ez23, hf⟩ := qn_x hf
  refine qr_iadd F ez23 dX3_call_240 ?_
  refine lv_iload_n F.1 F.2.1 dX3_call_241 rfl (lv_at hl 4 rfl) ?_
  obtain ⟨g24, hf⟩ := qg_x hf
  obtain ⟨m25, em25, hf⟩ := qn_x hf
  refine qr_ast F G hP hS (qw_u1s _ _ _) (qw_I9 (c := 1) (n := 935) hv (by decide)) g24 rfl (qw_fx em25) dX3_call_242 (fun H locs hP hS => ?_)
  refine lv_aload_n F.1 F.2.1 dX3_call_243 rfl (lv_at hl 1 rfl) ?_
  refine qr_gMr F G hv (fun w h => F.2.2.2.2 w (List.mem_cons_of_mem _ (List.mem_append_right _ h))) hP 0 1 (by decide) (List.mem_of_getElem? (i := 1) rfl) dX3_call_244 ?_
  refine lv_iload F.1 F.2.1 dX3_call_247 (lv_at hl 0 rfl) ?_
  refine lv_iconst (v := (nI 1)) F.1 F.2.1 dX3_call_249 (by decide) ?_
  obtain ⟨z26, ez26, hf⟩ := qn_x hf
  refine qr_iadd F ez26 dX3_call_250 ?_
  refine lv_iload_n F.1 F.2.1 dX3_call_251 rfl (lv_at hl 2 rfl) ?_
  obtain ⟨g27, hf⟩ := qg_x hf
  obtain ⟨m28, em28, hf⟩ := qn_x hf
  refine qr_ast F G hP hS (qw_u1s _ _ _) (qw_I9 (c := 1) (n := 935) hv (by decide)) g27 rfl (qw_fx em28) dX3_call_252 (fun H locs hP hS => ?_)
  refine lv_aload_n F.1 F.2.1 dX3_call_253 rfl (lv_at hl 1 rfl) ?_
  refine qr_gMr F G hv (fun w h => F.2.2.2.2 w (List.mem_cons_of_mem _ (List.mem_append_right _ h))) hP 0 1 (by decide) (List.mem_of_getElem? (i := 1) rfl) dX3_call_254 ?_
  refine lv_iload F.1 F.2.1 dX3_call_257 (lv_at hl 0 rfl) ?_
  refine lv_iconst (v := (nI 2)) F.1 F.2.1 dX3_call_259 (by decide) ?_
  obtain ⟨z29, ez29, hf⟩ := qn_x hf
  refine qr_iadd F ez29 dX3_call_260 ?_
  refine lv_iload_n F.1 F.2.1 dX3_call_261 rfl (lv_at hl 3 rfl) ?_
  obtain ⟨g30, hf⟩ := qg_x hf
  obtain ⟨m31, em31, hf⟩ := qn_x hf
  refine qr_ast F G hP hS (qw_u1s _ _ _) (qw_I9 (c := 1) (n := 935) hv (by decide)) g30 rfl (qw_fx em31) dX3_call_262 (fun H locs hP hS => ?_)
  refine lv_aload_n F.1 F.2.1 dX3_call_263 rfl (lv_at hl 1 rfl) ?_
  refine qr_gMr F G hv (fun w h => F.2.2.2.2 w (List.mem_cons_of_mem _ (List.mem_append_right _ h))) hP 0 1 (by decide) (List.mem_of_getElem? (i := 1) rfl) dX3_call_264 ?_
  refine lv_iload F.1 F.2.1 dX3_call_267 (lv_at hl 0 rfl) ?_
  refine lv_iconst (v := (nI 3)) F.1 F.2.1 dX3_call_269 (by decide) ?_
  obtain ⟨z32, ez32, hf⟩ := qn_x hf
  refine qr_iadd F ez32 dX3_call_270 ?_
  refine lv_iload F.1 F.2.1 dX3_call_271 (lv_at hl 5 rfl) ?_
  obtain ⟨g33, hf⟩ := qg_x hf
  obtain ⟨m34, em34, hf⟩ := qn_x hf
  refine qr_ast F G hP hS (qw_u1s _ _ _) (qw_I9 (c := 1) (n := 935) hv (by decide)) g33 rfl (qw_fx em34) dX3_call_273 (fun H locs hP hS => ?_)
  refine lv_aload_n F.1 F.2.1 dX3_call_274 rfl (lv_at hl 1 rfl) ?_
  refine qr_gMr F G hv (fun w h => F.2.2.2.2 w (List.mem_cons_of_mem _ (List.mem_append_right _ h))) hP 0 1 (by decide) (List.mem_of_getElem? (i := 1) rfl) dX3_call_275 ?_
  refine lv_iload F.1 F.2.1 dX3_call_278 (lv_at hl 0 rfl) ?_
  refine lv_iconst (v := (nI 4)) F.1 F.2.1 dX3_call_280 (by decide) ?_
  obtain ⟨z35, ez35, hf⟩ := qn_x hf
  refine qr_iadd F ez35 dX3_call_281 ?_
  refine lv_bipush (v := (-9 : Int32)) F.1 F.2.1 dX3_call_282 (by decide) ?_
  obtain ⟨g36, hf⟩ := qg_x hf
  obtain ⟨m37, em37, hf⟩ := qn_x hf
  refine qr_ast F G hP hS (qw_u1s _ _ _) (qw_I9 (c := 1) (n := 935) hv (by decide)) g36 rfl (qw_fx em37) dX3_call_284 (fun H locs hP hS => ?_)
  refine lv_aload_n F.1 F.2.1 dX3_call_285 rfl (lv_at hl 1 rfl) ?_
  refine qr_gMr F G hv (fun w h => F.2.2.2.2 w (List.mem_cons_of_mem _ (List.mem_append_right _ h))) hP 0 1 (by decide) (List.mem_of_getElem? (i := 1) rfl) dX3_call_286 ?_
  refine lv_iconst (v := (nI 0)) F.1 F.2.1 dX3_call_289 (by decide) ?_
  refine lv_dup2_11 F.1 F.2.1 dX3_call_290 rfl rfl ?_
  obtain ⟨z38, ez38, hf⟩ := qn_x hf
  refine qr_ald F G hP (qw_u1s _ _ _) (qw_I9 (c := 1) (n := 935) hv (by decide)) (by unfold vp_in; decide) (by decide) ez38 dX3_call_291 ?_
  refine lv_iconst (v := (nI 1)) F.1 F.2.1 dX3_call_292 (by decide) ?_
  obtain ⟨z39, ez39, hf⟩ := qn_x hf
  refine qr_iadd F ez39 dX3_call_293 ?_
  obtain ⟨m40, em40, hf⟩ := qn_x hf
  refine qr_ast F G hP hS (qw_u1s _ _ _) (qw_I9 (c := 1) (n := 935) hv (by decide)) (by unfold vp_in; decide) (by decide) (qw_fx em40) dX3_call_294 (fun H locs hP hS => ?_)
  refine lv_aload_n F.1 F.2.1 dX3_call_295 rfl (lv_at hl 1 rfl) ?_
  refine qr_gMr F G hv (fun w h => F.2.2.2.2 w (List.mem_cons_of_mem _ (List.mem_append_right _ h))) hP 0 1 (by decide) (List.mem_of_getElem? (i := 1) rfl) dX3_call_296 ?_
  refine lv_bipush (v := (nI 13)) F.1 F.2.1 dX3_call_299 (by decide) ?_
  refine lv_aload_n F.1 F.2.1 dX3_call_301 rfl (lv_at hl 1 rfl) ?_
  refine qr_gMr F G hv (fun w h => F.2.2.2.2 w (List.mem_cons_of_mem _ (List.mem_append_right _ h))) hP 0 1 (by decide) (List.mem_of_getElem? (i := 1) rfl) dX3_call_302 ?_
  refine lv_iconst (v := (nI 0)) F.1 F.2.1 dX3_call_305 (by decide) ?_
  obtain ⟨z41, ez41, hf⟩ := qn_x hf
  refine qr_ald F G hP (qw_u1s _ _ _) (qw_I9 (c := 1) (n := 935) hv (by decide)) (by unfold vp_in; decide) (by decide) ez41 dX3_call_306 ?_
  refine lv_aload_n F.1 F.2.1 dX3_call_307 rfl (lv_at hl 1 rfl) ?_
  refine qr_gMr F G hv (fun w h => F.2.2.2.2 w (List.mem_cons_of_mem _ (List.mem_append_right _ h))) hP 0 1 (by decide) (List.mem_of_getElem? (i := 1) rfl) dX3_call_308 ?_
  refine lv_bipush (v := (nI 13)) F.1 F.2.1 dX3_call_311 (by decide) ?_
  obtain ⟨z42, ez42, hf⟩ := qn_x hf
  refine qr_ald F G hP (qw_u1s _ _ _) (qw_I9 (c := 1) (n := 935) hv (by decide)) (by unfold vp_in; decide) (by decide) ez42 dX3_call_313 ?_
  refine lv_icmp_le (tgt := 326) F.1 F.2.1 dX3_call_314 (by decide) (fun c43 => ?_) (fun c43 => ?_)
  · replace hf := qi_t c43 hf
    refine lv_aload_n F.1 F.2.1 dX3_call_326 rfl (lv_at hl 1 rfl) ?_
    refine qr_gMr F G hv (fun w h => F.2.2.2.2 w (List.mem_cons_of_mem _ (List.mem_append_right _ h))) hP 0 1 (by decide) (List.mem_of_getElem? (i := 1) rfl) dX3_call_327 ?_
    refine lv_bipush (v := (nI 13)) F.1 F.2.1 dX3_call_330 (by decide) ?_
    obtain ⟨z44, ez44, hf⟩ := qn_x hf
    refine qr_ald F G hP (qw_u1s _ _ _) (qw_I9 (c := 1) (n := 935) hv (by decide)) (by unfold vp_in; decide) (by decide) ez44 dX3_call_332 ?_
    exact qb_X3_call_333 F G hv hQ _ _ _ _ _ _ _ _ hf hP hS (lv_sub hl [1, 3, 4] rfl)
  · replace hf := qi_f c43 hf
    refine lv_aload_n F.1 F.2.1 dX3_call_317 rfl (lv_at hl 1 rfl) ?_
    refine qr_gMr F G hv (fun w h => F.2.2.2.2 w (List.mem_cons_of_mem _ (List.mem_append_right _ h))) hP 0 1 (by decide) (List.mem_of_getElem? (i := 1) rfl) dX3_call_318 ?_
    refine lv_iconst (v := (nI 0)) F.1 F.2.1 dX3_call_321 (by decide) ?_
    obtain ⟨z45, ez45, hf⟩ := qn_x hf
    refine qr_ald F G hP (qw_u1s _ _ _) (qw_I9 (c := 1) (n := 935) hv (by decide)) (by unfold vp_in; decide) (by decide) ez45 dX3_call_322 ?_
    refine lv_goto (tgt := 333) F.1 F.2.1 dX3_call_323 (by decide) ?_
    exact qb_X3_call_333 F G hv hQ _ _ _ _ _ _ _ _ hf hP hS (lv_sub hl [1, 3, 4] rfl)
set_option maxRecDepth 100000 in
set_option maxHeartbeats 4000000 in
theorem qb_X3_call_82 {p : Program} {l : Launch} {e : Env} {s : State} {mi : MethodId} {args : Array Value} {below : List Frame} {meth : Method} {co : Code} {Q : State → Prop} {L : wL} {M : wM} {h : Nat → Nat} {r : Int32} {m9 : wm} (F : CallFix p mi co cX3_call 7 s args wsX3_call RX3) (G : qw_G L (qw_A L) s) (hv : qw_9 L) (hQ : qw_RI p l e rm_X3_call s mi args below meth co cX3_call .int Q L r (qw_u1 M 9 m9) h) : ∀ (n : Nat) (x1 : Int32) (x2 : Int32) (x3 : Int32) (x4 : Int32) (x5 : Int32) (m : wm) (H : Heap) (locs : List Loc) (ls : Array Slot), qf_X3_call_82 n x1 x2 x3 x4 x5 m = some (r, m9) → qw_P L (qw_u1 M 9 m) h H → va_S (qw_A L) s.heap H locs → lv_has ls 7 [(0, .ref (qw_ad L 9 0)), (1, .int x1), (2, .int x2), (3, .int x3), (4, .int x4), (5, .int x5)] → W p l e rm_X3_call s mi args below meth co H locs 0 0 Q (F0 mi 82 ls []) := by
  intro n
  induction n with
  | zero =>
    intro x1 x2 x3 x4 x5 m H locs ls hf hP hS hl
    rw [qf_X3_call_82] at hf
    cases hf
  | succ n ih =>
    intro x1 x2 x3 x4 x5 m H locs ls hf hP hS hl
    rw [qf_X3_call_82] at hf
    refine lv_iload F.1 F.2.1 dX3_call_82 (lv_at hl 5 rfl) ?_
    refine lv_aload_n F.1 F.2.1 dX3_call_84 rfl (lv_at hl 0 rfl) ?_
    refine qr_gMr F G hv (fun w h => F.2.2.2.2 w (List.mem_cons_of_mem _ (List.mem_append_right _ h))) hP 0 1 (by decide) (List.mem_of_getElem? (i := 1) rfl) dX3_call_85 ?_
    refine lv_iconst (v := (nI 0)) F.1 F.2.1 dX3_call_88 (by decide) ?_
    obtain ⟨z1, ez1, hf⟩ := qn_x hf
    refine qr_ald F G hP (qw_u1s _ _ _) (qw_I9 (c := 1) (n := 935) hv (by decide)) (by unfold vp_in; decide) (by decide) ez1 dX3_call_89 ?_
    refine lv_icmp_ge (tgt := 160) F.1 F.2.1 dX3_call_90 (by decide) (fun c2 => ?_) (fun c2 => ?_)
    · replace hf := qi_t c2 hf
      exact qb_X3_call_160 F G hv hQ _ _ _ _ _ _ _ _ hf hP hS (lv_sub hl [0, 1, 2, 3, 4] rfl)
    · replace hf := qi_f c2 hf
      refine lv_aload_n F.1 F.2.1 dX3_call_93 rfl (lv_at hl 0 rfl) ?_
      refine lv_iload F.1 F.2.1 dX3_call_94 (lv_at hl 5 rfl) ?_
      refine lv_iconst (v := (nI 3)) F.1 F.2.1 dX3_call_96 (by decide) ?_
      obtain ⟨r3, k4, hf⟩ := qb1_x hf
      refine qr_cVi F G hP hS (qc_X3_ofFrame l G.2.1 (qw_u1s _ _ _) hv k4) (qw_rcM hv) gX3_call_X3_ofFrame rfl ⟨rfl, rfl⟩ e_X3_ofFrame ⟨Nat.le_of_ble_eq_true rfl, Nat.le_of_ble_eq_true rfl⟩ rfl hl.1 rfl (Nat.le_of_ble_eq_true rfl) ⟨Nat.zero_le _, Nat.zero_le _⟩ dX3_call_97 (fun H locs hP hS => ?_)
      refine lv_iload F.1 F.2.1 dX3_call_100 (lv_at hl 4 rfl) ?_
      refine lv_icmp_ne (tgt := 121) F.1 F.2.1 dX3_call_102 (by decide) (fun c5 => ?_) (fun c5 => ?_)
      · replace hf := qi_f c5 hf
        refine lv_iconst (v := (nI 0)) F.1 F.2.1 dX3_call_121 (by decide) ?_
        refine lv_istore (lv' := [(6, .int (nI 0)), (0, .ref (qw_ad L 9 0)), (1, .int x1), (2, .int x2), (3, .int x3), (4, .int x4), (5, .int x5)]) F.1 F.2.1 dX3_call_122 hl (by decide) rfl (fun ls hl => ?_)
        refine lv_aload_n F.1 F.2.1 dX3_call_124 rfl (lv_at hl 1 rfl) ?_
        refine qr_gMr F G hv (fun w h => F.2.2.2.2 w (List.mem_cons_of_mem _ (List.mem_append_right _ h))) hP 0 1 (by decide) (List.mem_of_getElem? (i := 1) rfl) dX3_call_125 ?_
        refine lv_bipush (v := (nI 15)) F.1 F.2.1 dX3_call_128 (by decide) ?_
        refine lv_iconst (v := (nI 5)) F.1 F.2.1 dX3_call_130 (by decide) ?_
        refine lv_iload F.1 F.2.1 dX3_call_131 (lv_at hl 6 rfl) ?_
        obtain ⟨z6, ez6, hf⟩ := qn_x hf
        refine qr_imul F ez6 dX3_call_133 ?_
        obtain ⟨z7, ez7, hf⟩ := qn_x hf
        refine qr_iadd F ez7 dX3_call_134 ?_
        refine lv_iconst (v := (nI 4)) F.1 F.2.1 dX3_call_135 (by decide) ?_
        obtain ⟨z8, ez8, hf⟩ := qn_x hf
        refine qr_iadd F ez8 dX3_call_136 ?_
        refine lv_iload F.1 F.2.1 dX3_call_137 (lv_at hl 0 rfl) ?_
        refine lv_if_eq (tgt := 146) F.1 F.2.1 dX3_call_139 (by decide) (fun _ => ?_) (fun c9 => absurd c9 (by decide))
        refine lv_aload_n F.1 F.2.1 dX3_call_146 rfl (lv_at hl 1 rfl) ?_
        refine lv_iload F.1 F.2.1 dX3_call_147 (lv_at hl 6 rfl) ?_
        refine lv_iconst (v := (nI 4)) F.1 F.2.1 dX3_call_149 (by decide) ?_
        obtain ⟨r10, k11, hf⟩ := qb1_x hf
        refine qr_cVi F G hP hS (qc_X3_ofFrame l G.2.1 (qw_u1s _ _ _) hv k11) (qw_rcM hv) gX3_call_X3_ofFrame rfl ⟨rfl, rfl⟩ e_X3_ofFrame ⟨Nat.le_of_ble_eq_true rfl, Nat.le_of_ble_eq_true rfl⟩ rfl hl.1 rfl (Nat.le_of_ble_eq_true rfl) ⟨Nat.zero_le _, Nat.zero_le _⟩ dX3_call_150 (fun H locs hP hS => ?_)
        obtain ⟨g12, hf⟩ := qg_x hf
        obtain ⟨m13, em13, hf⟩ := qn_x hf
        refine qr_ast F G hP hS (qw_u1s _ _ _) (qw_I9 (c := 1) (n := 935) hv (by decide)) g12 rfl (qw_fx em13) dX3_call_153 (fun H locs hP hS => ?_)
        obtain ⟨z14, ez14, hf⟩ := qn_x hf
        refine lv_iinc (v := z14) (lv' := [(5, .int z14), (6, .int (nI 0)), (0, .ref (qw_ad L 9 0)), (1, .int x1), (2, .int x2), (3, .int x3), (4, .int x4)]) F.1 F.2.1 dX3_call_154 hl (k := 6) rfl ((qw_ii1 _).trans ez14.symm) (by decide) rfl (fun ls hl => ?_)
        refine lv_goto (tgt := 82) F.1 F.2.1 dX3_call_157 (by decide) ?_
        exact ih _ _ _ _ _ _ _ _ _ hf hP hS (lv_sub hl [2, 3, 4, 5, 6, 0] rfl)
      · replace hf := qi_t c5 hf
        refine lv_aload_n F.1 F.2.1 dX3_call_105 rfl (lv_at hl 0 rfl) ?_
        refine lv_iload F.1 F.2.1 dX3_call_106 (lv_at hl 5 rfl) ?_
        refine lv_iconst (v := (nI 4)) F.1 F.2.1 dX3_call_108 (by decide) ?_
        obtain ⟨r15, k16, hf⟩ := qb1_x hf
        refine qr_cVi F G hP hS (qc_X3_ofFrame l G.2.1 (qw_u1s _ _ _) hv k16) (qw_rcM hv) gX3_call_X3_ofFrame rfl ⟨rfl, rfl⟩ e_X3_ofFrame ⟨Nat.le_of_ble_eq_true rfl, Nat.le_of_ble_eq_true rfl⟩ rfl hl.1 rfl (Nat.le_of_ble_eq_true rfl) ⟨Nat.zero_le _, Nat.zero_le _⟩ dX3_call_109 (fun H locs hP hS => ?_)
        refine lv_bipush (v := (-9 : Int32)) F.1 F.2.1 dX3_call_112 (by decide) ?_
        refine lv_icmp_ne (tgt := 121) F.1 F.2.1 dX3_call_114 (by decide) (fun c17 => ?_) (fun c17 => ?_)
        · replace hf := qi_f c17 hf
          refine lv_iconst (v := (nI 0)) F.1 F.2.1 dX3_call_121 (by decide) ?_
          refine lv_istore (lv' := [(6, .int (nI 0)), (0, .ref (qw_ad L 9 0)), (1, .int x1), (2, .int x2), (3, .int x3), (4, .int x4), (5, .int x5)]) F.1 F.2.1 dX3_call_122 hl (by decide) rfl (fun ls hl => ?_)
          refine lv_aload_n F.1 F.2.1 dX3_call_124 rfl (lv_at hl 1 rfl) ?_
          refine qr_gMr F G hv (fun w h => F.2.2.2.2 w (List.mem_cons_of_mem _ (List.mem_append_right _ h))) hP 0 1 (by decide) (List.mem_of_getElem? (i := 1) rfl) dX3_call_125 ?_
          refine lv_bipush (v := (nI 15)) F.1 F.2.1 dX3_call_128 (by decide) ?_
          refine lv_iconst (v := (nI 5)) F.1 F.2.1 dX3_call_130 (by decide) ?_
          refine lv_iload F.1 F.2.1 dX3_call_131 (lv_at hl 6 rfl) ?_
          obtain ⟨z18, ez18, hf⟩ := qn_x hf
          refine qr_imul F ez18 dX3_call_133 ?_
          obtain ⟨z19, ez19, hf⟩ := qn_x hf
          refine qr_iadd F ez19 dX3_call_134 ?_
          refine lv_iconst (v := (nI 4)) F.1 F.2.1 dX3_call_135 (by decide) ?_
          obtain ⟨z20, ez20, hf⟩ := qn_x hf
          refine qr_iadd F ez20 dX3_call_136 ?_
          refine lv_iload F.1 F.2.1 dX3_call_137 (lv_at hl 0 rfl) ?_
          refine lv_if_eq (tgt := 146) F.1 F.2.1 dX3_call_139 (by decide) (fun _ => ?_) (fun c21 => absurd c21 (by decide))
          refine lv_aload_n F.1 F.2.1 dX3_call_146 rfl (lv_at hl 1 rfl) ?_
          refine lv_iload F.1 F.2.1 dX3_call_147 (lv_at hl 6 rfl) ?_
          refine lv_iconst (v := (nI 4)) F.1 F.2.1 dX3_call_149 (by decide) ?_
          obtain ⟨r22, k23, hf⟩ := qb1_x hf
          refine qr_cVi F G hP hS (qc_X3_ofFrame l G.2.1 (qw_u1s _ _ _) hv k23) (qw_rcM hv) gX3_call_X3_ofFrame rfl ⟨rfl, rfl⟩ e_X3_ofFrame ⟨Nat.le_of_ble_eq_true rfl, Nat.le_of_ble_eq_true rfl⟩ rfl hl.1 rfl (Nat.le_of_ble_eq_true rfl) ⟨Nat.zero_le _, Nat.zero_le _⟩ dX3_call_150 (fun H locs hP hS => ?_)
          obtain ⟨g24, hf⟩ := qg_x hf
          obtain ⟨m25, em25, hf⟩ := qn_x hf
          refine qr_ast F G hP hS (qw_u1s _ _ _) (qw_I9 (c := 1) (n := 935) hv (by decide)) g24 rfl (qw_fx em25) dX3_call_153 (fun H locs hP hS => ?_)
          obtain ⟨z26, ez26, hf⟩ := qn_x hf
          refine lv_iinc (v := z26) (lv' := [(5, .int z26), (6, .int (nI 0)), (0, .ref (qw_ad L 9 0)), (1, .int x1), (2, .int x2), (3, .int x3), (4, .int x4)]) F.1 F.2.1 dX3_call_154 hl (k := 6) rfl ((qw_ii1 _).trans ez26.symm) (by decide) rfl (fun ls hl => ?_)
          refine lv_goto (tgt := 82) F.1 F.2.1 dX3_call_157 (by decide) ?_
          exact ih _ _ _ _ _ _ _ _ _ hf hP hS (lv_sub hl [2, 3, 4, 5, 6, 0] rfl)
        · replace hf := qi_t c17 hf
          refine lv_iconst (v := (nI 1)) F.1 F.2.1 dX3_call_117 (by decide) ?_
          refine lv_goto (tgt := 122) F.1 F.2.1 dX3_call_118 (by decide) ?_
          refine lv_istore (lv' := [(6, .int (nI 1)), (0, .ref (qw_ad L 9 0)), (1, .int x1), (2, .int x2), (3, .int x3), (4, .int x4), (5, .int x5)]) F.1 F.2.1 dX3_call_122 hl (by decide) rfl (fun ls hl => ?_)
          refine lv_aload_n F.1 F.2.1 dX3_call_124 rfl (lv_at hl 1 rfl) ?_
          refine qr_gMr F G hv (fun w h => F.2.2.2.2 w (List.mem_cons_of_mem _ (List.mem_append_right _ h))) hP 0 1 (by decide) (List.mem_of_getElem? (i := 1) rfl) dX3_call_125 ?_
          refine lv_bipush (v := (nI 15)) F.1 F.2.1 dX3_call_128 (by decide) ?_
          refine lv_iconst (v := (nI 5)) F.1 F.2.1 dX3_call_130 (by decide) ?_
          refine lv_iload F.1 F.2.1 dX3_call_131 (lv_at hl 6 rfl) ?_
          obtain ⟨z27, ez27, hf⟩ := qn_x hf
          refine qr_imul F ez27 dX3_call_133 ?_
          obtain ⟨z28, ez28, hf⟩ := qn_x hf
          refine qr_iadd F ez28 dX3_call_134 ?_
          refine lv_iconst (v := (nI 4)) F.1 F.2.1 dX3_call_135 (by decide) ?_
          obtain ⟨z29, ez29, hf⟩ := qn_x hf
          refine qr_iadd F ez29 dX3_call_136 ?_
          refine lv_iload F.1 F.2.1 dX3_call_137 (lv_at hl 0 rfl) ?_
          refine lv_if_eq (tgt := 146) F.1 F.2.1 dX3_call_139 (by decide) (fun c30 => absurd c30 (by decide)) (fun _ => ?_)
          refine lv_iload_n F.1 F.2.1 dX3_call_142 rfl (lv_at hl 4 rfl) ?_
          refine lv_goto (tgt := 153) F.1 F.2.1 dX3_call_143 (by decide) ?_
          obtain ⟨g31, hf⟩ := qg_x hf
          obtain ⟨m32, em32, hf⟩ := qn_x hf
          refine qr_ast F G hP hS (qw_u1s _ _ _) (qw_I9 (c := 1) (n := 935) hv (by decide)) g31 rfl (qw_fx em32) dX3_call_153 (fun H locs hP hS => ?_)
          obtain ⟨z33, ez33, hf⟩ := qn_x hf
          refine lv_iinc (v := z33) (lv' := [(5, .int z33), (6, .int (nI 1)), (0, .ref (qw_ad L 9 0)), (1, .int x1), (2, .int x2), (3, .int x3), (4, .int x4)]) F.1 F.2.1 dX3_call_154 hl (k := 6) rfl ((qw_ii1 _).trans ez33.symm) (by decide) rfl (fun ls hl => ?_)
          refine lv_goto (tgt := 82) F.1 F.2.1 dX3_call_157 (by decide) ?_
          exact ih _ _ _ _ _ _ _ _ _ hf hP hS (lv_sub hl [2, 3, 4, 5, 6, 0] rfl)
set_option maxRecDepth 100000 in
set_option maxHeartbeats 4000000 in
theorem qb_X3_call {p : Program} {l : Launch} {e : Env} {s : State} {mi : MethodId} {args : Array Value} {below : List Frame} {meth : Method} {co : Code} {Q : State → Prop} {L : wL} {M : wM} {h : Nat → Nat} {r : Int32} {m9 : wm} (F : CallFix p mi co cX3_call 7 s args wsX3_call RX3) (G : qw_G L (qw_A L) s) (hv : qw_9 L) (hQ : qw_RI p l e rm_X3_call s mi args below meth co cX3_call .int Q L r (qw_u1 M 9 m9) h) : ∀ (x1 : Int32) (x2 : Int32) (m : wm) (H : Heap) (locs : List Loc) (ls : Array Slot), qf_X3_call x1 x2 m = some (r, m9) → qw_P L (qw_u1 M 9 m) h H → va_S (qw_A L) s.heap H locs → lv_has ls 7 [(0, .ref (qw_ad L 9 0)), (1, .int x1), (2, .int x2)] → W p l e rm_X3_call s mi args below meth co H locs 0 0 Q (F0 mi 0 ls []) := by
  intro x1 x2 m H locs ls hf hP hS hl
  unfold qf_X3_call at hf
  refine lv_iload_n F.1 F.2.1 dX3_call_0 rfl (lv_at hl 1 rfl) ?_
  refine lv_iconst (v := (nI 0)) F.1 F.2.1 dX3_call_1 (by decide) ?_
  refine lv_bipush (v := (nI 15)) F.1 F.2.1 dX3_call_2 (by decide) ?_
  obtain ⟨r1, k2, hf⟩ := qb1_x hf
  refine qr_cSi F G hP hS (qc_X3_in l G.2.1 k2) gX3_call_X3_in rfl ⟨rfl, rfl⟩ e_X3_in ⟨Nat.le_of_ble_eq_true rfl, Nat.le_of_ble_eq_true rfl⟩ rfl hl.1 rfl (Nat.le_of_ble_eq_true rfl) ⟨Nat.zero_le _, Nat.zero_le _⟩ dX3_call_4 (fun H locs hP hS => ?_)
  refine lv_if_eq (tgt := 21) F.1 F.2.1 dX3_call_7 (by decide) (fun c3 => ?_) (fun c3 => ?_)
  · replace hf := qi_t c3 hf
    refine lv_iconst (v := (-1 : Int32)) F.1 F.2.1 dX3_call_21 (by decide) ?_
    obtain ⟨e9, e8⟩ := qs2 hf
    subst e9
    subst e8
    exact hQ _ _ _ _ hP hS rfl dX3_call_22
  · replace hf := qi_f c3 hf
    refine lv_iload_n F.1 F.2.1 dX3_call_10 rfl (lv_at hl 2 rfl) ?_
    refine lv_iconst (v := (nI 0)) F.1 F.2.1 dX3_call_11 (by decide) ?_
    refine lv_sipush (v := (nI 999)) F.1 F.2.1 dX3_call_12 (by decide) ?_
    obtain ⟨r4, k5, hf⟩ := qb1_x hf
    refine qr_cSi F G hP hS (qc_X3_in l G.2.1 k5) gX3_call_X3_in rfl ⟨rfl, rfl⟩ e_X3_in ⟨Nat.le_of_ble_eq_true rfl, Nat.le_of_ble_eq_true rfl⟩ rfl hl.1 rfl (Nat.le_of_ble_eq_true rfl) ⟨Nat.zero_le _, Nat.zero_le _⟩ dX3_call_15 (fun H locs hP hS => ?_)
    refine lv_if_ne (tgt := 23) F.1 F.2.1 dX3_call_18 (by decide) (fun c6 => ?_) (fun c6 => ?_)
    · replace hf := qi_f c6 hf
      refine lv_aload_n F.1 F.2.1 dX3_call_23 rfl (lv_at hl 0 rfl) ?_
      refine qr_gMr F G hv (fun w h => F.2.2.2.2 w (List.mem_cons_of_mem _ (List.mem_append_right _ h))) hP 0 1 (by decide) (List.mem_of_getElem? (i := 1) rfl) dX3_call_24 ?_
      refine lv_iconst (v := (nI 0)) F.1 F.2.1 dX3_call_27 (by decide) ?_
      obtain ⟨z7, ez7, hf⟩ := qn_x hf
      refine qr_ald F G hP (qw_u1s _ _ _) (qw_I9 (c := 1) (n := 935) hv (by decide)) (by unfold vp_in; decide) (by decide) ez7 dX3_call_28 ?_
      refine lv_bipush (v := (nI 40)) F.1 F.2.1 dX3_call_29 (by decide) ?_
      refine lv_icmp_eq (tgt := 46) F.1 F.2.1 dX3_call_31 (by decide) (fun c8 => ?_) (fun c8 => ?_)
      · replace hf := qi_t c8 hf
        refine lv_bipush (v := (-3 : Int32)) F.1 F.2.1 dX3_call_46 (by decide) ?_
        obtain ⟨e9, e8⟩ := qs2 hf
        subst e9
        subst e8
        exact hQ _ _ _ _ hP hS rfl dX3_call_48
      · replace hf := qi_f c8 hf
        refine lv_aload_n F.1 F.2.1 dX3_call_34 rfl (lv_at hl 0 rfl) ?_
        refine qr_gMr F G hv (fun w h => F.2.2.2.2 w (List.mem_cons_of_mem _ (List.mem_append_right _ h))) hP 0 1 (by decide) (List.mem_of_getElem? (i := 1) rfl) dX3_call_35 ?_
        refine lv_iconst (v := (nI 1)) F.1 F.2.1 dX3_call_38 (by decide) ?_
        obtain ⟨z9, ez9, hf⟩ := qn_x hf
        refine qr_ald F G hP (qw_u1s _ _ _) (qw_I9 (c := 1) (n := 935) hv (by decide)) (by unfold vp_in; decide) (by decide) ez9 dX3_call_39 ?_
        refine lv_sipush (v := (nI 200)) F.1 F.2.1 dX3_call_40 (by decide) ?_
        refine lv_icmp_ne (tgt := 49) F.1 F.2.1 dX3_call_43 (by decide) (fun c10 => ?_) (fun c10 => ?_)
        · replace hf := qi_f c10 hf
          refine lv_aload_n F.1 F.2.1 dX3_call_49 rfl (lv_at hl 0 rfl) ?_
          obtain ⟨m12, k11, hf⟩ := qb1_x hf
          refine qr_cVv F G hP hS (qc_X3_acts l G.2.1 (qw_u1s _ _ _) (qw_fx rfl) hv k11) (qw_rcM hv) gX3_call_X3_acts rfl ⟨rfl, rfl⟩ e_X3_acts ⟨Nat.le_of_ble_eq_true rfl, Nat.le_of_ble_eq_true rfl⟩ rfl hl.1 rfl (Nat.le_of_ble_eq_true rfl) ⟨Nat.zero_le _, Nat.zero_le _⟩ dX3_call_50 (fun H locs hP hS => ?_)
          refine lv_aload_n F.1 F.2.1 dX3_call_53 rfl (lv_at hl 0 rfl) ?_
          refine qr_gMr F G hv (fun w h => F.2.2.2.2 w (List.mem_cons_of_mem _ (List.mem_append_right _ h))) hP 0 1 (by decide) (List.mem_of_getElem? (i := 1) rfl) dX3_call_54 ?_
          refine lv_iconst (v := (nI 2)) F.1 F.2.1 dX3_call_57 (by decide) ?_
          obtain ⟨z13, ez13, hf⟩ := qn_x hf
          refine qr_ald F G hP (qw_u1s _ _ _) (qw_I9 (c := 1) (n := 935) hv (by decide)) (by unfold vp_in; decide) (by decide) ez13 dX3_call_58 ?_
          refine lv_istore_n (lv' := [(3, .int z13), (0, .ref (qw_ad L 9 0)), (1, .int x1), (2, .int x2)]) F.1 F.2.1 dX3_call_59 rfl hl (by decide) rfl (fun ls hl => ?_)
          refine lv_aload_n F.1 F.2.1 dX3_call_60 rfl (lv_at hl 1 rfl) ?_
          refine qr_gMr F G hv (fun w h => F.2.2.2.2 w (List.mem_cons_of_mem _ (List.mem_append_right _ h))) hP 0 1 (by decide) (List.mem_of_getElem? (i := 1) rfl) dX3_call_61 ?_
          refine lv_bipush (v := (nI 12)) F.1 F.2.1 dX3_call_64 (by decide) ?_
          obtain ⟨z14, ez14, hf⟩ := qn_x hf
          refine qr_ald F G hP (qw_u1s _ _ _) (qw_I9 (c := 1) (n := 935) hv (by decide)) (by unfold vp_in; decide) (by decide) ez14 dX3_call_66 ?_
          refine lv_iconst (v := (nI 1)) F.1 F.2.1 dX3_call_67 (by decide) ?_
          obtain ⟨z15, ez15, hf⟩ := qn_x hf
          refine qr_iadd F ez15 dX3_call_68 ?_
          refine lv_aload_n F.1 F.2.1 dX3_call_69 rfl (lv_at hl 1 rfl) ?_
          refine qr_gMr F G hv (fun w h => F.2.2.2.2 w (List.mem_cons_of_mem _ (List.mem_append_right _ h))) hP 0 1 (by decide) (List.mem_of_getElem? (i := 1) rfl) dX3_call_70 ?_
          refine lv_bipush (v := (nI 11)) F.1 F.2.1 dX3_call_73 (by decide) ?_
          obtain ⟨z16, ez16, hf⟩ := qn_x hf
          refine qr_ald F G hP (qw_u1s _ _ _) (qw_I9 (c := 1) (n := 935) hv (by decide)) (by unfold vp_in; decide) (by decide) ez16 dX3_call_75 ?_
          obtain ⟨g18, hf⟩ := qg_x hf
          obtain ⟨z17, ez17, hf⟩ := qn_x hf
          refine qr_irem F g18 ez17 dX3_call_76 ?_
          refine lv_istore (lv' := [(4, .int z17), (3, .int z13), (0, .ref (qw_ad L 9 0)), (1, .int x1), (2, .int x2)]) F.1 F.2.1 dX3_call_77 hl (by decide) rfl (fun ls hl => ?_)
          refine lv_iconst (v := (nI 0)) F.1 F.2.1 dX3_call_79 (by decide) ?_
          refine lv_istore (lv' := [(5, .int (nI 0)), (4, .int z17), (3, .int z13), (0, .ref (qw_ad L 9 0)), (1, .int x1), (2, .int x2)]) F.1 F.2.1 dX3_call_80 hl (by decide) rfl (fun ls hl => ?_)
          exact qb_X3_call_82 F G hv hQ _ _ _ _ _ _ _ _ _ _ hf hP hS (lv_sub hl [3, 4, 5, 2, 1, 0] rfl)
        · replace hf := qi_t c10 hf
          refine lv_bipush (v := (-3 : Int32)) F.1 F.2.1 dX3_call_46 (by decide) ?_
          obtain ⟨e9, e8⟩ := qs2 hf
          subst e9
          subst e8
          exact hQ _ _ _ _ hP hS rfl dX3_call_48
    · replace hf := qi_t c6 hf
      refine lv_iconst (v := (-1 : Int32)) F.1 F.2.1 dX3_call_21 (by decide) ?_
      obtain ⟨e9, e8⟩ := qs2 hf
      subst e9
      subst e8
      exact hQ _ _ _ _ hP hS rfl dX3_call_22
set_option maxRecDepth 100000 in
set_option maxHeartbeats 4000000 in
theorem qc_X3_call (l : Launch) {L : wL} (hJ : qw_J L) {X X9 : wM} {h : Nat → Nat} {m m9 : wm} (hX : X 9 = m) (hX9 : qw_u1 X 9 m9 = X9) {x1 x2 : Int32} {r : Int32} (hv : qw_9 L) (hf : qf_X3_call x1 x2 m = some (r, m9)) : qw_MI l yX3_call wsX3_call rm_X3_call L (.ref (qw_ad L 9 0) :: [.int x1, .int x2]) X h r X9 h := by
  subst hX
  subst hX9
  refine qw_MI_of (cc := cX3_call) (maxL := 7) (ty := .int) (by decide) rfl hJ (Nat.le_of_ble_eq_true rfl) ?_
  intro p e s mi below meth co Q ls F G hP hQ hl
  exact qb_X3_call F G hv hQ _ _ _ _ _ _ hf (by rw [qw_u1i]; exact hP) va_S.rf hl
def rm_X3_tail : Room := { frames := 1, cells := 0, slots := 0, locals := 22 }
theorem e_X3_tail : qw_hd yX3_tail RX3 1 := by decide +kernel
set_option maxRecDepth 100000 in
set_option maxHeartbeats 4000000 in
theorem qb_X3_tail {p : Program} {l : Launch} {e : Env} {s : State} {mi : MethodId} {args : Array Value} {below : List Frame} {meth : Method} {co : Code} {Q : State → Prop} {L : wL} {M : wM} {h : Nat → Nat} {r : Int32} {m9 : wm} (F : CallFix p mi co cX3_tail 4 s args wsX3_tail RX3) (G : qw_G L (qw_A L) s) (hv : qw_9 L) (hQ : qw_RI p l e rm_X3_tail s mi args below meth co cX3_tail .int Q L r (qw_u1 M 9 m9) h) : ∀ (x1 : Int32) (m : wm) (H : Heap) (locs : List Loc) (ls : Array Slot), qf_X3_tail x1 m = some (r, m9) → qw_P L (qw_u1 M 9 m) h H → va_S (qw_A L) s.heap H locs → lv_has ls 4 [(0, .ref (qw_ad L 9 0)), (1, .int x1)] → W p l e rm_X3_tail s mi args below meth co H locs 0 0 Q (F0 mi 0 ls []) := by
  intro x1 m H locs ls hf hP hS hl
  unfold qf_X3_tail at hf
  refine lv_iload_n F.1 F.2.1 dX3_tail_0 rfl (lv_at hl 1 rfl) ?_
  refine lv_iconst (v := (nI 0)) F.1 F.2.1 dX3_tail_1 (by decide) ?_
  refine lv_bipush (v := (nI 15)) F.1 F.2.1 dX3_tail_2 (by decide) ?_
  obtain ⟨r1, k2, hf⟩ := qb1_x hf
  refine qr_cSi F G hP hS (qc_X3_in l G.2.1 k2) gX3_tail_X3_in rfl ⟨rfl, rfl⟩ e_X3_in ⟨Nat.le_of_ble_eq_true rfl, Nat.le_of_ble_eq_true rfl⟩ rfl hl.1 rfl (Nat.le_of_ble_eq_true rfl) ⟨Nat.zero_le _, Nat.zero_le _⟩ dX3_tail_4 (fun H locs hP hS => ?_)
  refine lv_if_ne (tgt := 12) F.1 F.2.1 dX3_tail_7 (by decide) (fun c3 => ?_) (fun c3 => ?_)
  · replace hf := qi_f c3 hf
    refine lv_aload_n F.1 F.2.1 dX3_tail_12 rfl (lv_at hl 0 rfl) ?_
    refine qr_gMr F G hv (fun w h => F.2.2.2.2 w (List.mem_cons_of_mem _ (List.mem_append_right _ h))) hP 0 1 (by decide) (List.mem_of_getElem? (i := 1) rfl) dX3_tail_13 ?_
    refine lv_iconst (v := (nI 0)) F.1 F.2.1 dX3_tail_16 (by decide) ?_
    obtain ⟨z4, ez4, hf⟩ := qn_x hf
    refine qr_ald F G hP (qw_u1s _ _ _) (qw_I9 (c := 1) (n := 935) hv (by decide)) (by unfold vp_in; decide) (by decide) ez4 dX3_tail_17 ?_
    refine lv_if_ne (tgt := 24) F.1 F.2.1 dX3_tail_18 (by decide) (fun c5 => ?_) (fun c5 => ?_)
    · replace hf := qi_f c5 hf
      refine lv_aload_n F.1 F.2.1 dX3_tail_24 rfl (lv_at hl 0 rfl) ?_
      refine qr_gMr F G hv (fun w h => F.2.2.2.2 w (List.mem_cons_of_mem _ (List.mem_append_right _ h))) hP 0 1 (by decide) (List.mem_of_getElem? (i := 1) rfl) dX3_tail_25 ?_
      refine lv_iconst (v := (nI 1)) F.1 F.2.1 dX3_tail_28 (by decide) ?_
      obtain ⟨z6, ez6, hf⟩ := qn_x hf
      refine qr_ald F G hP (qw_u1s _ _ _) (qw_I9 (c := 1) (n := 935) hv (by decide)) (by unfold vp_in; decide) (by decide) ez6 dX3_tail_29 ?_
      refine lv_sipush (v := (nI 200)) F.1 F.2.1 dX3_tail_30 (by decide) ?_
      refine lv_icmp_ne (tgt := 39) F.1 F.2.1 dX3_tail_33 (by decide) (fun c7 => ?_) (fun c7 => ?_)
      · replace hf := qi_f c7 hf
        refine lv_aload_n F.1 F.2.1 dX3_tail_39 rfl (lv_at hl 0 rfl) ?_
        obtain ⟨m9, k8, hf⟩ := qb1_x hf
        refine qr_cVv F G hP hS (qc_X3_acts l G.2.1 (qw_u1s _ _ _) (qw_fx rfl) hv k8) (qw_rcM hv) gX3_tail_X3_acts rfl ⟨rfl, rfl⟩ e_X3_acts ⟨Nat.le_of_ble_eq_true rfl, Nat.le_of_ble_eq_true rfl⟩ rfl hl.1 rfl (Nat.le_of_ble_eq_true rfl) ⟨Nat.zero_le _, Nat.zero_le _⟩ dX3_tail_40 (fun H locs hP hS => ?_)
        refine lv_bipush (v := (nI 15)) F.1 F.2.1 dX3_tail_43 (by decide) ?_
        refine lv_iconst (v := (nI 5)) F.1 F.2.1 dX3_tail_45 (by decide) ?_
        refine lv_aload_n F.1 F.2.1 dX3_tail_46 rfl (lv_at hl 0 rfl) ?_
        refine qr_gMr F G hv (fun w h => F.2.2.2.2 w (List.mem_cons_of_mem _ (List.mem_append_right _ h))) hP 0 1 (by decide) (List.mem_of_getElem? (i := 1) rfl) dX3_tail_47 ?_
        refine lv_iconst (v := (nI 0)) F.1 F.2.1 dX3_tail_50 (by decide) ?_
        obtain ⟨z10, ez10, hf⟩ := qn_x hf
        refine qr_ald F G hP (qw_u1s _ _ _) (qw_I9 (c := 1) (n := 935) hv (by decide)) (by unfold vp_in; decide) (by decide) ez10 dX3_tail_51 ?_
        refine lv_iconst (v := (nI 1)) F.1 F.2.1 dX3_tail_52 (by decide) ?_
        obtain ⟨z11, ez11, hf⟩ := qn_x hf
        refine qr_isub F ez11 dX3_tail_53 ?_
        obtain ⟨z12, ez12, hf⟩ := qn_x hf
        refine qr_imul F ez12 dX3_tail_54 ?_
        obtain ⟨z13, ez13, hf⟩ := qn_x hf
        refine qr_iadd F ez13 dX3_tail_55 ?_
        refine lv_iconst (v := (nI 1)) F.1 F.2.1 dX3_tail_56 (by decide) ?_
        obtain ⟨z14, ez14, hf⟩ := qn_x hf
        refine qr_iadd F ez14 dX3_tail_57 ?_
        refine lv_istore_n (lv' := [(2, .int z14), (0, .ref (qw_ad L 9 0)), (1, .int x1)]) F.1 F.2.1 dX3_tail_58 rfl hl (by decide) rfl (fun ls hl => ?_)
        refine lv_aload_n F.1 F.2.1 dX3_tail_59 rfl (lv_at hl 1 rfl) ?_
        refine qr_gMr F G hv (fun w h => F.2.2.2.2 w (List.mem_cons_of_mem _ (List.mem_append_right _ h))) hP 0 1 (by decide) (List.mem_of_getElem? (i := 1) rfl) dX3_tail_60 ?_
        refine lv_iload_n F.1 F.2.1 dX3_tail_63 rfl (lv_at hl 0 rfl) ?_
        obtain ⟨g16, hf⟩ := qg_x hf
        obtain ⟨z15, ez15, hf⟩ := qn_x hf
        refine qr_ald F G hP (qw_u1s _ _ _) (qw_I9 (c := 1) (n := 935) hv (by decide)) g16 rfl ez15 dX3_tail_64 ?_
        refine lv_istore_n (lv' := [(3, .int z15), (2, .int z14), (0, .ref (qw_ad L 9 0)), (1, .int x1)]) F.1 F.2.1 dX3_tail_65 rfl hl (by decide) rfl (fun ls hl => ?_)
        refine lv_aload_n F.1 F.2.1 dX3_tail_66 rfl (lv_at hl 2 rfl) ?_
        refine qr_gMr F G hv (fun w h => F.2.2.2.2 w (List.mem_cons_of_mem _ (List.mem_append_right _ h))) hP 0 1 (by decide) (List.mem_of_getElem? (i := 1) rfl) dX3_tail_67 ?_
        refine lv_iload_n F.1 F.2.1 dX3_tail_70 rfl (lv_at hl 1 rfl) ?_
        refine lv_iload_n F.1 F.2.1 dX3_tail_71 rfl (lv_at hl 3 rfl) ?_
        obtain ⟨g17, hf⟩ := qg_x hf
        obtain ⟨m18, em18, hf⟩ := qn_x hf
        refine qr_ast F G hP hS (qw_u1s _ _ _) (qw_I9 (c := 1) (n := 935) hv (by decide)) g17 rfl (qw_fx em18) dX3_tail_72 (fun H locs hP hS => ?_)
        refine lv_aload_n F.1 F.2.1 dX3_tail_73 rfl (lv_at hl 2 rfl) ?_
        refine lv_iconst (v := (nI 1)) F.1 F.2.1 dX3_tail_74 (by decide) ?_
        refine lv_iload_n F.1 F.2.1 dX3_tail_75 rfl (lv_at hl 3 rfl) ?_
        obtain ⟨m20, k19, hf⟩ := qb1_x hf
        refine qr_cVv F G hP hS (qc_X3_notes l G.2.1 (qw_u1s _ _ _) (qw_fx rfl) hv k19) (qw_rcM hv) gX3_tail_X3_notes rfl ⟨rfl, rfl⟩ e_X3_notes ⟨Nat.le_of_ble_eq_true rfl, Nat.le_of_ble_eq_true rfl⟩ rfl hl.1 rfl (Nat.le_of_ble_eq_true rfl) ⟨Nat.zero_le _, Nat.zero_le _⟩ dX3_tail_76 (fun H locs hP hS => ?_)
        refine lv_iload_n F.1 F.2.1 dX3_tail_79 rfl (lv_at hl 0 rfl) ?_
        obtain ⟨e9, e8⟩ := qs2 hf
        subst e9
        subst e8
        exact hQ _ _ _ _ hP hS rfl dX3_tail_80
      · replace hf := qi_t c7 hf
        refine lv_bipush (v := (-3 : Int32)) F.1 F.2.1 dX3_tail_36 (by decide) ?_
        obtain ⟨e9, e8⟩ := qs2 hf
        subst e9
        subst e8
        exact hQ _ _ _ _ hP hS rfl dX3_tail_38
    · replace hf := qi_t c5 hf
      refine lv_bipush (v := (-2 : Int32)) F.1 F.2.1 dX3_tail_21 (by decide) ?_
      obtain ⟨e9, e8⟩ := qs2 hf
      subst e9
      subst e8
      exact hQ _ _ _ _ hP hS rfl dX3_tail_23
  · replace hf := qi_t c3 hf
    refine lv_iconst (v := (-1 : Int32)) F.1 F.2.1 dX3_tail_10 (by decide) ?_
    obtain ⟨e9, e8⟩ := qs2 hf
    subst e9
    subst e8
    exact hQ _ _ _ _ hP hS rfl dX3_tail_11
set_option maxRecDepth 100000 in
set_option maxHeartbeats 4000000 in
theorem qc_X3_tail (l : Launch) {L : wL} (hJ : qw_J L) {X X9 : wM} {h : Nat → Nat} {m m9 : wm} (hX : X 9 = m) (hX9 : qw_u1 X 9 m9 = X9) {x1 : Int32} {r : Int32} (hv : qw_9 L) (hf : qf_X3_tail x1 m = some (r, m9)) : qw_MI l yX3_tail wsX3_tail rm_X3_tail L (.ref (qw_ad L 9 0) :: [.int x1]) X h r X9 h := by
  subst hX
  subst hX9
  refine qw_MI_of (cc := cX3_tail) (maxL := 4) (ty := .int) (by decide) rfl hJ (Nat.le_of_ble_eq_true rfl) ?_
  intro p e s mi below meth co Q ls F G hP hQ hl
  exact qb_X3_tail F G hv hQ _ _ _ _ _ hf (by rw [qw_u1i]; exact hP) va_S.rf hl
def rm_X3_tells : Room := { frames := 1, cells := 0, slots := 0, locals := 22 }
theorem e_X3_tells : qw_hd yX3_tells RX3 3 := by decide +kernel
set_option maxRecDepth 100000 in
set_option maxHeartbeats 4000000 in
theorem qb_X3_tells_59 {p : Program} {l : Launch} {e : Env} {s : State} {mi : MethodId} {args : Array Value} {below : List Frame} {meth : Method} {co : Code} {Q : State → Prop} {L : wL} {M : wM} {h : Nat → Nat} {m9 : wm} (F : CallFix p mi co cX3_tells 5 s args wsX3_tells RX3) (G : qw_G L (qw_A L) s) (hv : qw_9 L) (hQ : qw_RV p l e rm_X3_tells s mi args below meth co cX3_tells Q L (qw_u1 M 9 m9) h) : ∀ (x1 : Int32) (x2 : Int32) (x3 : Int32) (m : wm) (H : Heap) (locs : List Loc) (ls : Array Slot), qf_X3_tells_59 x1 x2 x3 m = some m9 → qw_P L (qw_u1 M 9 m) h H → va_S (qw_A L) s.heap H locs → lv_has ls 5 [(0, .ref (qw_ad L 9 0)), (1, .int x1), (2, .int x2), (3, .int x3)] → W p l e rm_X3_tells s mi args below meth co H locs 0 0 Q (F0 mi 59 ls []) := by
  intro x1 x2 x3 m H locs ls hf hP hS hl
  unfold qf_X3_tells_59 at hf
  refine lv_sipush (v := (nI 263)) F.1 F.2.1 dX3_tells_59 (by decide) ?_
  refine lv_bipush (v := (nI 6)) F.1 F.2.1 dX3_tells_62 (by decide) ?_
  refine lv_aload_n F.1 F.2.1 dX3_tells_64 rfl (lv_at hl 0 rfl) ?_
  refine qr_gMr F G hv (fun w h => F.2.2.2.2 w (List.mem_cons_of_mem _ (List.mem_append_right _ h))) hP 0 1 (by decide) (List.mem_of_getElem? (i := 1) rfl) dX3_tells_65 ?_
  refine lv_bipush (v := (nI 10)) F.1 F.2.1 dX3_tells_68 (by decide) ?_
  obtain ⟨z1, ez1, hf⟩ := qn_x hf
  refine qr_ald F G hP (qw_u1s _ _ _) (qw_I9 (c := 1) (n := 935) hv (by decide)) (by unfold vp_in; decide) (by decide) ez1 dX3_tells_70 ?_
  obtain ⟨z2, ez2, hf⟩ := qn_x hf
  refine qr_imul F ez2 dX3_tells_71 ?_
  obtain ⟨z3, ez3, hf⟩ := qn_x hf
  refine qr_iadd F ez3 dX3_tells_72 ?_
  refine lv_istore (lv' := [(4, .int z3), (0, .ref (qw_ad L 9 0)), (1, .int x1), (2, .int x2), (3, .int x3)]) F.1 F.2.1 dX3_tells_73 hl (by decide) rfl (fun ls hl => ?_)
  refine lv_aload_n F.1 F.2.1 dX3_tells_75 rfl (lv_at hl 1 rfl) ?_
  refine qr_gMr F G hv (fun w h => F.2.2.2.2 w (List.mem_cons_of_mem _ (List.mem_append_right _ h))) hP 0 1 (by decide) (List.mem_of_getElem? (i := 1) rfl) dX3_tells_76 ?_
  refine lv_iload F.1 F.2.1 dX3_tells_79 (lv_at hl 0 rfl) ?_
  refine lv_iload_n F.1 F.2.1 dX3_tells_81 rfl (lv_at hl 2 rfl) ?_
  obtain ⟨g4, hf⟩ := qg_x hf
  obtain ⟨m5, em5, hf⟩ := qn_x hf
  refine qr_ast F G hP hS (qw_u1s _ _ _) (qw_I9 (c := 1) (n := 935) hv (by decide)) g4 rfl (qw_fx em5) dX3_tells_82 (fun H locs hP hS => ?_)
  refine lv_aload_n F.1 F.2.1 dX3_tells_83 rfl (lv_at hl 1 rfl) ?_
  refine qr_gMr F G hv (fun w h => F.2.2.2.2 w (List.mem_cons_of_mem _ (List.mem_append_right _ h))) hP 0 1 (by decide) (List.mem_of_getElem? (i := 1) rfl) dX3_tells_84 ?_
  refine lv_iload F.1 F.2.1 dX3_tells_87 (lv_at hl 0 rfl) ?_
  refine lv_iconst (v := (nI 1)) F.1 F.2.1 dX3_tells_89 (by decide) ?_
  obtain ⟨z6, ez6, hf⟩ := qn_x hf
  refine qr_iadd F ez6 dX3_tells_90 ?_
  refine lv_iload_n F.1 F.2.1 dX3_tells_91 rfl (lv_at hl 3 rfl) ?_
  obtain ⟨g7, hf⟩ := qg_x hf
  obtain ⟨m8, em8, hf⟩ := qn_x hf
  refine qr_ast F G hP hS (qw_u1s _ _ _) (qw_I9 (c := 1) (n := 935) hv (by decide)) g7 rfl (qw_fx em8) dX3_tells_92 (fun H locs hP hS => ?_)
  refine lv_aload_n F.1 F.2.1 dX3_tells_93 rfl (lv_at hl 1 rfl) ?_
  refine qr_gMr F G hv (fun w h => F.2.2.2.2 w (List.mem_cons_of_mem _ (List.mem_append_right _ h))) hP 0 1 (by decide) (List.mem_of_getElem? (i := 1) rfl) dX3_tells_94 ?_
  refine lv_iload F.1 F.2.1 dX3_tells_97 (lv_at hl 0 rfl) ?_
  refine lv_iconst (v := (nI 2)) F.1 F.2.1 dX3_tells_99 (by decide) ?_
  obtain ⟨z9, ez9, hf⟩ := qn_x hf
  refine qr_iadd F ez9 dX3_tells_100 ?_
  refine lv_aload_n F.1 F.2.1 dX3_tells_101 rfl (lv_at hl 1 rfl) ?_
  refine lv_iload_n F.1 F.2.1 dX3_tells_102 rfl (lv_at hl 4 rfl) ?_
  refine lv_iconst (v := (nI 0)) F.1 F.2.1 dX3_tells_103 (by decide) ?_
  obtain ⟨r10, k11, hf⟩ := qb1_x hf
  refine qr_cVi F G hP hS (qc_X3_ofFrame l G.2.1 (qw_u1s _ _ _) hv k11) (qw_rcM hv) gX3_tells_X3_ofFrame rfl ⟨rfl, rfl⟩ e_X3_ofFrame ⟨Nat.le_of_ble_eq_true rfl, Nat.le_of_ble_eq_true rfl⟩ rfl hl.1 rfl (Nat.le_of_ble_eq_true rfl) ⟨Nat.zero_le _, Nat.zero_le _⟩ dX3_tells_104 (fun H locs hP hS => ?_)
  obtain ⟨g12, hf⟩ := qg_x hf
  obtain ⟨m13, em13, hf⟩ := qn_x hf
  refine qr_ast F G hP hS (qw_u1s _ _ _) (qw_I9 (c := 1) (n := 935) hv (by decide)) g12 rfl (qw_fx em13) dX3_tells_107 (fun H locs hP hS => ?_)
  refine lv_aload_n F.1 F.2.1 dX3_tells_108 rfl (lv_at hl 1 rfl) ?_
  refine qr_gMr F G hv (fun w h => F.2.2.2.2 w (List.mem_cons_of_mem _ (List.mem_append_right _ h))) hP 0 1 (by decide) (List.mem_of_getElem? (i := 1) rfl) dX3_tells_109 ?_
  refine lv_iload F.1 F.2.1 dX3_tells_112 (lv_at hl 0 rfl) ?_
  refine lv_iconst (v := (nI 3)) F.1 F.2.1 dX3_tells_114 (by decide) ?_
  obtain ⟨z14, ez14, hf⟩ := qn_x hf
  refine qr_iadd F ez14 dX3_tells_115 ?_
  refine lv_aload_n F.1 F.2.1 dX3_tells_116 rfl (lv_at hl 1 rfl) ?_
  refine lv_aload_n F.1 F.2.1 dX3_tells_117 rfl (lv_at hl 1 rfl) ?_
  refine qr_gMr F G hv (fun w h => F.2.2.2.2 w (List.mem_cons_of_mem _ (List.mem_append_right _ h))) hP 0 1 (by decide) (List.mem_of_getElem? (i := 1) rfl) dX3_tells_118 ?_
  refine lv_bipush (v := (nI 12)) F.1 F.2.1 dX3_tells_121 (by decide) ?_
  obtain ⟨z15, ez15, hf⟩ := qn_x hf
  refine qr_ald F G hP (qw_u1s _ _ _) (qw_I9 (c := 1) (n := 935) hv (by decide)) (by unfold vp_in; decide) (by decide) ez15 dX3_tells_123 ?_
  refine lv_iconst (v := (nI 1)) F.1 F.2.1 dX3_tells_124 (by decide) ?_
  obtain ⟨r16, k17, hf⟩ := qb1_x hf
  refine qr_cVi F G hP hS (qc_X3_ofSlot l G.2.1 (qw_u1s _ _ _) hv k17) (qw_rcM hv) gX3_tells_X3_ofSlot rfl ⟨rfl, rfl⟩ e_X3_ofSlot ⟨Nat.le_of_ble_eq_true rfl, Nat.le_of_ble_eq_true rfl⟩ rfl hl.1 rfl (Nat.le_of_ble_eq_true rfl) ⟨Nat.zero_le _, Nat.zero_le _⟩ dX3_tells_125 (fun H locs hP hS => ?_)
  obtain ⟨g18, hf⟩ := qg_x hf
  obtain ⟨m19, em19, hf⟩ := qn_x hf
  refine qr_ast F G hP hS (qw_u1s _ _ _) (qw_I9 (c := 1) (n := 935) hv (by decide)) g18 rfl (qw_fx em19) dX3_tells_128 (fun H locs hP hS => ?_)
  refine lv_aload_n F.1 F.2.1 dX3_tells_129 rfl (lv_at hl 1 rfl) ?_
  refine qr_gMr F G hv (fun w h => F.2.2.2.2 w (List.mem_cons_of_mem _ (List.mem_append_right _ h))) hP 0 1 (by decide) (List.mem_of_getElem? (i := 1) rfl) dX3_tells_130 ?_
  refine lv_iload F.1 F.2.1 dX3_tells_133 (lv_at hl 0 rfl) ?_
  refine lv_iconst (v := (nI 4)) F.1 F.2.1 dX3_tells_135 (by decide) ?_
  obtain ⟨z20, ez20, hf⟩ := qn_x hf
  refine qr_iadd F ez20 dX3_tells_136 ?_
  refine lv_aload_n F.1 F.2.1 dX3_tells_137 rfl (lv_at hl 1 rfl) ?_
  refine lv_iload_n F.1 F.2.1 dX3_tells_138 rfl (lv_at hl 4 rfl) ?_
  refine lv_iconst (v := (nI 2)) F.1 F.2.1 dX3_tells_139 (by decide) ?_
  obtain ⟨r21, k22, hf⟩ := qb1_x hf
  refine qr_cVi F G hP hS (qc_X3_ofFrame l G.2.1 (qw_u1s _ _ _) hv k22) (qw_rcM hv) gX3_tells_X3_ofFrame rfl ⟨rfl, rfl⟩ e_X3_ofFrame ⟨Nat.le_of_ble_eq_true rfl, Nat.le_of_ble_eq_true rfl⟩ rfl hl.1 rfl (Nat.le_of_ble_eq_true rfl) ⟨Nat.zero_le _, Nat.zero_le _⟩ dX3_tells_140 (fun H locs hP hS => ?_)
  obtain ⟨g23, hf⟩ := qg_x hf
  obtain ⟨m24, em24, hf⟩ := qn_x hf
  refine qr_ast F G hP hS (qw_u1s _ _ _) (qw_I9 (c := 1) (n := 935) hv (by decide)) g23 rfl (qw_fx em24) dX3_tells_143 (fun H locs hP hS => ?_)
  refine lv_aload_n F.1 F.2.1 dX3_tells_144 rfl (lv_at hl 1 rfl) ?_
  refine qr_gMr F G hv (fun w h => F.2.2.2.2 w (List.mem_cons_of_mem _ (List.mem_append_right _ h))) hP 0 1 (by decide) (List.mem_of_getElem? (i := 1) rfl) dX3_tells_145 ?_
  refine lv_iload F.1 F.2.1 dX3_tells_148 (lv_at hl 0 rfl) ?_
  refine lv_iconst (v := (nI 5)) F.1 F.2.1 dX3_tells_150 (by decide) ?_
  obtain ⟨z25, ez25, hf⟩ := qn_x hf
  refine qr_iadd F ez25 dX3_tells_151 ?_
  refine lv_aload_n F.1 F.2.1 dX3_tells_152 rfl (lv_at hl 1 rfl) ?_
  refine qr_gMr F G hv (fun w h => F.2.2.2.2 w (List.mem_cons_of_mem _ (List.mem_append_right _ h))) hP 0 1 (by decide) (List.mem_of_getElem? (i := 1) rfl) dX3_tells_153 ?_
  refine lv_iconst (v := (nI 1)) F.1 F.2.1 dX3_tells_156 (by decide) ?_
  obtain ⟨z26, ez26, hf⟩ := qn_x hf
  refine qr_ald F G hP (qw_u1s _ _ _) (qw_I9 (c := 1) (n := 935) hv (by decide)) (by unfold vp_in; decide) (by decide) ez26 dX3_tells_157 ?_
  obtain ⟨g27, hf⟩ := qg_x hf
  obtain ⟨m28, em28, hf⟩ := qn_x hf
  refine qr_ast F G hP hS (qw_u1s _ _ _) (qw_I9 (c := 1) (n := 935) hv (by decide)) g27 rfl (qw_fx em28) dX3_tells_158 (fun H locs hP hS => ?_)
  refine lv_aload_n F.1 F.2.1 dX3_tells_159 rfl (lv_at hl 1 rfl) ?_
  refine qr_gMr F G hv (fun w h => F.2.2.2.2 w (List.mem_cons_of_mem _ (List.mem_append_right _ h))) hP 0 1 (by decide) (List.mem_of_getElem? (i := 1) rfl) dX3_tells_160 ?_
  refine lv_bipush (v := (nI 10)) F.1 F.2.1 dX3_tells_163 (by decide) ?_
  refine lv_dup2_11 F.1 F.2.1 dX3_tells_165 rfl rfl ?_
  obtain ⟨z29, ez29, hf⟩ := qn_x hf
  refine qr_ald F G hP (qw_u1s _ _ _) (qw_I9 (c := 1) (n := 935) hv (by decide)) (by unfold vp_in; decide) (by decide) ez29 dX3_tells_166 ?_
  refine lv_iconst (v := (nI 1)) F.1 F.2.1 dX3_tells_167 (by decide) ?_
  obtain ⟨z30, ez30, hf⟩ := qn_x hf
  refine qr_iadd F ez30 dX3_tells_168 ?_
  obtain ⟨m31, em31, hf⟩ := qn_x hf
  refine qr_ast F G hP hS (qw_u1s _ _ _) (qw_I9 (c := 1) (n := 935) hv (by decide)) (by unfold vp_in; decide) (by decide) (qw_fx em31) dX3_tells_169 (fun H locs hP hS => ?_)
  refine lv_iload_n F.1 F.2.1 dX3_tells_170 rfl (lv_at hl 3 rfl) ?_
  refine lv_bipush (v := (-9 : Int32)) F.1 F.2.1 dX3_tells_171 (by decide) ?_
  refine lv_icmp_eq (tgt := 190) F.1 F.2.1 dX3_tells_173 (by decide) (fun c32 => ?_) (fun c32 => ?_)
  · replace hf := qi_t c32 hf
    have e8 := qs1 hf
    subst e8
    exact hQ _ _ _ _ hP hS dX3_tells_190
  · replace hf := qi_f c32 hf
    refine lv_aload_n F.1 F.2.1 dX3_tells_176 rfl (lv_at hl 1 rfl) ?_
    refine qr_gMr F G hv (fun w h => F.2.2.2.2 w (List.mem_cons_of_mem _ (List.mem_append_right _ h))) hP 0 1 (by decide) (List.mem_of_getElem? (i := 1) rfl) dX3_tells_177 ?_
    refine lv_sipush (v := (nI 735)) F.1 F.2.1 dX3_tells_180 (by decide) ?_
    refine lv_iload_n F.1 F.2.1 dX3_tells_183 rfl (lv_at hl 3 rfl) ?_
    obtain ⟨z33, ez33, hf⟩ := qn_x hf
    refine qr_iadd F ez33 dX3_tells_184 ?_
    refine lv_dup2_11 F.1 F.2.1 dX3_tells_185 rfl rfl ?_
    obtain ⟨g35, hf⟩ := qg_x hf
    obtain ⟨z34, ez34, hf⟩ := qn_x hf
    refine qr_ald F G hP (qw_u1s _ _ _) (qw_I9 (c := 1) (n := 935) hv (by decide)) g35 rfl ez34 dX3_tells_186 ?_
    refine lv_iconst (v := (nI 1)) F.1 F.2.1 dX3_tells_187 (by decide) ?_
    obtain ⟨z36, ez36, hf⟩ := qn_x hf
    refine qr_iadd F ez36 dX3_tells_188 ?_
    obtain ⟨g37, hf⟩ := qg_x hf
    obtain ⟨m38, em38, hf⟩ := qn_x hf
    refine qr_ast F G hP hS (qw_u1s _ _ _) (qw_I9 (c := 1) (n := 935) hv (by decide)) g37 rfl (qw_fx em38) dX3_tells_189 (fun H locs hP hS => ?_)
    have e8 := qs1 hf
    subst e8
    exact hQ _ _ _ _ hP hS dX3_tells_190
set_option maxRecDepth 100000 in
set_option maxHeartbeats 4000000 in
theorem qb_X3_tells_48 {p : Program} {l : Launch} {e : Env} {s : State} {mi : MethodId} {args : Array Value} {below : List Frame} {meth : Method} {co : Code} {Q : State → Prop} {L : wL} {M : wM} {h : Nat → Nat} {m9 : wm} (F : CallFix p mi co cX3_tells 5 s args wsX3_tells RX3) (G : qw_G L (qw_A L) s) (hv : qw_9 L) (hQ : qw_RV p l e rm_X3_tells s mi args below meth co cX3_tells Q L (qw_u1 M 9 m9) h) : ∀ (x1 : Int32) (x2 : Int32) (x3 : Int32) (m : wm) (H : Heap) (locs : List Loc) (ls : Array Slot), qf_X3_tells_48 x1 x2 x3 m = some m9 → qw_P L (qw_u1 M 9 m) h H → va_S (qw_A L) s.heap H locs → lv_has ls 5 [(0, .ref (qw_ad L 9 0)), (1, .int x1), (2, .int x2), (3, .int x3)] → W p l e rm_X3_tells s mi args below meth co H locs 0 0 Q (F0 mi 48 ls []) := by
  intro x1 x2 x3 m H locs ls hf hP hS hl
  unfold qf_X3_tells_48 at hf
  refine lv_aload_n F.1 F.2.1 dX3_tells_48 rfl (lv_at hl 0 rfl) ?_
  refine qr_gMr F G hv (fun w h => F.2.2.2.2 w (List.mem_cons_of_mem _ (List.mem_append_right _ h))) hP 0 1 (by decide) (List.mem_of_getElem? (i := 1) rfl) dX3_tells_49 ?_
  refine lv_bipush (v := (nI 10)) F.1 F.2.1 dX3_tells_52 (by decide) ?_
  refine lv_dup2_11 F.1 F.2.1 dX3_tells_54 rfl rfl ?_
  obtain ⟨z1, ez1, hf⟩ := qn_x hf
  refine qr_ald F G hP (qw_u1s _ _ _) (qw_I9 (c := 1) (n := 935) hv (by decide)) (by unfold vp_in; decide) (by decide) ez1 dX3_tells_55 ?_
  refine lv_iconst (v := (nI 1)) F.1 F.2.1 dX3_tells_56 (by decide) ?_
  obtain ⟨z2, ez2, hf⟩ := qn_x hf
  refine qr_isub F ez2 dX3_tells_57 ?_
  obtain ⟨m3, em3, hf⟩ := qn_x hf
  refine qr_ast F G hP hS (qw_u1s _ _ _) (qw_I9 (c := 1) (n := 935) hv (by decide)) (by unfold vp_in; decide) (by decide) (qw_fx em3) dX3_tells_58 (fun H locs hP hS => ?_)
  exact qb_X3_tells_59 F G hv hQ _ _ _ _ _ _ _ hf hP hS (lv_sub hl [0, 1, 2, 3] rfl)
set_option maxRecDepth 100000 in
set_option maxHeartbeats 4000000 in
theorem qb_X3_tells_17 {p : Program} {l : Launch} {e : Env} {s : State} {mi : MethodId} {args : Array Value} {below : List Frame} {meth : Method} {co : Code} {Q : State → Prop} {L : wL} {M : wM} {h : Nat → Nat} {m9 : wm} (F : CallFix p mi co cX3_tells 5 s args wsX3_tells RX3) (G : qw_G L (qw_A L) s) (hv : qw_9 L) (hQ : qw_RV p l e rm_X3_tells s mi args below meth co cX3_tells Q L (qw_u1 M 9 m9) h) : ∀ (n : Nat) (x1 : Int32) (x2 : Int32) (x3 : Int32) (x4 : Int32) (m : wm) (H : Heap) (locs : List Loc) (ls : Array Slot), qf_X3_tells_17 n x1 x2 x3 x4 m = some m9 → qw_P L (qw_u1 M 9 m) h H → va_S (qw_A L) s.heap H locs → lv_has ls 5 [(0, .ref (qw_ad L 9 0)), (1, .int x1), (2, .int x2), (3, .int x3), (4, .int x4)] → W p l e rm_X3_tells s mi args below meth co H locs 0 0 Q (F0 mi 17 ls []) := by
  intro n
  induction n with
  | zero =>
    intro x1 x2 x3 x4 m H locs ls hf hP hS hl
    rw [qf_X3_tells_17] at hf
    cases hf
  | succ n ih =>
    intro x1 x2 x3 x4 m H locs ls hf hP hS hl
    rw [qf_X3_tells_17] at hf
    refine lv_iload F.1 F.2.1 dX3_tells_17 (lv_at hl 4 rfl) ?_
    refine lv_sipush (v := (nI 329)) F.1 F.2.1 dX3_tells_19 (by decide) ?_
    refine lv_icmp_ge (tgt := 48) F.1 F.2.1 dX3_tells_22 (by decide) (fun c1 => ?_) (fun c1 => ?_)
    · replace hf := qi_t c1 hf
      exact qb_X3_tells_48 F G hv hQ _ _ _ _ _ _ _ hf hP hS (lv_sub hl [0, 1, 2, 3] rfl)
    · replace hf := qi_f c1 hf
      refine lv_aload_n F.1 F.2.1 dX3_tells_25 rfl (lv_at hl 0 rfl) ?_
      refine qr_gMr F G hv (fun w h => F.2.2.2.2 w (List.mem_cons_of_mem _ (List.mem_append_right _ h))) hP 0 1 (by decide) (List.mem_of_getElem? (i := 1) rfl) dX3_tells_26 ?_
      refine lv_iload F.1 F.2.1 dX3_tells_29 (lv_at hl 4 rfl) ?_
      refine lv_aload_n F.1 F.2.1 dX3_tells_31 rfl (lv_at hl 0 rfl) ?_
      refine qr_gMr F G hv (fun w h => F.2.2.2.2 w (List.mem_cons_of_mem _ (List.mem_append_right _ h))) hP 0 1 (by decide) (List.mem_of_getElem? (i := 1) rfl) dX3_tells_32 ?_
      refine lv_iload F.1 F.2.1 dX3_tells_35 (lv_at hl 4 rfl) ?_
      refine lv_bipush (v := (nI 6)) F.1 F.2.1 dX3_tells_37 (by decide) ?_
      obtain ⟨z2, ez2, hf⟩ := qn_x hf
      refine qr_iadd F ez2 dX3_tells_39 ?_
      obtain ⟨g4, hf⟩ := qg_x hf
      obtain ⟨z3, ez3, hf⟩ := qn_x hf
      refine qr_ald F G hP (qw_u1s _ _ _) (qw_I9 (c := 1) (n := 935) hv (by decide)) g4 rfl ez3 dX3_tells_40 ?_
      obtain ⟨g5, hf⟩ := qg_x hf
      obtain ⟨m6, em6, hf⟩ := qn_x hf
      refine qr_ast F G hP hS (qw_u1s _ _ _) (qw_I9 (c := 1) (n := 935) hv (by decide)) g5 rfl (qw_fx em6) dX3_tells_41 (fun H locs hP hS => ?_)
      obtain ⟨z7, ez7, hf⟩ := qn_x hf
      refine lv_iinc (v := z7) (lv' := [(4, .int z7), (0, .ref (qw_ad L 9 0)), (1, .int x1), (2, .int x2), (3, .int x3)]) F.1 F.2.1 dX3_tells_42 hl (k := 4) rfl ((qw_ii1 _).trans ez7.symm) (by decide) rfl (fun ls hl => ?_)
      refine lv_goto (tgt := 17) F.1 F.2.1 dX3_tells_45 (by decide) ?_
      exact ih _ _ _ _ _ _ _ _ hf hP hS (lv_sub hl [1, 2, 3, 4, 0] rfl)
set_option maxRecDepth 100000 in
set_option maxHeartbeats 4000000 in
theorem qb_X3_tells {p : Program} {l : Launch} {e : Env} {s : State} {mi : MethodId} {args : Array Value} {below : List Frame} {meth : Method} {co : Code} {Q : State → Prop} {L : wL} {M : wM} {h : Nat → Nat} {m9 : wm} (F : CallFix p mi co cX3_tells 5 s args wsX3_tells RX3) (G : qw_G L (qw_A L) s) (hv : qw_9 L) (hQ : qw_RV p l e rm_X3_tells s mi args below meth co cX3_tells Q L (qw_u1 M 9 m9) h) : ∀ (x1 : Int32) (x2 : Int32) (x3 : Int32) (m : wm) (H : Heap) (locs : List Loc) (ls : Array Slot), qf_X3_tells x1 x2 x3 m = some m9 → qw_P L (qw_u1 M 9 m) h H → va_S (qw_A L) s.heap H locs → lv_has ls 5 [(0, .ref (qw_ad L 9 0)), (1, .int x1), (2, .int x2), (3, .int x3)] → W p l e rm_X3_tells s mi args below meth co H locs 0 0 Q (F0 mi 0 ls []) := by
  intro x1 x2 x3 m H locs ls hf hP hS hl
  unfold qf_X3_tells at hf
  refine lv_aload_n F.1 F.2.1 dX3_tells_0 rfl (lv_at hl 0 rfl) ?_
  refine qr_gMr F G hv (fun w h => F.2.2.2.2 w (List.mem_cons_of_mem _ (List.mem_append_right _ h))) hP 0 1 (by decide) (List.mem_of_getElem? (i := 1) rfl) dX3_tells_1 ?_
  refine lv_bipush (v := (nI 10)) F.1 F.2.1 dX3_tells_4 (by decide) ?_
  obtain ⟨z1, ez1, hf⟩ := qn_x hf
  refine qr_ald F G hP (qw_u1s _ _ _) (qw_I9 (c := 1) (n := 935) hv (by decide)) (by unfold vp_in; decide) (by decide) ez1 dX3_tells_6 ?_
  refine lv_bipush (v := (nI 12)) F.1 F.2.1 dX3_tells_7 (by decide) ?_
  refine lv_icmp_ne (tgt := 59) F.1 F.2.1 dX3_tells_9 (by decide) (fun c2 => ?_) (fun c2 => ?_)
  · replace hf := qi_f c2 hf
    exact qb_X3_tells_59 F G hv hQ _ _ _ _ _ _ _ hf hP hS (lv_sub hl [0, 1, 2, 3] rfl)
  · replace hf := qi_t c2 hf
    refine lv_sipush (v := (nI 263)) F.1 F.2.1 dX3_tells_12 (by decide) ?_
    refine lv_istore (lv' := [(4, .int (nI 263)), (0, .ref (qw_ad L 9 0)), (1, .int x1), (2, .int x2), (3, .int x3)]) F.1 F.2.1 dX3_tells_15 hl (by decide) rfl (fun ls hl => ?_)
    exact qb_X3_tells_17 F G hv hQ _ _ _ _ _ _ _ _ _ hf hP hS (lv_sub hl [1, 2, 3, 4, 0] rfl)
set_option maxRecDepth 100000 in
set_option maxHeartbeats 4000000 in
theorem qc_X3_tells (l : Launch) {L : wL} (hJ : qw_J L) {X X9 : wM} {h : Nat → Nat} {m m9 : wm} (hX : X 9 = m) (hX9 : qw_u1 X 9 m9 = X9) {x1 x2 x3 : Int32} (hv : qw_9 L) (hf : qf_X3_tells x1 x2 x3 m = some m9) : qw_MV l yX3_tells wsX3_tells rm_X3_tells L (.ref (qw_ad L 9 0) :: [.int x1, .int x2, .int x3]) X h X9 h := by
  subst hX
  subst hX9
  refine qw_MV_of (cc := cX3_tells) (maxL := 5) (by decide) rfl hJ (Nat.le_of_ble_eq_true rfl) ?_
  intro p e s mi below meth co Q ls F G hP hQ hl
  exact qb_X3_tells F G hv hQ _ _ _ _ _ _ _ hf (by rw [qw_u1i]; exact hP) va_S.rf hl
def rm_X3_returns : Room := { frames := 2, cells := 0, slots := 0, locals := 46 }
theorem e_X3_returns : qw_hd yX3_returns RX3 0 := by decide +kernel
set_option maxRecDepth 100000 in
set_option maxHeartbeats 4000000 in
theorem qb_X3_returns_85 {p : Program} {l : Launch} {e : Env} {s : State} {mi : MethodId} {args : Array Value} {below : List Frame} {meth : Method} {co : Code} {Q : State → Prop} {L : wL} {M : wM} {h : Nat → Nat} {r : Int32} {m9 : wm} (F : CallFix p mi co cX3_returns 3 s args wsX3_returns RX3) (G : qw_G L (qw_A L) s) (hv : qw_9 L) (hQ : qw_RI p l e rm_X3_returns s mi args below meth co cX3_returns .int Q L r (qw_u1 M 9 m9) h) : ∀ (x2 : Int32) (y0 : Int32) (y1 : Int32) (y2 : Int32) (m : wm) (H : Heap) (locs : List Loc) (ls : Array Slot), qf_X3_returns_85 x2 y0 y1 y2 m = some (r, m9) → qw_P L (qw_u1 M 9 m) h H → va_S (qw_A L) s.heap H locs → lv_has ls 3 [(2, .int x2)] → W p l e rm_X3_returns s mi args below meth co H locs 0 0 Q (F0 mi 85 ls [.int y0, .int y1, .int y2, .ref (qw_ad L 9 1)]) := by
  intro x2 y0 y1 y2 m H locs ls hf hP hS hl
  unfold qf_X3_returns_85 at hf
  obtain ⟨z1, ez1, hf⟩ := qn_x hf
  refine qr_iadd F ez1 dX3_returns_85 ?_
  obtain ⟨g2, hf⟩ := qg_x hf
  obtain ⟨m3, em3, hf⟩ := qn_x hf
  refine qr_ast F G hP hS (qw_u1s _ _ _) (qw_I9 (c := 1) (n := 935) hv (by decide)) g2 rfl (qw_fx em3) dX3_returns_86 (fun H locs hP hS => ?_)
  refine lv_iload_n F.1 F.2.1 dX3_returns_87 rfl (lv_at hl 0 rfl) ?_
  refine lv_if_eq (tgt := 95) F.1 F.2.1 dX3_returns_88 (by decide) (fun c4 => ?_) (fun c4 => ?_)
  · replace hf := qi_t c4 hf
    refine lv_iconst (v := (nI 0)) F.1 F.2.1 dX3_returns_95 (by decide) ?_
    obtain ⟨e9, e8⟩ := qs2 hf
    subst e9
    subst e8
    exact hQ _ _ _ _ hP hS rfl dX3_returns_96
  · replace hf := qi_f c4 hf
    refine lv_iconst (v := (nI 1)) F.1 F.2.1 dX3_returns_91 (by decide) ?_
    refine lv_goto (tgt := 96) F.1 F.2.1 dX3_returns_92 (by decide) ?_
    obtain ⟨e9, e8⟩ := qs2 hf
    subst e9
    subst e8
    exact hQ _ _ _ _ hP hS rfl dX3_returns_96
set_option maxRecDepth 100000 in
set_option maxHeartbeats 4000000 in
theorem qb_X3_returns_56 {p : Program} {l : Launch} {e : Env} {s : State} {mi : MethodId} {args : Array Value} {below : List Frame} {meth : Method} {co : Code} {Q : State → Prop} {L : wL} {M : wM} {h : Nat → Nat} {r : Int32} {m9 : wm} (F : CallFix p mi co cX3_returns 3 s args wsX3_returns RX3) (G : qw_G L (qw_A L) s) (hv : qw_9 L) (hQ : qw_RI p l e rm_X3_returns s mi args below meth co cX3_returns .int Q L r (qw_u1 M 9 m9) h) : ∀ (y0 : Int32) (m : wm) (H : Heap) (locs : List Loc) (ls : Array Slot), qf_X3_returns_56 y0 m = some (r, m9) → qw_P L (qw_u1 M 9 m) h H → va_S (qw_A L) s.heap H locs → lv_has ls 3 [(0, .ref (qw_ad L 9 0))] → W p l e rm_X3_returns s mi args below meth co H locs 0 0 Q (F0 mi 56 ls [.int y0]) := by
  intro y0 m H locs ls hf hP hS hl
  unfold qf_X3_returns_56 at hf
  refine lv_istore_n (lv' := [(2, .int y0), (0, .ref (qw_ad L 9 0))]) F.1 F.2.1 dX3_returns_56 rfl hl (by decide) rfl (fun ls hl => ?_)
  refine lv_aload_n F.1 F.2.1 dX3_returns_57 rfl (lv_at hl 1 rfl) ?_
  refine qr_gMr F G hv (fun w h => F.2.2.2.2 w (List.mem_cons_of_mem _ (List.mem_append_right _ h))) hP 0 1 (by decide) (List.mem_of_getElem? (i := 1) rfl) dX3_returns_58 ?_
  refine lv_bipush (v := (nI 6)) F.1 F.2.1 dX3_returns_61 (by decide) ?_
  refine lv_dup2_11 F.1 F.2.1 dX3_returns_63 rfl rfl ?_
  obtain ⟨z1, ez1, hf⟩ := qn_x hf
  refine qr_ald F G hP (qw_u1s _ _ _) (qw_I9 (c := 1) (n := 935) hv (by decide)) (by unfold vp_in; decide) (by decide) ez1 dX3_returns_64 ?_
  refine lv_iconst (v := (nI 1)) F.1 F.2.1 dX3_returns_65 (by decide) ?_
  obtain ⟨z2, ez2, hf⟩ := qn_x hf
  refine qr_iadd F ez2 dX3_returns_66 ?_
  obtain ⟨m3, em3, hf⟩ := qn_x hf
  refine qr_ast F G hP hS (qw_u1s _ _ _) (qw_I9 (c := 1) (n := 935) hv (by decide)) (by unfold vp_in; decide) (by decide) (qw_fx em3) dX3_returns_67 (fun H locs hP hS => ?_)
  refine lv_aload_n F.1 F.2.1 dX3_returns_68 rfl (lv_at hl 1 rfl) ?_
  refine qr_gMr F G hv (fun w h => F.2.2.2.2 w (List.mem_cons_of_mem _ (List.mem_append_right _ h))) hP 0 1 (by decide) (List.mem_of_getElem? (i := 1) rfl) dX3_returns_69 ?_
  refine lv_bipush (v := (nI 7)) F.1 F.2.1 dX3_returns_72 (by decide) ?_
  refine lv_dup2_11 F.1 F.2.1 dX3_returns_74 rfl rfl ?_
  obtain ⟨z4, ez4, hf⟩ := qn_x hf
  refine qr_ald F G hP (qw_u1s _ _ _) (qw_I9 (c := 1) (n := 935) hv (by decide)) (by unfold vp_in; decide) (by decide) ez4 dX3_returns_75 ?_
  refine lv_iload_n F.1 F.2.1 dX3_returns_76 rfl (lv_at hl 0 rfl) ?_
  refine lv_if_eq (tgt := 84) F.1 F.2.1 dX3_returns_77 (by decide) (fun c5 => ?_) (fun c5 => ?_)
  · replace hf := qi_t c5 hf
    refine lv_iconst (v := (nI 0)) F.1 F.2.1 dX3_returns_84 (by decide) ?_
    exact qb_X3_returns_85 F G hv hQ _ _ _ _ _ _ _ _ hf hP hS (lv_sub hl [0] rfl)
  · replace hf := qi_f c5 hf
    refine lv_iconst (v := (nI 1)) F.1 F.2.1 dX3_returns_80 (by decide) ?_
    refine lv_goto (tgt := 85) F.1 F.2.1 dX3_returns_81 (by decide) ?_
    exact qb_X3_returns_85 F G hv hQ _ _ _ _ _ _ _ _ hf hP hS (lv_sub hl [0] rfl)
set_option maxRecDepth 100000 in
set_option maxHeartbeats 4000000 in
theorem qb_X3_returns {p : Program} {l : Launch} {e : Env} {s : State} {mi : MethodId} {args : Array Value} {below : List Frame} {meth : Method} {co : Code} {Q : State → Prop} {L : wL} {M : wM} {h : Nat → Nat} {r : Int32} {m9 : wm} (F : CallFix p mi co cX3_returns 3 s args wsX3_returns RX3) (G : qw_G L (qw_A L) s) (hv : qw_9 L) (hQ : qw_RI p l e rm_X3_returns s mi args below meth co cX3_returns .int Q L r (qw_u1 M 9 m9) h) : ∀ (m : wm) (H : Heap) (locs : List Loc) (ls : Array Slot), qf_X3_returns m = some (r, m9) → qw_P L (qw_u1 M 9 m) h H → va_S (qw_A L) s.heap H locs → lv_has ls 3 [(0, .ref (qw_ad L 9 0))] → W p l e rm_X3_returns s mi args below meth co H locs 0 0 Q (F0 mi 0 ls []) := by
  intro m H locs ls hf hP hS hl
  unfold qf_X3_returns at hf
  refine lv_aload_n F.1 F.2.1 dX3_returns_0 rfl (lv_at hl 0 rfl) ?_
  refine qr_gMr F G hv (fun w h => F.2.2.2.2 w (List.mem_cons_of_mem _ (List.mem_append_right _ h))) hP 0 1 (by decide) (List.mem_of_getElem? (i := 1) rfl) dX3_returns_1 ?_
  refine lv_iconst (v := (nI 0)) F.1 F.2.1 dX3_returns_4 (by decide) ?_
  obtain ⟨z1, ez1, hf⟩ := qn_x hf
  refine qr_ald F G hP (qw_u1s _ _ _) (qw_I9 (c := 1) (n := 935) hv (by decide)) (by unfold vp_in; decide) (by decide) ez1 dX3_returns_5 ?_
  refine lv_iconst (v := (nI 1)) F.1 F.2.1 dX3_returns_6 (by decide) ?_
  obtain ⟨z2, ez2, hf⟩ := qn_x hf
  refine qr_isub F ez2 dX3_returns_7 ?_
  refine lv_istore_n (lv' := [(1, .int z2), (0, .ref (qw_ad L 9 0))]) F.1 F.2.1 dX3_returns_8 rfl hl (by decide) rfl (fun ls hl => ?_)
  refine lv_aload_n F.1 F.2.1 dX3_returns_9 rfl (lv_at hl 1 rfl) ?_
  refine lv_aload_n F.1 F.2.1 dX3_returns_10 rfl (lv_at hl 1 rfl) ?_
  refine qr_gMr F G hv (fun w h => F.2.2.2.2 w (List.mem_cons_of_mem _ (List.mem_append_right _ h))) hP 0 1 (by decide) (List.mem_of_getElem? (i := 1) rfl) dX3_returns_11 ?_
  refine lv_bipush (v := (nI 12)) F.1 F.2.1 dX3_returns_14 (by decide) ?_
  obtain ⟨z3, ez3, hf⟩ := qn_x hf
  refine qr_ald F G hP (qw_u1s _ _ _) (qw_I9 (c := 1) (n := 935) hv (by decide)) (by unfold vp_in; decide) (by decide) ez3 dX3_returns_16 ?_
  refine lv_iconst (v := (nI 1)) F.1 F.2.1 dX3_returns_17 (by decide) ?_
  obtain ⟨r4, k5, hf⟩ := qb1_x hf
  refine qr_cVi F G hP hS (qc_X3_ofSlot l G.2.1 (qw_u1s _ _ _) hv k5) (qw_rcM hv) gX3_returns_X3_ofSlot rfl ⟨rfl, rfl⟩ e_X3_ofSlot ⟨Nat.le_of_ble_eq_true rfl, Nat.le_of_ble_eq_true rfl⟩ rfl hl.1 rfl (Nat.le_of_ble_eq_true rfl) ⟨Nat.zero_le _, Nat.zero_le _⟩ dX3_returns_18 (fun H locs hP hS => ?_)
  refine lv_aload_n F.1 F.2.1 dX3_returns_21 rfl (lv_at hl 1 rfl) ?_
  refine lv_iload_n F.1 F.2.1 dX3_returns_22 rfl (lv_at hl 0 rfl) ?_
  refine lv_iconst (v := (nI 2)) F.1 F.2.1 dX3_returns_23 (by decide) ?_
  obtain ⟨r6, k7, hf⟩ := qb1_x hf
  refine qr_cVi F G hP hS (qc_X3_ofFrame l G.2.1 (qw_u1s _ _ _) hv k7) (qw_rcM hv) gX3_returns_X3_ofFrame rfl ⟨rfl, rfl⟩ e_X3_ofFrame ⟨Nat.le_of_ble_eq_true rfl, Nat.le_of_ble_eq_true rfl⟩ rfl hl.1 rfl (Nat.le_of_ble_eq_true rfl) ⟨Nat.zero_le _, Nat.zero_le _⟩ dX3_returns_24 (fun H locs hP hS => ?_)
  refine lv_icmp_ne (tgt := 97) F.1 F.2.1 dX3_returns_27 (by decide) (fun c8 => ?_) (fun c8 => ?_)
  · replace hf := qi_f c8 hf
    refine lv_aload_n F.1 F.2.1 dX3_returns_97 rfl (lv_at hl 1 rfl) ?_
    refine lv_iload_n F.1 F.2.1 dX3_returns_98 rfl (lv_at hl 0 rfl) ?_
    refine lv_iconst (v := (nI 4)) F.1 F.2.1 dX3_returns_99 (by decide) ?_
    obtain ⟨r9, k10, hf⟩ := qb1_x hf
    refine qr_cVi F G hP hS (qc_X3_ofFrame l G.2.1 (qw_u1s _ _ _) hv k10) (qw_rcM hv) gX3_returns_X3_ofFrame rfl ⟨rfl, rfl⟩ e_X3_ofFrame ⟨Nat.le_of_ble_eq_true rfl, Nat.le_of_ble_eq_true rfl⟩ rfl hl.1 rfl (Nat.le_of_ble_eq_true rfl) ⟨Nat.zero_le _, Nat.zero_le _⟩ dX3_returns_100 (fun H locs hP hS => ?_)
    refine lv_bipush (v := (-9 : Int32)) F.1 F.2.1 dX3_returns_103 (by decide) ?_
    refine lv_icmp_eq (tgt := 133) F.1 F.2.1 dX3_returns_105 (by decide) (fun c11 => ?_) (fun c11 => ?_)
    · replace hf := qi_t c11 hf
      refine lv_aload_n F.1 F.2.1 dX3_returns_133 rfl (lv_at hl 1 rfl) ?_
      refine qr_gMr F G hv (fun w h => F.2.2.2.2 w (List.mem_cons_of_mem _ (List.mem_append_right _ h))) hP 0 1 (by decide) (List.mem_of_getElem? (i := 1) rfl) dX3_returns_134 ?_
      refine lv_bipush (v := (nI 9)) F.1 F.2.1 dX3_returns_137 (by decide) ?_
      refine lv_dup2_11 F.1 F.2.1 dX3_returns_139 rfl rfl ?_
      obtain ⟨z12, ez12, hf⟩ := qn_x hf
      refine qr_ald F G hP (qw_u1s _ _ _) (qw_I9 (c := 1) (n := 935) hv (by decide)) (by unfold vp_in; decide) (by decide) ez12 dX3_returns_140 ?_
      refine lv_iconst (v := (nI 1)) F.1 F.2.1 dX3_returns_141 (by decide) ?_
      obtain ⟨z13, ez13, hf⟩ := qn_x hf
      refine qr_iadd F ez13 dX3_returns_142 ?_
      obtain ⟨m14, em14, hf⟩ := qn_x hf
      refine qr_ast F G hP hS (qw_u1s _ _ _) (qw_I9 (c := 1) (n := 935) hv (by decide)) (by unfold vp_in; decide) (by decide) (qw_fx em14) dX3_returns_143 (fun H locs hP hS => ?_)
      refine lv_aload_n F.1 F.2.1 dX3_returns_144 rfl (lv_at hl 1 rfl) ?_
      refine lv_iconst (v := (nI 2)) F.1 F.2.1 dX3_returns_145 (by decide) ?_
      refine lv_aload_n F.1 F.2.1 dX3_returns_146 rfl (lv_at hl 1 rfl) ?_
      refine lv_aload_n F.1 F.2.1 dX3_returns_147 rfl (lv_at hl 1 rfl) ?_
      refine qr_gMr F G hv (fun w h => F.2.2.2.2 w (List.mem_cons_of_mem _ (List.mem_append_right _ h))) hP 0 1 (by decide) (List.mem_of_getElem? (i := 1) rfl) dX3_returns_148 ?_
      refine lv_bipush (v := (nI 12)) F.1 F.2.1 dX3_returns_151 (by decide) ?_
      obtain ⟨z15, ez15, hf⟩ := qn_x hf
      refine qr_ald F G hP (qw_u1s _ _ _) (qw_I9 (c := 1) (n := 935) hv (by decide)) (by unfold vp_in; decide) (by decide) ez15 dX3_returns_153 ?_
      refine lv_iconst (v := (nI 0)) F.1 F.2.1 dX3_returns_154 (by decide) ?_
      obtain ⟨r16, k17, hf⟩ := qb1_x hf
      refine qr_cVi F G hP hS (qc_X3_ofSlot l G.2.1 (qw_u1s _ _ _) hv k17) (qw_rcM hv) gX3_returns_X3_ofSlot rfl ⟨rfl, rfl⟩ e_X3_ofSlot ⟨Nat.le_of_ble_eq_true rfl, Nat.le_of_ble_eq_true rfl⟩ rfl hl.1 rfl (Nat.le_of_ble_eq_true rfl) ⟨Nat.zero_le _, Nat.zero_le _⟩ dX3_returns_155 (fun H locs hP hS => ?_)
      refine lv_iload_n F.1 F.2.1 dX3_returns_158 rfl (lv_at hl 0 rfl) ?_
      obtain ⟨m19, k18, hf⟩ := qb1_x hf
      refine qr_cVv F G hP hS (qc_X3_tells l G.2.1 (qw_u1s _ _ _) (qw_fx rfl) hv k18) (qw_rcM hv) gX3_returns_X3_tells rfl ⟨rfl, rfl⟩ e_X3_tells ⟨Nat.le_of_ble_eq_true rfl, Nat.le_of_ble_eq_true rfl⟩ rfl hl.1 rfl (Nat.le_of_ble_eq_true rfl) ⟨Nat.zero_le _, Nat.zero_le _⟩ dX3_returns_159 (fun H locs hP hS => ?_)
      refine lv_iconst (v := (nI 3)) F.1 F.2.1 dX3_returns_162 (by decide) ?_
      obtain ⟨e9, e8⟩ := qs2 hf
      subst e9
      subst e8
      exact hQ _ _ _ _ hP hS rfl dX3_returns_163
    · replace hf := qi_f c11 hf
      refine lv_aload_n F.1 F.2.1 dX3_returns_108 rfl (lv_at hl 1 rfl) ?_
      refine qr_gMr F G hv (fun w h => F.2.2.2.2 w (List.mem_cons_of_mem _ (List.mem_append_right _ h))) hP 0 1 (by decide) (List.mem_of_getElem? (i := 1) rfl) dX3_returns_109 ?_
      refine lv_bipush (v := (nI 8)) F.1 F.2.1 dX3_returns_112 (by decide) ?_
      refine lv_dup2_11 F.1 F.2.1 dX3_returns_114 rfl rfl ?_
      obtain ⟨z20, ez20, hf⟩ := qn_x hf
      refine qr_ald F G hP (qw_u1s _ _ _) (qw_I9 (c := 1) (n := 935) hv (by decide)) (by unfold vp_in; decide) (by decide) ez20 dX3_returns_115 ?_
      refine lv_iconst (v := (nI 1)) F.1 F.2.1 dX3_returns_116 (by decide) ?_
      obtain ⟨z21, ez21, hf⟩ := qn_x hf
      refine qr_iadd F ez21 dX3_returns_117 ?_
      obtain ⟨m22, em22, hf⟩ := qn_x hf
      refine qr_ast F G hP hS (qw_u1s _ _ _) (qw_I9 (c := 1) (n := 935) hv (by decide)) (by unfold vp_in; decide) (by decide) (qw_fx em22) dX3_returns_118 (fun H locs hP hS => ?_)
      refine lv_aload_n F.1 F.2.1 dX3_returns_119 rfl (lv_at hl 1 rfl) ?_
      refine lv_iconst (v := (nI 1)) F.1 F.2.1 dX3_returns_120 (by decide) ?_
      refine lv_aload_n F.1 F.2.1 dX3_returns_121 rfl (lv_at hl 1 rfl) ?_
      refine lv_iload_n F.1 F.2.1 dX3_returns_122 rfl (lv_at hl 0 rfl) ?_
      refine lv_iconst (v := (nI 4)) F.1 F.2.1 dX3_returns_123 (by decide) ?_
      obtain ⟨r23, k24, hf⟩ := qb1_x hf
      refine qr_cVi F G hP hS (qc_X3_ofFrame l G.2.1 (qw_u1s _ _ _) hv k24) (qw_rcM hv) gX3_returns_X3_ofFrame rfl ⟨rfl, rfl⟩ e_X3_ofFrame ⟨Nat.le_of_ble_eq_true rfl, Nat.le_of_ble_eq_true rfl⟩ rfl hl.1 rfl (Nat.le_of_ble_eq_true rfl) ⟨Nat.zero_le _, Nat.zero_le _⟩ dX3_returns_124 (fun H locs hP hS => ?_)
      refine lv_iload_n F.1 F.2.1 dX3_returns_127 rfl (lv_at hl 0 rfl) ?_
      obtain ⟨m26, k25, hf⟩ := qb1_x hf
      refine qr_cVv F G hP hS (qc_X3_tells l G.2.1 (qw_u1s _ _ _) (qw_fx rfl) hv k25) (qw_rcM hv) gX3_returns_X3_tells rfl ⟨rfl, rfl⟩ e_X3_tells ⟨Nat.le_of_ble_eq_true rfl, Nat.le_of_ble_eq_true rfl⟩ rfl hl.1 rfl (Nat.le_of_ble_eq_true rfl) ⟨Nat.zero_le _, Nat.zero_le _⟩ dX3_returns_128 (fun H locs hP hS => ?_)
      refine lv_iconst (v := (nI 2)) F.1 F.2.1 dX3_returns_131 (by decide) ?_
      obtain ⟨e9, e8⟩ := qs2 hf
      subst e9
      subst e8
      exact hQ _ _ _ _ hP hS rfl dX3_returns_132
  · replace hf := qi_t c8 hf
    refine lv_aload_n F.1 F.2.1 dX3_returns_30 rfl (lv_at hl 1 rfl) ?_
    refine lv_aload_n F.1 F.2.1 dX3_returns_31 rfl (lv_at hl 1 rfl) ?_
    refine qr_gMr F G hv (fun w h => F.2.2.2.2 w (List.mem_cons_of_mem _ (List.mem_append_right _ h))) hP 0 1 (by decide) (List.mem_of_getElem? (i := 1) rfl) dX3_returns_32 ?_
    refine lv_bipush (v := (nI 12)) F.1 F.2.1 dX3_returns_35 (by decide) ?_
    obtain ⟨z27, ez27, hf⟩ := qn_x hf
    refine qr_ald F G hP (qw_u1s _ _ _) (qw_I9 (c := 1) (n := 935) hv (by decide)) (by unfold vp_in; decide) (by decide) ez27 dX3_returns_37 ?_
    refine lv_iconst (v := (nI 0)) F.1 F.2.1 dX3_returns_38 (by decide) ?_
    obtain ⟨r28, k29, hf⟩ := qb1_x hf
    refine qr_cVi F G hP hS (qc_X3_ofSlot l G.2.1 (qw_u1s _ _ _) hv k29) (qw_rcM hv) gX3_returns_X3_ofSlot rfl ⟨rfl, rfl⟩ e_X3_ofSlot ⟨Nat.le_of_ble_eq_true rfl, Nat.le_of_ble_eq_true rfl⟩ rfl hl.1 rfl (Nat.le_of_ble_eq_true rfl) ⟨Nat.zero_le _, Nat.zero_le _⟩ dX3_returns_39 (fun H locs hP hS => ?_)
    refine lv_aload_n F.1 F.2.1 dX3_returns_42 rfl (lv_at hl 1 rfl) ?_
    refine lv_iload_n F.1 F.2.1 dX3_returns_43 rfl (lv_at hl 0 rfl) ?_
    refine lv_iconst (v := (nI 0)) F.1 F.2.1 dX3_returns_44 (by decide) ?_
    obtain ⟨r30, k31, hf⟩ := qb1_x hf
    refine qr_cVi F G hP hS (qc_X3_ofFrame l G.2.1 (qw_u1s _ _ _) hv k31) (qw_rcM hv) gX3_returns_X3_ofFrame rfl ⟨rfl, rfl⟩ e_X3_ofFrame ⟨Nat.le_of_ble_eq_true rfl, Nat.le_of_ble_eq_true rfl⟩ rfl hl.1 rfl (Nat.le_of_ble_eq_true rfl) ⟨Nat.zero_le _, Nat.zero_le _⟩ dX3_returns_45 (fun H locs hP hS => ?_)
    refine lv_icmp_eq (tgt := 55) F.1 F.2.1 dX3_returns_48 (by decide) (fun c32 => ?_) (fun c32 => ?_)
    · replace hf := qi_t c32 hf
      refine lv_iconst (v := (nI 0)) F.1 F.2.1 dX3_returns_55 (by decide) ?_
      exact qb_X3_returns_56 F G hv hQ _ _ _ _ _ hf hP hS (lv_sub hl [1] rfl)
    · replace hf := qi_f c32 hf
      refine lv_iconst (v := (nI 1)) F.1 F.2.1 dX3_returns_51 (by decide) ?_
      refine lv_goto (tgt := 56) F.1 F.2.1 dX3_returns_52 (by decide) ?_
      exact qb_X3_returns_56 F G hv hQ _ _ _ _ _ hf hP hS (lv_sub hl [1] rfl)
set_option maxRecDepth 100000 in
set_option maxHeartbeats 4000000 in
theorem qc_X3_returns (l : Launch) {L : wL} (hJ : qw_J L) {X X9 : wM} {h : Nat → Nat} {m m9 : wm} (hX : X 9 = m) (hX9 : qw_u1 X 9 m9 = X9) {r : Int32} (hv : qw_9 L) (hf : qf_X3_returns m = some (r, m9)) : qw_MI l yX3_returns wsX3_returns rm_X3_returns L (.ref (qw_ad L 9 0) :: []) X h r X9 h := by
  subst hX
  subst hX9
  refine qw_MI_of (cc := cX3_returns) (maxL := 3) (ty := .int) (by decide) rfl hJ (Nat.le_of_ble_eq_true rfl) ?_
  intro p e s mi below meth co Q ls F G hP hQ hl
  exact qb_X3_returns F G hv hQ _ _ _ _ hf (by rw [qw_u1i]; exact hP) va_S.rf hl
def rm_X3_back : Room := { frames := 0, cells := 0, slots := 0, locals := 0 }
theorem e_X3_back : qw_hd yX3_back RX3 3 := by decide +kernel
set_option maxRecDepth 100000 in
set_option maxHeartbeats 4000000 in
theorem qb_X3_back {p : Program} {l : Launch} {e : Env} {s : State} {mi : MethodId} {args : Array Value} {below : List Frame} {meth : Method} {co : Code} {Q : State → Prop} {L : wL} {X : wM} {h : Nat → Nat} {r : Int32} (F : CallFix p mi co cX3_back 3 s args wsX3_back RX3) (G : qw_G L (qw_A L) s) (hQ : qw_RI p l e rm_X3_back s mi args below meth co cX3_back .int Q L r X h) : ∀ (x0 : Int32) (x1 : Int32) (x2 : Int32) (H : Heap) (locs : List Loc) (ls : Array Slot), qf_X3_back x0 x1 x2 = some r → qw_P L X h H → va_S (qw_A L) s.heap H locs → lv_has ls 3 [(0, .int x0), (1, .int x1), (2, .int x2)] → W p l e rm_X3_back s mi args below meth co H locs 0 0 Q (F0 mi 0 ls []) := by
  intro x0 x1 x2 H locs ls hf hP hS hl
  unfold qf_X3_back at hf
  refine lv_iload_n F.1 F.2.1 dX3_back_0 rfl (lv_at hl 0 rfl) ?_
  refine lv_iload_n F.1 F.2.1 dX3_back_1 rfl (lv_at hl 2 rfl) ?_
  refine lv_bipush (v := (nI 40)) F.1 F.2.1 dX3_back_2 (by decide) ?_
  obtain ⟨z1, ez1, hf⟩ := qn_x hf
  refine qr_imul F ez1 dX3_back_4 ?_
  obtain ⟨z2, ez2, hf⟩ := qn_x hf
  refine qr_iadd F ez2 dX3_back_5 ?_
  refine lv_iload_n F.1 F.2.1 dX3_back_6 rfl (lv_at hl 1 rfl) ?_
  obtain ⟨z3, ez3, hf⟩ := qn_x hf
  refine qr_isub F ez3 dX3_back_7 ?_
  refine lv_iload_n F.1 F.2.1 dX3_back_8 rfl (lv_at hl 2 rfl) ?_
  obtain ⟨g5, hf⟩ := qg_x hf
  obtain ⟨z4, ez4, hf⟩ := qn_x hf
  refine qr_irem F g5 ez4 dX3_back_9 ?_
  have e9 := qs1 hf
  subst e9
  exact hQ _ _ _ _ hP hS rfl dX3_back_10
set_option maxRecDepth 100000 in
set_option maxHeartbeats 4000000 in
theorem qc_X3_back (l : Launch) {L : wL} (hJ : qw_J L) {X : wM} {h : Nat → Nat} {x0 x1 x2 : Int32} {r : Int32} (hf : qf_X3_back x0 x1 x2 = some r) : qw_MI l yX3_back wsX3_back rm_X3_back L [.int x0, .int x1, .int x2] X h r X h := by
  refine qw_MI_of (cc := cX3_back) (maxL := 3) (ty := .int) (by decide) rfl hJ (Nat.le_of_ble_eq_true rfl) ?_
  intro p e s mi below meth co Q ls F G hP hQ hl
  exact qb_X3_back F G  hQ _ _ _ _ _ _ hf hP va_S.rf hl
def rm_X3_ret : Room := { frames := 3, cells := 0, slots := 0, locals := 68 }
theorem e_X3_ret : qw_hd yX3_ret RX3 0 := by decide +kernel
set_option maxRecDepth 100000 in
set_option maxHeartbeats 4000000 in
theorem qb_X3_ret {p : Program} {l : Launch} {e : Env} {s : State} {mi : MethodId} {args : Array Value} {below : List Frame} {meth : Method} {co : Code} {Q : State → Prop} {L : wL} {M : wM} {h : Nat → Nat} {r : Int32} {m9 : wm} (F : CallFix p mi co cX3_ret 2 s args wsX3_ret RX3) (G : qw_G L (qw_A L) s) (hv : qw_9 L) (hQ : qw_RI p l e rm_X3_ret s mi args below meth co cX3_ret .int Q L r (qw_u1 M 9 m9) h) : ∀ (m : wm) (H : Heap) (locs : List Loc) (ls : Array Slot), qf_X3_ret m = some (r, m9) → qw_P L (qw_u1 M 9 m) h H → va_S (qw_A L) s.heap H locs → lv_has ls 2 [(0, .ref (qw_ad L 9 0))] → W p l e rm_X3_ret s mi args below meth co H locs 0 0 Q (F0 mi 0 ls []) := by
  intro m H locs ls hf hP hS hl
  unfold qf_X3_ret at hf
  refine lv_aload_n F.1 F.2.1 dX3_ret_0 rfl (lv_at hl 0 rfl) ?_
  refine qr_gMr F G hv (fun w h => F.2.2.2.2 w (List.mem_cons_of_mem _ (List.mem_append_right _ h))) hP 0 1 (by decide) (List.mem_of_getElem? (i := 1) rfl) dX3_ret_1 ?_
  refine lv_iconst (v := (nI 0)) F.1 F.2.1 dX3_ret_4 (by decide) ?_
  obtain ⟨z1, ez1, hf⟩ := qn_x hf
  refine qr_ald F G hP (qw_u1s _ _ _) (qw_I9 (c := 1) (n := 935) hv (by decide)) (by unfold vp_in; decide) (by decide) ez1 dX3_ret_5 ?_
  refine lv_if_ne (tgt := 12) F.1 F.2.1 dX3_ret_6 (by decide) (fun c2 => ?_) (fun c2 => ?_)
  · replace hf := qi_f c2 hf
    refine lv_aload_n F.1 F.2.1 dX3_ret_12 rfl (lv_at hl 0 rfl) ?_
    refine qr_gMr F G hv (fun w h => F.2.2.2.2 w (List.mem_cons_of_mem _ (List.mem_append_right _ h))) hP 0 1 (by decide) (List.mem_of_getElem? (i := 1) rfl) dX3_ret_13 ?_
    refine lv_iconst (v := (nI 1)) F.1 F.2.1 dX3_ret_16 (by decide) ?_
    obtain ⟨z3, ez3, hf⟩ := qn_x hf
    refine qr_ald F G hP (qw_u1s _ _ _) (qw_I9 (c := 1) (n := 935) hv (by decide)) (by unfold vp_in; decide) (by decide) ez3 dX3_ret_17 ?_
    refine lv_sipush (v := (nI 200)) F.1 F.2.1 dX3_ret_18 (by decide) ?_
    refine lv_icmp_ne (tgt := 27) F.1 F.2.1 dX3_ret_21 (by decide) (fun c4 => ?_) (fun c4 => ?_)
    · replace hf := qi_f c4 hf
      refine lv_aload_n F.1 F.2.1 dX3_ret_27 rfl (lv_at hl 0 rfl) ?_
      obtain ⟨m6, k5, hf⟩ := qb1_x hf
      refine qr_cVv F G hP hS (qc_X3_acts l G.2.1 (qw_u1s _ _ _) (qw_fx rfl) hv k5) (qw_rcM hv) gX3_ret_X3_acts rfl ⟨rfl, rfl⟩ e_X3_acts ⟨Nat.le_of_ble_eq_true rfl, Nat.le_of_ble_eq_true rfl⟩ rfl hl.1 rfl (Nat.le_of_ble_eq_true rfl) ⟨Nat.zero_le _, Nat.zero_le _⟩ dX3_ret_28 (fun H locs hP hS => ?_)
      refine lv_aload_n F.1 F.2.1 dX3_ret_31 rfl (lv_at hl 0 rfl) ?_
      obtain ⟨r7, m9, k8, hf⟩ := qb2_x hf
      refine qr_cVi F G hP hS (qc_X3_returns l G.2.1 (qw_u1s _ _ _) (qw_fx rfl) hv k8) (qw_rcM hv) gX3_ret_X3_returns rfl ⟨rfl, rfl⟩ e_X3_returns ⟨Nat.le_of_ble_eq_true rfl, Nat.le_of_ble_eq_true rfl⟩ rfl hl.1 rfl (Nat.le_of_ble_eq_true rfl) ⟨Nat.zero_le _, Nat.zero_le _⟩ dX3_ret_32 (fun H locs hP hS => ?_)
      refine lv_istore_n (lv' := [(1, .int r7), (0, .ref (qw_ad L 9 0))]) F.1 F.2.1 dX3_ret_35 rfl hl (by decide) rfl (fun ls hl => ?_)
      refine lv_aload_n F.1 F.2.1 dX3_ret_36 rfl (lv_at hl 1 rfl) ?_
      refine qr_gMr F G hv (fun w h => F.2.2.2.2 w (List.mem_cons_of_mem _ (List.mem_append_right _ h))) hP 0 1 (by decide) (List.mem_of_getElem? (i := 1) rfl) dX3_ret_37 ?_
      refine lv_iconst (v := (nI 0)) F.1 F.2.1 dX3_ret_40 (by decide) ?_
      refine lv_dup2_11 F.1 F.2.1 dX3_ret_41 rfl rfl ?_
      obtain ⟨z10, ez10, hf⟩ := qn_x hf
      refine qr_ald F G hP (qw_u1s _ _ _) (qw_I9 (c := 1) (n := 935) hv (by decide)) (by unfold vp_in; decide) (by decide) ez10 dX3_ret_42 ?_
      refine lv_iconst (v := (nI 1)) F.1 F.2.1 dX3_ret_43 (by decide) ?_
      obtain ⟨z11, ez11, hf⟩ := qn_x hf
      refine qr_isub F ez11 dX3_ret_44 ?_
      obtain ⟨m12, em12, hf⟩ := qn_x hf
      refine qr_ast F G hP hS (qw_u1s _ _ _) (qw_I9 (c := 1) (n := 935) hv (by decide)) (by unfold vp_in; decide) (by decide) (qw_fx em12) dX3_ret_45 (fun H locs hP hS => ?_)
      refine lv_aload_n F.1 F.2.1 dX3_ret_46 rfl (lv_at hl 1 rfl) ?_
      refine qr_gMr F G hv (fun w h => F.2.2.2.2 w (List.mem_cons_of_mem _ (List.mem_append_right _ h))) hP 0 1 (by decide) (List.mem_of_getElem? (i := 1) rfl) dX3_ret_47 ?_
      refine lv_bipush (v := (nI 12)) F.1 F.2.1 dX3_ret_50 (by decide) ?_
      refine lv_aload_n F.1 F.2.1 dX3_ret_52 rfl (lv_at hl 1 rfl) ?_
      refine qr_gMr F G hv (fun w h => F.2.2.2.2 w (List.mem_cons_of_mem _ (List.mem_append_right _ h))) hP 0 1 (by decide) (List.mem_of_getElem? (i := 1) rfl) dX3_ret_53 ?_
      refine lv_bipush (v := (nI 12)) F.1 F.2.1 dX3_ret_56 (by decide) ?_
      obtain ⟨z13, ez13, hf⟩ := qn_x hf
      refine qr_ald F G hP (qw_u1s _ _ _) (qw_I9 (c := 1) (n := 935) hv (by decide)) (by unfold vp_in; decide) (by decide) ez13 dX3_ret_58 ?_
      refine lv_iconst (v := (nI 1)) F.1 F.2.1 dX3_ret_59 (by decide) ?_
      refine lv_aload_n F.1 F.2.1 dX3_ret_60 rfl (lv_at hl 1 rfl) ?_
      refine qr_gMr F G hv (fun w h => F.2.2.2.2 w (List.mem_cons_of_mem _ (List.mem_append_right _ h))) hP 0 1 (by decide) (List.mem_of_getElem? (i := 1) rfl) dX3_ret_61 ?_
      refine lv_bipush (v := (nI 11)) F.1 F.2.1 dX3_ret_64 (by decide) ?_
      obtain ⟨z14, ez14, hf⟩ := qn_x hf
      refine qr_ald F G hP (qw_u1s _ _ _) (qw_I9 (c := 1) (n := 935) hv (by decide)) (by unfold vp_in; decide) (by decide) ez14 dX3_ret_66 ?_
      obtain ⟨r15, k16, hf⟩ := qb1_x hf
      refine qr_cSi F G hP hS (qc_X3_back l G.2.1 k16) gX3_ret_X3_back rfl ⟨rfl, rfl⟩ e_X3_back ⟨Nat.le_of_ble_eq_true rfl, Nat.le_of_ble_eq_true rfl⟩ rfl hl.1 rfl (Nat.le_of_ble_eq_true rfl) ⟨Nat.zero_le _, Nat.zero_le _⟩ dX3_ret_67 (fun H locs hP hS => ?_)
      obtain ⟨m17, em17, hf⟩ := qn_x hf
      refine qr_ast F G hP hS (qw_u1s _ _ _) (qw_I9 (c := 1) (n := 935) hv (by decide)) (by unfold vp_in; decide) (by decide) (qw_fx em17) dX3_ret_70 (fun H locs hP hS => ?_)
      refine lv_aload_n F.1 F.2.1 dX3_ret_71 rfl (lv_at hl 1 rfl) ?_
      refine lv_iconst (v := (nI 2)) F.1 F.2.1 dX3_ret_72 (by decide) ?_
      refine lv_iconst (v := (nI 0)) F.1 F.2.1 dX3_ret_73 (by decide) ?_
      obtain ⟨m19, k18, hf⟩ := qb1_x hf
      refine qr_cVv F G hP hS (qc_X3_notes l G.2.1 (qw_u1s _ _ _) (qw_fx rfl) hv k18) (qw_rcM hv) gX3_ret_X3_notes rfl ⟨rfl, rfl⟩ e_X3_notes ⟨Nat.le_of_ble_eq_true rfl, Nat.le_of_ble_eq_true rfl⟩ rfl hl.1 rfl (Nat.le_of_ble_eq_true rfl) ⟨Nat.zero_le _, Nat.zero_le _⟩ dX3_ret_74 (fun H locs hP hS => ?_)
      refine lv_iload_n F.1 F.2.1 dX3_ret_77 rfl (lv_at hl 0 rfl) ?_
      obtain ⟨e9, e8⟩ := qs2 hf
      subst e9
      subst e8
      exact hQ _ _ _ _ hP hS rfl dX3_ret_78
    · replace hf := qi_t c4 hf
      refine lv_bipush (v := (-3 : Int32)) F.1 F.2.1 dX3_ret_24 (by decide) ?_
      obtain ⟨e9, e8⟩ := qs2 hf
      subst e9
      subst e8
      exact hQ _ _ _ _ hP hS rfl dX3_ret_26
  · replace hf := qi_t c2 hf
    refine lv_bipush (v := (-2 : Int32)) F.1 F.2.1 dX3_ret_9 (by decide) ?_
    obtain ⟨e9, e8⟩ := qs2 hf
    subst e9
    subst e8
    exact hQ _ _ _ _ hP hS rfl dX3_ret_11
set_option maxRecDepth 100000 in
set_option maxHeartbeats 4000000 in
theorem qc_X3_ret (l : Launch) {L : wL} (hJ : qw_J L) {X X9 : wM} {h : Nat → Nat} {m m9 : wm} (hX : X 9 = m) (hX9 : qw_u1 X 9 m9 = X9) {r : Int32} (hv : qw_9 L) (hf : qf_X3_ret m = some (r, m9)) : qw_MI l yX3_ret wsX3_ret rm_X3_ret L (.ref (qw_ad L 9 0) :: []) X h r X9 h := by
  subst hX
  subst hX9
  refine qw_MI_of (cc := cX3_ret) (maxL := 2) (ty := .int) (by decide) rfl hJ (Nat.le_of_ble_eq_true rfl) ?_
  intro p e s mi below meth co Q ls F G hP hQ hl
  exact qb_X3_ret F G hv hQ _ _ _ _ hf (by rw [qw_u1i]; exact hP) va_S.rf hl
def rm_X3_raise : Room := { frames := 1, cells := 0, slots := 0, locals := 22 }
theorem e_X3_raise : qw_hd yX3_raise RX3 1 := by decide +kernel
set_option maxRecDepth 100000 in
set_option maxHeartbeats 4000000 in
theorem qb_X3_raise_99 {p : Program} {l : Launch} {e : Env} {s : State} {mi : MethodId} {args : Array Value} {below : List Frame} {meth : Method} {co : Code} {Q : State → Prop} {L : wL} {M : wM} {h : Nat → Nat} {r : Int32} {m9 : wm} (F : CallFix p mi co cX3_raise 2 s args wsX3_raise RX3) (G : qw_G L (qw_A L) s) (hv : qw_9 L) (hQ : qw_RI p l e rm_X3_raise s mi args below meth co cX3_raise .int Q L r (qw_u1 M 9 m9) h) : ∀ (x1 : Int32) (y0 : Int32) (y1 : Int32) (m : wm) (H : Heap) (locs : List Loc) (ls : Array Slot), qf_X3_raise_99 x1 y0 y1 m = some (r, m9) → qw_P L (qw_u1 M 9 m) h H → va_S (qw_A L) s.heap H locs → lv_has ls 2 [(0, .ref (qw_ad L 9 0)), (1, .int x1)] → W p l e rm_X3_raise s mi args below meth co H locs 0 0 Q (F0 mi 99 ls [.int y0, .int y1, .ref (qw_ad L 9 1)]) := by
  intro x1 y0 y1 m H locs ls hf hP hS hl
  unfold qf_X3_raise_99 at hf
  obtain ⟨g1, hf⟩ := qg_x hf
  obtain ⟨m2, em2, hf⟩ := qn_x hf
  refine qr_ast F G hP hS (qw_u1s _ _ _) (qw_I9 (c := 1) (n := 935) hv (by decide)) g1 rfl (qw_fx em2) dX3_raise_99 (fun H locs hP hS => ?_)
  refine lv_aload_n F.1 F.2.1 dX3_raise_100 rfl (lv_at hl 0 rfl) ?_
  refine lv_iconst (v := (nI 3)) F.1 F.2.1 dX3_raise_101 (by decide) ?_
  refine lv_iload_n F.1 F.2.1 dX3_raise_102 rfl (lv_at hl 1 rfl) ?_
  obtain ⟨m4, k3, hf⟩ := qb1_x hf
  refine qr_cVv F G hP hS (qc_X3_notes l G.2.1 (qw_u1s _ _ _) (qw_fx rfl) hv k3) (qw_rcM hv) gX3_raise_X3_notes rfl ⟨rfl, rfl⟩ e_X3_notes ⟨Nat.le_of_ble_eq_true rfl, Nat.le_of_ble_eq_true rfl⟩ rfl hl.1 rfl (Nat.le_of_ble_eq_true rfl) ⟨Nat.zero_le _, Nat.zero_le _⟩ dX3_raise_103 (fun H locs hP hS => ?_)
  refine lv_aload_n F.1 F.2.1 dX3_raise_106 rfl (lv_at hl 0 rfl) ?_
  refine qr_gMr F G hv (fun w h => F.2.2.2.2 w (List.mem_cons_of_mem _ (List.mem_append_right _ h))) hP 0 1 (by decide) (List.mem_of_getElem? (i := 1) rfl) dX3_raise_107 ?_
  refine lv_iconst (v := (nI 0)) F.1 F.2.1 dX3_raise_110 (by decide) ?_
  obtain ⟨z5, ez5, hf⟩ := qn_x hf
  refine qr_ald F G hP (qw_u1s _ _ _) (qw_I9 (c := 1) (n := 935) hv (by decide)) (by unfold vp_in; decide) (by decide) ez5 dX3_raise_111 ?_
  obtain ⟨e9, e8⟩ := qs2 hf
  subst e9
  subst e8
  exact hQ _ _ _ _ hP hS rfl dX3_raise_112
set_option maxRecDepth 100000 in
set_option maxHeartbeats 4000000 in
theorem qb_X3_raise {p : Program} {l : Launch} {e : Env} {s : State} {mi : MethodId} {args : Array Value} {below : List Frame} {meth : Method} {co : Code} {Q : State → Prop} {L : wL} {M : wM} {h : Nat → Nat} {r : Int32} {m9 : wm} (F : CallFix p mi co cX3_raise 2 s args wsX3_raise RX3) (G : qw_G L (qw_A L) s) (hv : qw_9 L) (hQ : qw_RI p l e rm_X3_raise s mi args below meth co cX3_raise .int Q L r (qw_u1 M 9 m9) h) : ∀ (x1 : Int32) (m : wm) (H : Heap) (locs : List Loc) (ls : Array Slot), qf_X3_raise x1 m = some (r, m9) → qw_P L (qw_u1 M 9 m) h H → va_S (qw_A L) s.heap H locs → lv_has ls 2 [(0, .ref (qw_ad L 9 0)), (1, .int x1)] → W p l e rm_X3_raise s mi args below meth co H locs 0 0 Q (F0 mi 0 ls []) := by
  intro x1 m H locs ls hf hP hS hl
  unfold qf_X3_raise at hf
  refine lv_iload_n F.1 F.2.1 dX3_raise_0 rfl (lv_at hl 1 rfl) ?_
  refine lv_iconst (v := (nI 1)) F.1 F.2.1 dX3_raise_1 (by decide) ?_
  refine lv_bipush (v := (nI 40)) F.1 F.2.1 dX3_raise_2 (by decide) ?_
  obtain ⟨r1, k2, hf⟩ := qb1_x hf
  refine qr_cSi F G hP hS (qc_X3_in l G.2.1 k2) gX3_raise_X3_in rfl ⟨rfl, rfl⟩ e_X3_in ⟨Nat.le_of_ble_eq_true rfl, Nat.le_of_ble_eq_true rfl⟩ rfl hl.1 rfl (Nat.le_of_ble_eq_true rfl) ⟨Nat.zero_le _, Nat.zero_le _⟩ dX3_raise_4 (fun H locs hP hS => ?_)
  refine lv_if_ne (tgt := 12) F.1 F.2.1 dX3_raise_7 (by decide) (fun c3 => ?_) (fun c3 => ?_)
  · replace hf := qi_f c3 hf
    refine lv_aload_n F.1 F.2.1 dX3_raise_12 rfl (lv_at hl 0 rfl) ?_
    refine qr_gMr F G hv (fun w h => F.2.2.2.2 w (List.mem_cons_of_mem _ (List.mem_append_right _ h))) hP 0 1 (by decide) (List.mem_of_getElem? (i := 1) rfl) dX3_raise_13 ?_
    refine lv_iconst (v := (nI 0)) F.1 F.2.1 dX3_raise_16 (by decide) ?_
    obtain ⟨z4, ez4, hf⟩ := qn_x hf
    refine qr_ald F G hP (qw_u1s _ _ _) (qw_I9 (c := 1) (n := 935) hv (by decide)) (by unfold vp_in; decide) (by decide) ez4 dX3_raise_17 ?_
    refine lv_iload_n F.1 F.2.1 dX3_raise_18 rfl (lv_at hl 1 rfl) ?_
    refine lv_icmp_ge (tgt := 25) F.1 F.2.1 dX3_raise_19 (by decide) (fun c5 => ?_) (fun c5 => ?_)
    · replace hf := qi_t c5 hf
      refine lv_aload_n F.1 F.2.1 dX3_raise_25 rfl (lv_at hl 0 rfl) ?_
      refine qr_gMr F G hv (fun w h => F.2.2.2.2 w (List.mem_cons_of_mem _ (List.mem_append_right _ h))) hP 0 1 (by decide) (List.mem_of_getElem? (i := 1) rfl) dX3_raise_26 ?_
      refine lv_iconst (v := (nI 1)) F.1 F.2.1 dX3_raise_29 (by decide) ?_
      obtain ⟨z6, ez6, hf⟩ := qn_x hf
      refine qr_ald F G hP (qw_u1s _ _ _) (qw_I9 (c := 1) (n := 935) hv (by decide)) (by unfold vp_in; decide) (by decide) ez6 dX3_raise_30 ?_
      refine lv_sipush (v := (nI 200)) F.1 F.2.1 dX3_raise_31 (by decide) ?_
      refine lv_icmp_ne (tgt := 40) F.1 F.2.1 dX3_raise_34 (by decide) (fun c7 => ?_) (fun c7 => ?_)
      · replace hf := qi_f c7 hf
        refine lv_aload_n F.1 F.2.1 dX3_raise_40 rfl (lv_at hl 0 rfl) ?_
        obtain ⟨m9, k8, hf⟩ := qb1_x hf
        refine qr_cVv F G hP hS (qc_X3_acts l G.2.1 (qw_u1s _ _ _) (qw_fx rfl) hv k8) (qw_rcM hv) gX3_raise_X3_acts rfl ⟨rfl, rfl⟩ e_X3_acts ⟨Nat.le_of_ble_eq_true rfl, Nat.le_of_ble_eq_true rfl⟩ rfl hl.1 rfl (Nat.le_of_ble_eq_true rfl) ⟨Nat.zero_le _, Nat.zero_le _⟩ dX3_raise_41 (fun H locs hP hS => ?_)
        refine lv_aload_n F.1 F.2.1 dX3_raise_44 rfl (lv_at hl 0 rfl) ?_
        refine qr_gMr F G hv (fun w h => F.2.2.2.2 w (List.mem_cons_of_mem _ (List.mem_append_right _ h))) hP 0 1 (by decide) (List.mem_of_getElem? (i := 1) rfl) dX3_raise_45 ?_
        refine lv_iconst (v := (nI 0)) F.1 F.2.1 dX3_raise_48 (by decide) ?_
        refine lv_dup2_11 F.1 F.2.1 dX3_raise_49 rfl rfl ?_
        obtain ⟨z10, ez10, hf⟩ := qn_x hf
        refine qr_ald F G hP (qw_u1s _ _ _) (qw_I9 (c := 1) (n := 935) hv (by decide)) (by unfold vp_in; decide) (by decide) ez10 dX3_raise_50 ?_
        refine lv_iload_n F.1 F.2.1 dX3_raise_51 rfl (lv_at hl 1 rfl) ?_
        obtain ⟨z11, ez11, hf⟩ := qn_x hf
        refine qr_isub F ez11 dX3_raise_52 ?_
        obtain ⟨m12, em12, hf⟩ := qn_x hf
        refine qr_ast F G hP hS (qw_u1s _ _ _) (qw_I9 (c := 1) (n := 935) hv (by decide)) (by unfold vp_in; decide) (by decide) (qw_fx em12) dX3_raise_53 (fun H locs hP hS => ?_)
        refine lv_aload_n F.1 F.2.1 dX3_raise_54 rfl (lv_at hl 0 rfl) ?_
        refine qr_gMr F G hv (fun w h => F.2.2.2.2 w (List.mem_cons_of_mem _ (List.mem_append_right _ h))) hP 0 1 (by decide) (List.mem_of_getElem? (i := 1) rfl) dX3_raise_55 ?_
        refine lv_bipush (v := (nI 12)) F.1 F.2.1 dX3_raise_58 (by decide) ?_
        refine lv_aload_n F.1 F.2.1 dX3_raise_60 rfl (lv_at hl 0 rfl) ?_
        refine qr_gMr F G hv (fun w h => F.2.2.2.2 w (List.mem_cons_of_mem _ (List.mem_append_right _ h))) hP 0 1 (by decide) (List.mem_of_getElem? (i := 1) rfl) dX3_raise_61 ?_
        refine lv_bipush (v := (nI 14)) F.1 F.2.1 dX3_raise_64 (by decide) ?_
        obtain ⟨z13, ez13, hf⟩ := qn_x hf
        refine qr_ald F G hP (qw_u1s _ _ _) (qw_I9 (c := 1) (n := 935) hv (by decide)) (by unfold vp_in; decide) (by decide) ez13 dX3_raise_66 ?_
        refine lv_iconst (v := (nI 1)) F.1 F.2.1 dX3_raise_67 (by decide) ?_
        refine lv_icmp_ne (tgt := 92) F.1 F.2.1 dX3_raise_68 (by decide) (fun c14 => ?_) (fun c14 => ?_)
        · replace hf := qi_f c14 hf
          refine lv_aload_n F.1 F.2.1 dX3_raise_92 rfl (lv_at hl 0 rfl) ?_
          refine qr_gMr F G hv (fun w h => F.2.2.2.2 w (List.mem_cons_of_mem _ (List.mem_append_right _ h))) hP 0 1 (by decide) (List.mem_of_getElem? (i := 1) rfl) dX3_raise_93 ?_
          refine lv_bipush (v := (nI 12)) F.1 F.2.1 dX3_raise_96 (by decide) ?_
          obtain ⟨z15, ez15, hf⟩ := qn_x hf
          refine qr_ald F G hP (qw_u1s _ _ _) (qw_I9 (c := 1) (n := 935) hv (by decide)) (by unfold vp_in; decide) (by decide) ez15 dX3_raise_98 ?_
          exact qb_X3_raise_99 F G hv hQ _ _ _ _ _ _ _ hf hP hS (lv_sub hl [0, 1] rfl)
        · replace hf := qi_t c14 hf
          refine lv_aload_n F.1 F.2.1 dX3_raise_71 rfl (lv_at hl 0 rfl) ?_
          refine qr_gMr F G hv (fun w h => F.2.2.2.2 w (List.mem_cons_of_mem _ (List.mem_append_right _ h))) hP 0 1 (by decide) (List.mem_of_getElem? (i := 1) rfl) dX3_raise_72 ?_
          refine lv_bipush (v := (nI 12)) F.1 F.2.1 dX3_raise_75 (by decide) ?_
          obtain ⟨z16, ez16, hf⟩ := qn_x hf
          refine qr_ald F G hP (qw_u1s _ _ _) (qw_I9 (c := 1) (n := 935) hv (by decide)) (by unfold vp_in; decide) (by decide) ez16 dX3_raise_77 ?_
          refine lv_iload_n F.1 F.2.1 dX3_raise_78 rfl (lv_at hl 1 rfl) ?_
          refine lv_aload_n F.1 F.2.1 dX3_raise_79 rfl (lv_at hl 0 rfl) ?_
          refine qr_gMr F G hv (fun w h => F.2.2.2.2 w (List.mem_cons_of_mem _ (List.mem_append_right _ h))) hP 0 1 (by decide) (List.mem_of_getElem? (i := 1) rfl) dX3_raise_80 ?_
          refine lv_bipush (v := (nI 11)) F.1 F.2.1 dX3_raise_83 (by decide) ?_
          obtain ⟨z17, ez17, hf⟩ := qn_x hf
          refine qr_ald F G hP (qw_u1s _ _ _) (qw_I9 (c := 1) (n := 935) hv (by decide)) (by unfold vp_in; decide) (by decide) ez17 dX3_raise_85 ?_
          obtain ⟨r18, k19, hf⟩ := qb1_x hf
          refine qr_cSi F G hP hS (qc_X3_back l G.2.1 k19) gX3_raise_X3_back rfl ⟨rfl, rfl⟩ e_X3_back ⟨Nat.le_of_ble_eq_true rfl, Nat.le_of_ble_eq_true rfl⟩ rfl hl.1 rfl (Nat.le_of_ble_eq_true rfl) ⟨Nat.zero_le _, Nat.zero_le _⟩ dX3_raise_86 (fun H locs hP hS => ?_)
          refine lv_goto (tgt := 99) F.1 F.2.1 dX3_raise_89 (by decide) ?_
          exact qb_X3_raise_99 F G hv hQ _ _ _ _ _ _ _ hf hP hS (lv_sub hl [0, 1] rfl)
      · replace hf := qi_t c7 hf
        refine lv_bipush (v := (-3 : Int32)) F.1 F.2.1 dX3_raise_37 (by decide) ?_
        obtain ⟨e9, e8⟩ := qs2 hf
        subst e9
        subst e8
        exact hQ _ _ _ _ hP hS rfl dX3_raise_39
    · replace hf := qi_f c5 hf
      refine lv_bipush (v := (-2 : Int32)) F.1 F.2.1 dX3_raise_22 (by decide) ?_
      obtain ⟨e9, e8⟩ := qs2 hf
      subst e9
      subst e8
      exact hQ _ _ _ _ hP hS rfl dX3_raise_24
  · replace hf := qi_t c3 hf
    refine lv_iconst (v := (-1 : Int32)) F.1 F.2.1 dX3_raise_10 (by decide) ?_
    obtain ⟨e9, e8⟩ := qs2 hf
    subst e9
    subst e8
    exact hQ _ _ _ _ hP hS rfl dX3_raise_11
set_option maxRecDepth 100000 in
set_option maxHeartbeats 4000000 in
theorem qc_X3_raise (l : Launch) {L : wL} (hJ : qw_J L) {X X9 : wM} {h : Nat → Nat} {m m9 : wm} (hX : X 9 = m) (hX9 : qw_u1 X 9 m9 = X9) {x1 : Int32} {r : Int32} (hv : qw_9 L) (hf : qf_X3_raise x1 m = some (r, m9)) : qw_MI l yX3_raise wsX3_raise rm_X3_raise L (.ref (qw_ad L 9 0) :: [.int x1]) X h r X9 h := by
  subst hX
  subst hX9
  refine qw_MI_of (cc := cX3_raise) (maxL := 2) (ty := .int) (by decide) rfl hJ (Nat.le_of_ble_eq_true rfl) ?_
  intro p e s mi below meth co Q ls F G hP hQ hl
  exact qb_X3_raise F G hv hQ _ _ _ _ _ hf (by rw [qw_u1i]; exact hP) va_S.rf hl
def rm_X3_setRepair : Room := { frames := 1, cells := 0, slots := 0, locals := 22 }
theorem e_X3_setRepair : qw_hd yX3_setRepair RX3 1 := by decide +kernel
set_option maxRecDepth 100000 in
set_option maxHeartbeats 4000000 in
theorem qb_X3_setRepair {p : Program} {l : Launch} {e : Env} {s : State} {mi : MethodId} {args : Array Value} {below : List Frame} {meth : Method} {co : Code} {Q : State → Prop} {L : wL} {M : wM} {h : Nat → Nat} {r : Int32} {m9 : wm} (F : CallFix p mi co cX3_setRepair 3 s args wsX3_setRepair RX3) (G : qw_G L (qw_A L) s) (hv : qw_9 L) (hQ : qw_RI p l e rm_X3_setRepair s mi args below meth co cX3_setRepair .int Q L r (qw_u1 M 9 m9) h) : ∀ (x1 : Int32) (m : wm) (H : Heap) (locs : List Loc) (ls : Array Slot), qf_X3_setRepair x1 m = some (r, m9) → qw_P L (qw_u1 M 9 m) h H → va_S (qw_A L) s.heap H locs → lv_has ls 3 [(0, .ref (qw_ad L 9 0)), (1, .int x1)] → W p l e rm_X3_setRepair s mi args below meth co H locs 0 0 Q (F0 mi 0 ls []) := by
  intro x1 m H locs ls hf hP hS hl
  unfold qf_X3_setRepair at hf
  refine lv_iload_n F.1 F.2.1 dX3_setRepair_0 rfl (lv_at hl 1 rfl) ?_
  refine lv_iconst (v := (nI 0)) F.1 F.2.1 dX3_setRepair_1 (by decide) ?_
  refine lv_iconst (v := (nI 1)) F.1 F.2.1 dX3_setRepair_2 (by decide) ?_
  obtain ⟨r1, k2, hf⟩ := qb1_x hf
  refine qr_cSi F G hP hS (qc_X3_in l G.2.1 k2) gX3_setRepair_X3_in rfl ⟨rfl, rfl⟩ e_X3_in ⟨Nat.le_of_ble_eq_true rfl, Nat.le_of_ble_eq_true rfl⟩ rfl hl.1 rfl (Nat.le_of_ble_eq_true rfl) ⟨Nat.zero_le _, Nat.zero_le _⟩ dX3_setRepair_3 (fun H locs hP hS => ?_)
  refine lv_if_ne (tgt := 11) F.1 F.2.1 dX3_setRepair_6 (by decide) (fun c3 => ?_) (fun c3 => ?_)
  · replace hf := qi_f c3 hf
    refine lv_aload_n F.1 F.2.1 dX3_setRepair_11 rfl (lv_at hl 0 rfl) ?_
    obtain ⟨m5, k4, hf⟩ := qb1_x hf
    refine qr_cVv F G hP hS (qc_X3_acts l G.2.1 (qw_u1s _ _ _) (qw_fx rfl) hv k4) (qw_rcM hv) gX3_setRepair_X3_acts rfl ⟨rfl, rfl⟩ e_X3_acts ⟨Nat.le_of_ble_eq_true rfl, Nat.le_of_ble_eq_true rfl⟩ rfl hl.1 rfl (Nat.le_of_ble_eq_true rfl) ⟨Nat.zero_le _, Nat.zero_le _⟩ dX3_setRepair_12 (fun H locs hP hS => ?_)
    refine lv_aload_n F.1 F.2.1 dX3_setRepair_15 rfl (lv_at hl 0 rfl) ?_
    refine qr_gMr F G hv (fun w h => F.2.2.2.2 w (List.mem_cons_of_mem _ (List.mem_append_right _ h))) hP 0 1 (by decide) (List.mem_of_getElem? (i := 1) rfl) dX3_setRepair_16 ?_
    refine lv_bipush (v := (nI 14)) F.1 F.2.1 dX3_setRepair_19 (by decide) ?_
    obtain ⟨z6, ez6, hf⟩ := qn_x hf
    refine qr_ald F G hP (qw_u1s _ _ _) (qw_I9 (c := 1) (n := 935) hv (by decide)) (by unfold vp_in; decide) (by decide) ez6 dX3_setRepair_21 ?_
    refine lv_istore_n (lv' := [(2, .int z6), (0, .ref (qw_ad L 9 0)), (1, .int x1)]) F.1 F.2.1 dX3_setRepair_22 rfl hl (by decide) rfl (fun ls hl => ?_)
    refine lv_aload_n F.1 F.2.1 dX3_setRepair_23 rfl (lv_at hl 1 rfl) ?_
    refine qr_gMr F G hv (fun w h => F.2.2.2.2 w (List.mem_cons_of_mem _ (List.mem_append_right _ h))) hP 0 1 (by decide) (List.mem_of_getElem? (i := 1) rfl) dX3_setRepair_24 ?_
    refine lv_bipush (v := (nI 14)) F.1 F.2.1 dX3_setRepair_27 (by decide) ?_
    refine lv_iload_n F.1 F.2.1 dX3_setRepair_29 rfl (lv_at hl 2 rfl) ?_
    obtain ⟨m7, em7, hf⟩ := qn_x hf
    refine qr_ast F G hP hS (qw_u1s _ _ _) (qw_I9 (c := 1) (n := 935) hv (by decide)) (by unfold vp_in; decide) (by decide) (qw_fx em7) dX3_setRepair_30 (fun H locs hP hS => ?_)
    refine lv_iload_n F.1 F.2.1 dX3_setRepair_31 rfl (lv_at hl 0 rfl) ?_
    obtain ⟨e9, e8⟩ := qs2 hf
    subst e9
    subst e8
    exact hQ _ _ _ _ hP hS rfl dX3_setRepair_32
  · replace hf := qi_t c3 hf
    refine lv_iconst (v := (-1 : Int32)) F.1 F.2.1 dX3_setRepair_9 (by decide) ?_
    obtain ⟨e9, e8⟩ := qs2 hf
    subst e9
    subst e8
    exact hQ _ _ _ _ hP hS rfl dX3_setRepair_10
set_option maxRecDepth 100000 in
set_option maxHeartbeats 4000000 in
theorem qc_X3_setRepair (l : Launch) {L : wL} (hJ : qw_J L) {X X9 : wM} {h : Nat → Nat} {m m9 : wm} (hX : X 9 = m) (hX9 : qw_u1 X 9 m9 = X9) {x1 : Int32} {r : Int32} (hv : qw_9 L) (hf : qf_X3_setRepair x1 m = some (r, m9)) : qw_MI l yX3_setRepair wsX3_setRepair rm_X3_setRepair L (.ref (qw_ad L 9 0) :: [.int x1]) X h r X9 h := by
  subst hX
  subst hX9
  refine qw_MI_of (cc := cX3_setRepair) (maxL := 3) (ty := .int) (by decide) rfl hJ (Nat.le_of_ble_eq_true rfl) ?_
  intro p e s mi below meth co Q ls F G hP hQ hl
  exact qb_X3_setRepair F G hv hQ _ _ _ _ _ hf (by rw [qw_u1i]; exact hP) va_S.rf hl
def rm_X3_begin : Room := { frames := 1, cells := 0, slots := 0, locals := 23 }
theorem e_X3_begin : qw_hd yX3_begin RX3 1 := by decide +kernel
set_option maxRecDepth 100000 in
set_option maxHeartbeats 4000000 in
theorem qb_X3_begin {p : Program} {l : Launch} {e : Env} {s : State} {mi : MethodId} {args : Array Value} {below : List Frame} {meth : Method} {co : Code} {Q : State → Prop} {L : wL} {M : wM} {h : Nat → Nat} {r : Int32} {m9 : wm} (F : CallFix p mi co cX3_begin 3 s args wsX3_begin RX3) (G : qw_G L (qw_A L) s) (hv : qw_9 L) (hQ : qw_RI p l e rm_X3_begin s mi args below meth co cX3_begin .int Q L r (qw_u1 M 9 m9) h) : ∀ (x1 : Int32) (m : wm) (H : Heap) (locs : List Loc) (ls : Array Slot), qf_X3_begin x1 m = some (r, m9) → qw_P L (qw_u1 M 9 m) h H → va_S (qw_A L) s.heap H locs → lv_has ls 3 [(0, .ref (qw_ad L 9 0)), (1, .int x1)] → W p l e rm_X3_begin s mi args below meth co H locs 0 0 Q (F0 mi 0 ls []) := by
  intro x1 m H locs ls hf hP hS hl
  unfold qf_X3_begin at hf
  refine lv_iload_n F.1 F.2.1 dX3_begin_0 rfl (lv_at hl 1 rfl) ?_
  refine lv_iconst (v := (nI 2)) F.1 F.2.1 dX3_begin_1 (by decide) ?_
  refine lv_bipush (v := (nI 16)) F.1 F.2.1 dX3_begin_2 (by decide) ?_
  obtain ⟨r1, k2, hf⟩ := qb1_x hf
  refine qr_cSi F G hP hS (qc_X3_in l G.2.1 k2) gX3_begin_X3_in rfl ⟨rfl, rfl⟩ e_X3_in ⟨Nat.le_of_ble_eq_true rfl, Nat.le_of_ble_eq_true rfl⟩ rfl hl.1 rfl (Nat.le_of_ble_eq_true rfl) ⟨Nat.zero_le _, Nat.zero_le _⟩ dX3_begin_4 (fun H locs hP hS => ?_)
  refine lv_if_ne (tgt := 12) F.1 F.2.1 dX3_begin_7 (by decide) (fun c3 => ?_) (fun c3 => ?_)
  · replace hf := qi_f c3 hf
    refine lv_aload_n F.1 F.2.1 dX3_begin_12 rfl (lv_at hl 0 rfl) ?_
    obtain ⟨m5, k4, hf⟩ := qb1_x hf
    refine qr_cVv F G hP hS (qc_X3_acts l G.2.1 (qw_u1s _ _ _) (qw_fx rfl) hv k4) (qw_rcM hv) gX3_begin_X3_acts rfl ⟨rfl, rfl⟩ e_X3_acts ⟨Nat.le_of_ble_eq_true rfl, Nat.le_of_ble_eq_true rfl⟩ rfl hl.1 rfl (Nat.le_of_ble_eq_true rfl) ⟨Nat.zero_le _, Nat.zero_le _⟩ dX3_begin_13 (fun H locs hP hS => ?_)
    refine lv_aload_n F.1 F.2.1 dX3_begin_16 rfl (lv_at hl 0 rfl) ?_
    refine qr_gMr F G hv (fun w h => F.2.2.2.2 w (List.mem_cons_of_mem _ (List.mem_append_right _ h))) hP 0 1 (by decide) (List.mem_of_getElem? (i := 1) rfl) dX3_begin_17 ?_
    refine lv_bipush (v := (nI 11)) F.1 F.2.1 dX3_begin_20 (by decide) ?_
    obtain ⟨z6, ez6, hf⟩ := qn_x hf
    refine qr_ald F G hP (qw_u1s _ _ _) (qw_I9 (c := 1) (n := 935) hv (by decide)) (by unfold vp_in; decide) (by decide) ez6 dX3_begin_22 ?_
    refine lv_istore_n (lv' := [(2, .int z6), (0, .ref (qw_ad L 9 0)), (1, .int x1)]) F.1 F.2.1 dX3_begin_23 rfl hl (by decide) rfl (fun ls hl => ?_)
    refine lv_aload_n F.1 F.2.1 dX3_begin_24 rfl (lv_at hl 1 rfl) ?_
    refine lv_iload_n F.1 F.2.1 dX3_begin_25 rfl (lv_at hl 2 rfl) ?_
    obtain ⟨m8, k7, hf⟩ := qb1_x hf
    refine qr_cVv F G hP hS (qc_X3_begins l G.2.1 (qw_u1s _ _ _) (qw_fx rfl) hv k7) (qw_rcM hv) gX3_begin_X3_begins rfl ⟨rfl, rfl⟩ e_X3_begins ⟨Nat.le_of_ble_eq_true rfl, Nat.le_of_ble_eq_true rfl⟩ rfl hl.1 rfl (Nat.le_of_ble_eq_true rfl) ⟨Nat.zero_le _, Nat.zero_le _⟩ dX3_begin_26 (fun H locs hP hS => ?_)
    refine lv_iload_n F.1 F.2.1 dX3_begin_29 rfl (lv_at hl 0 rfl) ?_
    obtain ⟨e9, e8⟩ := qs2 hf
    subst e9
    subst e8
    exact hQ _ _ _ _ hP hS rfl dX3_begin_30
  · replace hf := qi_t c3 hf
    refine lv_iconst (v := (-1 : Int32)) F.1 F.2.1 dX3_begin_10 (by decide) ?_
    obtain ⟨e9, e8⟩ := qs2 hf
    subst e9
    subst e8
    exact hQ _ _ _ _ hP hS rfl dX3_begin_11
set_option maxRecDepth 100000 in
set_option maxHeartbeats 4000000 in
theorem qc_X3_begin (l : Launch) {L : wL} (hJ : qw_J L) {X X9 : wM} {h : Nat → Nat} {m m9 : wm} (hX : X 9 = m) (hX9 : qw_u1 X 9 m9 = X9) {x1 : Int32} {r : Int32} (hv : qw_9 L) (hf : qf_X3_begin x1 m = some (r, m9)) : qw_MI l yX3_begin wsX3_begin rm_X3_begin L (.ref (qw_ad L 9 0) :: [.int x1]) X h r X9 h := by
  subst hX
  subst hX9
  refine qw_MI_of (cc := cX3_begin) (maxL := 3) (ty := .int) (by decide) rfl hJ (Nat.le_of_ble_eq_true rfl) ?_
  intro p e s mi below meth co Q ls F G hP hQ hl
  exact qb_X3_begin F G hv hQ _ _ _ _ _ hf (by rw [qw_u1i]; exact hP) va_S.rf hl
def rm_X3_undo : Room := { frames := 0, cells := 0, slots := 0, locals := 0 }
theorem e_X3_undo : qw_hd yX3_undo RX3 0 := by decide +kernel
set_option maxRecDepth 100000 in
set_option maxHeartbeats 4000000 in
theorem qb_X3_undo_22 {p : Program} {l : Launch} {e : Env} {s : State} {mi : MethodId} {args : Array Value} {below : List Frame} {meth : Method} {co : Code} {Q : State → Prop} {L : wL} {M : wM} {h : Nat → Nat} {r : Int32} {m9 : wm} (F : CallFix p mi co cX3_undo 2 s args wsX3_undo RX3) (G : qw_G L (qw_A L) s) (hv : qw_9 L) (hQ : qw_RI p l e rm_X3_undo s mi args below meth co cX3_undo .int Q L r (qw_u1 M 9 m9) h) : ∀ (n : Nat) (x1 : Int32) (m : wm) (H : Heap) (locs : List Loc) (ls : Array Slot), qf_X3_undo_22 n x1 m = some (r, m9) → qw_P L (qw_u1 M 9 m) h H → va_S (qw_A L) s.heap H locs → lv_has ls 2 [(0, .ref (qw_ad L 9 0)), (1, .int x1)] → W p l e rm_X3_undo s mi args below meth co H locs 0 0 Q (F0 mi 22 ls []) := by
  intro n
  induction n with
  | zero =>
    intro x1 m H locs ls hf hP hS hl
    rw [qf_X3_undo_22] at hf
    cases hf
  | succ n ih =>
    intro x1 m H locs ls hf hP hS hl
    rw [qf_X3_undo_22] at hf
    refine lv_iload_n F.1 F.2.1 dX3_undo_22 rfl (lv_at hl 1 rfl) ?_
    refine lv_sipush (v := (nI 935)) F.1 F.2.1 dX3_undo_23 (by decide) ?_
    refine lv_icmp_ge (tgt := 56) F.1 F.2.1 dX3_undo_26 (by decide) (fun c1 => ?_) (fun c1 => ?_)
    · replace hf := qi_t c1 hf
      refine lv_aload_n F.1 F.2.1 dX3_undo_56 rfl (lv_at hl 0 rfl) ?_
      obtain ⟨z2, ez2, hf⟩ := qn_x hf
      refine qr_gM F G hv (fun w h => F.2.2.2.2 w (List.mem_cons_of_mem _ (List.mem_append_right _ h))) hP (qw_u1s _ _ _) 3 (by decide) (List.mem_of_getElem? (i := 1) rfl) ez2 dX3_undo_57 ?_
      obtain ⟨e9, e8⟩ := qs2 hf
      subst e9
      subst e8
      exact hQ _ _ _ _ hP hS rfl dX3_undo_60
    · replace hf := qi_f c1 hf
      refine lv_aload_n F.1 F.2.1 dX3_undo_29 rfl (lv_at hl 0 rfl) ?_
      refine qr_gMr F G hv (fun w h => F.2.2.2.2 w (List.mem_cons_of_mem _ (List.mem_append_right _ h))) hP 0 1 (by decide) (List.mem_of_getElem? (i := 2) rfl) dX3_undo_30 ?_
      refine lv_iload_n F.1 F.2.1 dX3_undo_33 rfl (lv_at hl 1 rfl) ?_
      refine lv_aload_n F.1 F.2.1 dX3_undo_34 rfl (lv_at hl 0 rfl) ?_
      refine qr_gMr F G hv (fun w h => F.2.2.2.2 w (List.mem_cons_of_mem _ (List.mem_append_right _ h))) hP 1 2 (by decide) (List.mem_of_getElem? (i := 3) rfl) dX3_undo_35 ?_
      refine lv_sipush (v := (nI 935)) F.1 F.2.1 dX3_undo_38 (by decide) ?_
      refine lv_aload_n F.1 F.2.1 dX3_undo_41 rfl (lv_at hl 0 rfl) ?_
      obtain ⟨z3, ez3, hf⟩ := qn_x hf
      refine qr_gM F G hv (fun w h => F.2.2.2.2 w (List.mem_cons_of_mem _ (List.mem_append_right _ h))) hP (qw_u1s _ _ _) 3 (by decide) (List.mem_of_getElem? (i := 1) rfl) ez3 dX3_undo_42 ?_
      obtain ⟨z4, ez4, hf⟩ := qn_x hf
      refine qr_imul F ez4 dX3_undo_45 ?_
      refine lv_iload_n F.1 F.2.1 dX3_undo_46 rfl (lv_at hl 1 rfl) ?_
      obtain ⟨z5, ez5, hf⟩ := qn_x hf
      refine qr_iadd F ez5 dX3_undo_47 ?_
      obtain ⟨g7, hf⟩ := qg_x hf
      obtain ⟨z6, ez6, hf⟩ := qn_x hf
      refine qr_ald F G hP (qw_u1s _ _ _) (qw_I9 (c := 2) (n := 4675) hv (by decide)) g7 rfl ez6 dX3_undo_48 ?_
      obtain ⟨g8, hf⟩ := qg_x hf
      obtain ⟨m9, em9, hf⟩ := qn_x hf
      refine qr_ast F G hP hS (qw_u1s _ _ _) (qw_I9 (c := 1) (n := 935) hv (by decide)) g8 rfl (qw_fx em9) dX3_undo_49 (fun H locs hP hS => ?_)
      obtain ⟨z10, ez10, hf⟩ := qn_x hf
      refine lv_iinc (v := z10) (lv' := [(1, .int z10), (0, .ref (qw_ad L 9 0))]) F.1 F.2.1 dX3_undo_50 hl (k := 1) rfl ((qw_ii1 _).trans ez10.symm) (by decide) rfl (fun ls hl => ?_)
      refine lv_goto (tgt := 22) F.1 F.2.1 dX3_undo_53 (by decide) ?_
      exact ih _ _ _ _ _ hf hP hS (lv_sub hl [1, 0] rfl)
set_option maxRecDepth 100000 in
set_option maxHeartbeats 4000000 in
theorem qb_X3_undo {p : Program} {l : Launch} {e : Env} {s : State} {mi : MethodId} {args : Array Value} {below : List Frame} {meth : Method} {co : Code} {Q : State → Prop} {L : wL} {M : wM} {h : Nat → Nat} {r : Int32} {m9 : wm} (F : CallFix p mi co cX3_undo 2 s args wsX3_undo RX3) (G : qw_G L (qw_A L) s) (hv : qw_9 L) (hQ : qw_RI p l e rm_X3_undo s mi args below meth co cX3_undo .int Q L r (qw_u1 M 9 m9) h) : ∀ (m : wm) (H : Heap) (locs : List Loc) (ls : Array Slot), qf_X3_undo m = some (r, m9) → qw_P L (qw_u1 M 9 m) h H → va_S (qw_A L) s.heap H locs → lv_has ls 2 [(0, .ref (qw_ad L 9 0))] → W p l e rm_X3_undo s mi args below meth co H locs 0 0 Q (F0 mi 0 ls []) := by
  intro m H locs ls hf hP hS hl
  unfold qf_X3_undo at hf
  refine lv_aload_n F.1 F.2.1 dX3_undo_0 rfl (lv_at hl 0 rfl) ?_
  obtain ⟨z1, ez1, hf⟩ := qn_x hf
  refine qr_gM F G hv (fun w h => F.2.2.2.2 w (List.mem_cons_of_mem _ (List.mem_append_right _ h))) hP (qw_u1s _ _ _) 3 (by decide) (List.mem_of_getElem? (i := 1) rfl) ez1 dX3_undo_1 ?_
  refine lv_if_ne (tgt := 10) F.1 F.2.1 dX3_undo_4 (by decide) (fun c2 => ?_) (fun c2 => ?_)
  · replace hf := qi_f c2 hf
    refine lv_aload_n F.1 F.2.1 dX3_undo_10 rfl (lv_at hl 0 rfl) ?_
    refine lv_dup F.1 F.2.1 dX3_undo_11 rfl ?_
    obtain ⟨z3, ez3, hf⟩ := qn_x hf
    refine qr_gM F G hv (fun w h => F.2.2.2.2 w (List.mem_cons_of_mem _ (List.mem_append_right _ h))) hP (qw_u1s _ _ _) 3 (by decide) (List.mem_of_getElem? (i := 1) rfl) ez3 dX3_undo_12 ?_
    refine lv_iconst (v := (nI 1)) F.1 F.2.1 dX3_undo_15 (by decide) ?_
    obtain ⟨z4, ez4, hf⟩ := qn_x hf
    refine qr_isub F ez4 dX3_undo_16 ?_
    obtain ⟨m5, em5, hf⟩ := qn_x hf
    refine qr_pM F G hv (fun w h => F.2.2.2.2 w (List.mem_cons_of_mem _ (List.mem_append_right _ h))) hP hS (qw_u1s _ _ _) 3 (by decide) (List.mem_of_getElem? (i := 1) rfl) (qw_fx em5) dX3_undo_17 (fun H locs hP hS => ?_)
    refine lv_iconst (v := (nI 0)) F.1 F.2.1 dX3_undo_20 (by decide) ?_
    refine lv_istore_n (lv' := [(1, .int (nI 0)), (0, .ref (qw_ad L 9 0))]) F.1 F.2.1 dX3_undo_21 rfl hl (by decide) rfl (fun ls hl => ?_)
    exact qb_X3_undo_22 F G hv hQ _ _ _ _ _ _ hf hP hS (lv_sub hl [1, 0] rfl)
  · replace hf := qi_t c2 hf
    refine lv_bipush (v := (-2 : Int32)) F.1 F.2.1 dX3_undo_7 (by decide) ?_
    obtain ⟨e9, e8⟩ := qs2 hf
    subst e9
    subst e8
    exact hQ _ _ _ _ hP hS rfl dX3_undo_9
set_option maxRecDepth 100000 in
set_option maxHeartbeats 4000000 in
theorem qc_X3_undo (l : Launch) {L : wL} (hJ : qw_J L) {X X9 : wM} {h : Nat → Nat} {m m9 : wm} (hX : X 9 = m) (hX9 : qw_u1 X 9 m9 = X9) {r : Int32} (hv : qw_9 L) (hf : qf_X3_undo m = some (r, m9)) : qw_MI l yX3_undo wsX3_undo rm_X3_undo L (.ref (qw_ad L 9 0) :: []) X h r X9 h := by
  subst hX
  subst hX9
  refine qw_MI_of (cc := cX3_undo) (maxL := 2) (ty := .int) (by decide) rfl hJ (Nat.le_of_ble_eq_true rfl) ?_
  intro p e s mi below meth co Q ls F G hP hQ hl
  exact qb_X3_undo F G hv hQ _ _ _ _ hf (by rw [qw_u1i]; exact hP) va_S.rf hl
def rm_X3_append : Room := { frames := 1, cells := 0, slots := 0, locals := 22 }
theorem e_X3_append : qw_hd yX3_append RX3 1 := by decide +kernel
set_option maxRecDepth 100000 in
set_option maxHeartbeats 4000000 in
theorem qb_X3_append {p : Program} {l : Launch} {e : Env} {s : State} {mi : MethodId} {args : Array Value} {below : List Frame} {meth : Method} {co : Code} {Q : State → Prop} {L : wL} {M : wM} {h : Nat → Nat} {r : Int32} {m9 : wm} (F : CallFix p mi co cX3_append 2 s args wsX3_append RX3) (G : qw_G L (qw_A L) s) (hv : qw_9 L) (hQ : qw_RI p l e rm_X3_append s mi args below meth co cX3_append .int Q L r (qw_u1 M 9 m9) h) : ∀ (x1 : Int32) (m : wm) (H : Heap) (locs : List Loc) (ls : Array Slot), qf_X3_append x1 m = some (r, m9) → qw_P L (qw_u1 M 9 m) h H → va_S (qw_A L) s.heap H locs → lv_has ls 2 [(0, .ref (qw_ad L 9 0)), (1, .int x1)] → W p l e rm_X3_append s mi args below meth co H locs 0 0 Q (F0 mi 0 ls []) := by
  intro x1 m H locs ls hf hP hS hl
  unfold qf_X3_append at hf
  refine lv_iload_n F.1 F.2.1 dX3_append_0 rfl (lv_at hl 1 rfl) ?_
  refine lv_iconst (v := (nI 1)) F.1 F.2.1 dX3_append_1 (by decide) ?_
  refine lv_sipush (v := (nI 255)) F.1 F.2.1 dX3_append_2 (by decide) ?_
  obtain ⟨r1, k2, hf⟩ := qb1_x hf
  refine qr_cSi F G hP hS (qc_X3_in l G.2.1 k2) gX3_append_X3_in rfl ⟨rfl, rfl⟩ e_X3_in ⟨Nat.le_of_ble_eq_true rfl, Nat.le_of_ble_eq_true rfl⟩ rfl hl.1 rfl (Nat.le_of_ble_eq_true rfl) ⟨Nat.zero_le _, Nat.zero_le _⟩ dX3_append_5 (fun H locs hP hS => ?_)
  refine lv_if_ne (tgt := 13) F.1 F.2.1 dX3_append_8 (by decide) (fun c3 => ?_) (fun c3 => ?_)
  · replace hf := qi_f c3 hf
    refine lv_aload_n F.1 F.2.1 dX3_append_13 rfl (lv_at hl 0 rfl) ?_
    obtain ⟨z4, ez4, hf⟩ := qn_x hf
    refine qr_gM F G hv (fun w h => F.2.2.2.2 w (List.mem_cons_of_mem _ (List.mem_append_right _ h))) hP (qw_u1s _ _ _) 6 (by decide) (List.mem_of_getElem? (i := 1) rfl) ez4 dX3_append_14 ?_
    refine lv_bipush (v := (nI 120)) F.1 F.2.1 dX3_append_17 (by decide) ?_
    refine lv_icmp_ne (tgt := 25) F.1 F.2.1 dX3_append_19 (by decide) (fun c5 => ?_) (fun c5 => ?_)
    · replace hf := qi_f c5 hf
      refine lv_aload_n F.1 F.2.1 dX3_append_25 rfl (lv_at hl 0 rfl) ?_
      refine qr_gMr F G hv (fun w h => F.2.2.2.2 w (List.mem_cons_of_mem _ (List.mem_append_right _ h))) hP 5 4 (by decide) (List.mem_of_getElem? (i := 2) rfl) dX3_append_26 ?_
      refine lv_aload_n F.1 F.2.1 dX3_append_29 rfl (lv_at hl 0 rfl) ?_
      obtain ⟨z6, ez6, hf⟩ := qn_x hf
      refine qr_gM F G hv (fun w h => F.2.2.2.2 w (List.mem_cons_of_mem _ (List.mem_append_right _ h))) hP (qw_u1s _ _ _) 6 (by decide) (List.mem_of_getElem? (i := 1) rfl) ez6 dX3_append_30 ?_
      refine lv_iload_n F.1 F.2.1 dX3_append_33 rfl (lv_at hl 1 rfl) ?_
      obtain ⟨g7, hf⟩ := qg_x hf
      obtain ⟨m8, em8, hf⟩ := qn_x hf
      refine qr_ast F G hP hS (qw_u1s _ _ _) (qw_I9 (c := 4) (n := 120) hv (by decide)) g7 rfl (qw_fx em8) dX3_append_34 (fun H locs hP hS => ?_)
      refine lv_aload_n F.1 F.2.1 dX3_append_35 rfl (lv_at hl 0 rfl) ?_
      refine lv_dup F.1 F.2.1 dX3_append_36 rfl ?_
      obtain ⟨z9, ez9, hf⟩ := qn_x hf
      refine qr_gM F G hv (fun w h => F.2.2.2.2 w (List.mem_cons_of_mem _ (List.mem_append_right _ h))) hP (qw_u1s _ _ _) 6 (by decide) (List.mem_of_getElem? (i := 1) rfl) ez9 dX3_append_37 ?_
      refine lv_iconst (v := (nI 1)) F.1 F.2.1 dX3_append_40 (by decide) ?_
      obtain ⟨z10, ez10, hf⟩ := qn_x hf
      refine qr_iadd F ez10 dX3_append_41 ?_
      obtain ⟨m11, em11, hf⟩ := qn_x hf
      refine qr_pM F G hv (fun w h => F.2.2.2.2 w (List.mem_cons_of_mem _ (List.mem_append_right _ h))) hP hS (qw_u1s _ _ _) 6 (by decide) (List.mem_of_getElem? (i := 1) rfl) (qw_fx em11) dX3_append_42 (fun H locs hP hS => ?_)
      refine lv_aload_n F.1 F.2.1 dX3_append_45 rfl (lv_at hl 0 rfl) ?_
      obtain ⟨z12, ez12, hf⟩ := qn_x hf
      refine qr_gM F G hv (fun w h => F.2.2.2.2 w (List.mem_cons_of_mem _ (List.mem_append_right _ h))) hP (qw_u1s _ _ _) 6 (by decide) (List.mem_of_getElem? (i := 1) rfl) ez12 dX3_append_46 ?_
      obtain ⟨e9, e8⟩ := qs2 hf
      subst e9
      subst e8
      exact hQ _ _ _ _ hP hS rfl dX3_append_49
    · replace hf := qi_t c5 hf
      refine lv_bipush (v := (-3 : Int32)) F.1 F.2.1 dX3_append_22 (by decide) ?_
      obtain ⟨e9, e8⟩ := qs2 hf
      subst e9
      subst e8
      exact hQ _ _ _ _ hP hS rfl dX3_append_24
  · replace hf := qi_t c3 hf
    refine lv_iconst (v := (-1 : Int32)) F.1 F.2.1 dX3_append_11 (by decide) ?_
    obtain ⟨e9, e8⟩ := qs2 hf
    subst e9
    subst e8
    exact hQ _ _ _ _ hP hS rfl dX3_append_12
set_option maxRecDepth 100000 in
set_option maxHeartbeats 4000000 in
theorem qc_X3_append (l : Launch) {L : wL} (hJ : qw_J L) {X X9 : wM} {h : Nat → Nat} {m m9 : wm} (hX : X 9 = m) (hX9 : qw_u1 X 9 m9 = X9) {x1 : Int32} {r : Int32} (hv : qw_9 L) (hf : qf_X3_append x1 m = some (r, m9)) : qw_MI l yX3_append wsX3_append rm_X3_append L (.ref (qw_ad L 9 0) :: [.int x1]) X h r X9 h := by
  subst hX
  subst hX9
  refine qw_MI_of (cc := cX3_append) (maxL := 2) (ty := .int) (by decide) rfl hJ (Nat.le_of_ble_eq_true rfl) ?_
  intro p e s mi below meth co Q ls F G hP hQ hl
  exact qb_X3_append F G hv hQ _ _ _ _ _ hf (by rw [qw_u1i]; exact hP) va_S.rf hl
def rm_X3_clearText : Room := { frames := 0, cells := 0, slots := 0, locals := 0 }
theorem e_X3_clearText : qw_hd yX3_clearText RX3 0 := by decide +kernel
set_option maxRecDepth 100000 in
set_option maxHeartbeats 4000000 in
theorem qb_X3_clearText {p : Program} {l : Launch} {e : Env} {s : State} {mi : MethodId} {args : Array Value} {below : List Frame} {meth : Method} {co : Code} {Q : State → Prop} {L : wL} {M : wM} {h : Nat → Nat} {r : Int32} {m9 : wm} (F : CallFix p mi co cX3_clearText 2 s args wsX3_clearText RX3) (G : qw_G L (qw_A L) s) (hv : qw_9 L) (hQ : qw_RI p l e rm_X3_clearText s mi args below meth co cX3_clearText .int Q L r (qw_u1 M 9 m9) h) : ∀ (m : wm) (H : Heap) (locs : List Loc) (ls : Array Slot), qf_X3_clearText m = some (r, m9) → qw_P L (qw_u1 M 9 m) h H → va_S (qw_A L) s.heap H locs → lv_has ls 2 [(0, .ref (qw_ad L 9 0))] → W p l e rm_X3_clearText s mi args below meth co H locs 0 0 Q (F0 mi 0 ls []) := by
  intro m H locs ls hf hP hS hl
  unfold qf_X3_clearText at hf
  refine lv_aload_n F.1 F.2.1 dX3_clearText_0 rfl (lv_at hl 0 rfl) ?_
  obtain ⟨z1, ez1, hf⟩ := qn_x hf
  refine qr_gM F G hv (fun w h => F.2.2.2.2 w (List.mem_cons_of_mem _ (List.mem_append_right _ h))) hP (qw_u1s _ _ _) 6 (by decide) (List.mem_of_getElem? (i := 1) rfl) ez1 dX3_clearText_1 ?_
  refine lv_istore_n (lv' := [(1, .int z1), (0, .ref (qw_ad L 9 0))]) F.1 F.2.1 dX3_clearText_4 rfl hl (by decide) rfl (fun ls hl => ?_)
  refine lv_aload_n F.1 F.2.1 dX3_clearText_5 rfl (lv_at hl 1 rfl) ?_
  refine lv_iconst (v := (nI 0)) F.1 F.2.1 dX3_clearText_6 (by decide) ?_
  obtain ⟨m2, em2, hf⟩ := qn_x hf
  refine qr_pM F G hv (fun w h => F.2.2.2.2 w (List.mem_cons_of_mem _ (List.mem_append_right _ h))) hP hS (qw_u1s _ _ _) 6 (by decide) (List.mem_of_getElem? (i := 1) rfl) (qw_fx em2) dX3_clearText_7 (fun H locs hP hS => ?_)
  refine lv_iload_n F.1 F.2.1 dX3_clearText_10 rfl (lv_at hl 0 rfl) ?_
  obtain ⟨e9, e8⟩ := qs2 hf
  subst e9
  subst e8
  exact hQ _ _ _ _ hP hS rfl dX3_clearText_11
set_option maxRecDepth 100000 in
set_option maxHeartbeats 4000000 in
theorem qc_X3_clearText (l : Launch) {L : wL} (hJ : qw_J L) {X X9 : wM} {h : Nat → Nat} {m m9 : wm} (hX : X 9 = m) (hX9 : qw_u1 X 9 m9 = X9) {r : Int32} (hv : qw_9 L) (hf : qf_X3_clearText m = some (r, m9)) : qw_MI l yX3_clearText wsX3_clearText rm_X3_clearText L (.ref (qw_ad L 9 0) :: []) X h r X9 h := by
  subst hX
  subst hX9
  refine qw_MI_of (cc := cX3_clearText) (maxL := 2) (ty := .int) (by decide) rfl hJ (Nat.le_of_ble_eq_true rfl) ?_
  intro p e s mi below meth co Q ls F G hP hQ hl
  exact qb_X3_clearText F G hv hQ _ _ _ _ hf (by rw [qw_u1i]; exact hP) va_S.rf hl
def rm_X3_skips : Room := { frames := 0, cells := 0, slots := 0, locals := 0 }
theorem e_X3_skips : qw_hd yX3_skips RX3 0 := by decide +kernel
set_option maxRecDepth 100000 in
set_option maxHeartbeats 4000000 in
theorem qb_X3_skips_0 {p : Program} {l : Launch} {e : Env} {s : State} {mi : MethodId} {args : Array Value} {below : List Frame} {meth : Method} {co : Code} {Q : State → Prop} {L : wL} {M : wM} {h : Nat → Nat} {m9 : wm} (F : CallFix p mi co cX3_skips 1 s args wsX3_skips RX3) (G : qw_G L (qw_A L) s) (hv : qw_9 L) (hQ : qw_RV p l e rm_X3_skips s mi args below meth co cX3_skips Q L (qw_u1 M 9 m9) h) : ∀ (n : Nat) (m : wm) (H : Heap) (locs : List Loc) (ls : Array Slot), qf_X3_skips_0 n m = some m9 → qw_P L (qw_u1 M 9 m) h H → va_S (qw_A L) s.heap H locs → lv_has ls 1 [(0, .ref (qw_ad L 9 0))] → W p l e rm_X3_skips s mi args below meth co H locs 0 0 Q (F0 mi 0 ls []) := by
  intro n
  induction n with
  | zero =>
    intro m H locs ls hf hP hS hl
    rw [qf_X3_skips_0] at hf
    cases hf
  | succ n ih =>
    intro m H locs ls hf hP hS hl
    rw [qf_X3_skips_0] at hf
    refine lv_aload_n F.1 F.2.1 dX3_skips_0 rfl (lv_at hl 0 rfl) ?_
    obtain ⟨z1, ez1, hf⟩ := qn_x hf
    refine qr_gM F G hv (fun w h => F.2.2.2.2 w (List.mem_cons_of_mem _ (List.mem_append_right _ h))) hP (qw_u1s _ _ _) 7 (by decide) (List.mem_of_getElem? (i := 1) rfl) ez1 dX3_skips_1 ?_
    refine lv_aload_n F.1 F.2.1 dX3_skips_4 rfl (lv_at hl 0 rfl) ?_
    obtain ⟨z2, ez2, hf⟩ := qn_x hf
    refine qr_gM F G hv (fun w h => F.2.2.2.2 w (List.mem_cons_of_mem _ (List.mem_append_right _ h))) hP (qw_u1s _ _ _) 6 (by decide) (List.mem_of_getElem? (i := 2) rfl) ez2 dX3_skips_5 ?_
    refine lv_icmp_ge (tgt := 38) F.1 F.2.1 dX3_skips_8 (by decide) (fun c3 => ?_) (fun c3 => ?_)
    · replace hf := qi_t c3 hf
      have e8 := qs1 hf
      subst e8
      exact hQ _ _ _ _ hP hS dX3_skips_38
    · replace hf := qi_f c3 hf
      refine lv_aload_n F.1 F.2.1 dX3_skips_11 rfl (lv_at hl 0 rfl) ?_
      refine qr_gMr F G hv (fun w h => F.2.2.2.2 w (List.mem_cons_of_mem _ (List.mem_append_right _ h))) hP 5 4 (by decide) (List.mem_of_getElem? (i := 3) rfl) dX3_skips_12 ?_
      refine lv_aload_n F.1 F.2.1 dX3_skips_15 rfl (lv_at hl 0 rfl) ?_
      obtain ⟨z4, ez4, hf⟩ := qn_x hf
      refine qr_gM F G hv (fun w h => F.2.2.2.2 w (List.mem_cons_of_mem _ (List.mem_append_right _ h))) hP (qw_u1s _ _ _) 7 (by decide) (List.mem_of_getElem? (i := 1) rfl) ez4 dX3_skips_16 ?_
      obtain ⟨g6, hf⟩ := qg_x hf
      obtain ⟨z5, ez5, hf⟩ := qn_x hf
      refine qr_ald F G hP (qw_u1s _ _ _) (qw_I9 (c := 4) (n := 120) hv (by decide)) g6 rfl ez5 dX3_skips_19 ?_
      refine lv_bipush (v := (nI 32)) F.1 F.2.1 dX3_skips_20 (by decide) ?_
      refine lv_icmp_ne (tgt := 38) F.1 F.2.1 dX3_skips_22 (by decide) (fun c7 => ?_) (fun c7 => ?_)
      · replace hf := qi_f c7 hf
        have e8 := qs1 hf
        subst e8
        exact hQ _ _ _ _ hP hS dX3_skips_38
      · replace hf := qi_t c7 hf
        refine lv_aload_n F.1 F.2.1 dX3_skips_25 rfl (lv_at hl 0 rfl) ?_
        refine lv_dup F.1 F.2.1 dX3_skips_26 rfl ?_
        obtain ⟨z8, ez8, hf⟩ := qn_x hf
        refine qr_gM F G hv (fun w h => F.2.2.2.2 w (List.mem_cons_of_mem _ (List.mem_append_right _ h))) hP (qw_u1s _ _ _) 7 (by decide) (List.mem_of_getElem? (i := 1) rfl) ez8 dX3_skips_27 ?_
        refine lv_iconst (v := (nI 1)) F.1 F.2.1 dX3_skips_30 (by decide) ?_
        obtain ⟨z9, ez9, hf⟩ := qn_x hf
        refine qr_iadd F ez9 dX3_skips_31 ?_
        obtain ⟨m10, em10, hf⟩ := qn_x hf
        refine qr_pM F G hv (fun w h => F.2.2.2.2 w (List.mem_cons_of_mem _ (List.mem_append_right _ h))) hP hS (qw_u1s _ _ _) 7 (by decide) (List.mem_of_getElem? (i := 1) rfl) (qw_fx em10) dX3_skips_32 (fun H locs hP hS => ?_)
        refine lv_goto (tgt := 0) F.1 F.2.1 dX3_skips_35 (by decide) ?_
        exact ih _ _ _ _ hf hP hS (lv_sub hl [0] rfl)
set_option maxRecDepth 100000 in
set_option maxHeartbeats 4000000 in
theorem qb_X3_skips {p : Program} {l : Launch} {e : Env} {s : State} {mi : MethodId} {args : Array Value} {below : List Frame} {meth : Method} {co : Code} {Q : State → Prop} {L : wL} {M : wM} {h : Nat → Nat} {m9 : wm} (F : CallFix p mi co cX3_skips 1 s args wsX3_skips RX3) (G : qw_G L (qw_A L) s) (hv : qw_9 L) (hQ : qw_RV p l e rm_X3_skips s mi args below meth co cX3_skips Q L (qw_u1 M 9 m9) h) : ∀ (m : wm) (H : Heap) (locs : List Loc) (ls : Array Slot), qf_X3_skips m = some m9 → qw_P L (qw_u1 M 9 m) h H → va_S (qw_A L) s.heap H locs → lv_has ls 1 [(0, .ref (qw_ad L 9 0))] → W p l e rm_X3_skips s mi args below meth co H locs 0 0 Q (F0 mi 0 ls []) := by
  intro m H locs ls hf hP hS hl
  unfold qf_X3_skips at hf
  refine lv_aload_n F.1 F.2.1 dX3_skips_0 rfl (lv_at hl 0 rfl) ?_
  obtain ⟨z1, ez1, hf⟩ := qn_x hf
  refine qr_gM F G hv (fun w h => F.2.2.2.2 w (List.mem_cons_of_mem _ (List.mem_append_right _ h))) hP (qw_u1s _ _ _) 7 (by decide) (List.mem_of_getElem? (i := 1) rfl) ez1 dX3_skips_1 ?_
  refine lv_aload_n F.1 F.2.1 dX3_skips_4 rfl (lv_at hl 0 rfl) ?_
  obtain ⟨z2, ez2, hf⟩ := qn_x hf
  refine qr_gM F G hv (fun w h => F.2.2.2.2 w (List.mem_cons_of_mem _ (List.mem_append_right _ h))) hP (qw_u1s _ _ _) 6 (by decide) (List.mem_of_getElem? (i := 2) rfl) ez2 dX3_skips_5 ?_
  refine lv_icmp_ge (tgt := 38) F.1 F.2.1 dX3_skips_8 (by decide) (fun c3 => ?_) (fun c3 => ?_)
  · replace hf := qi_t c3 hf
    have e8 := qs1 hf
    subst e8
    exact hQ _ _ _ _ hP hS dX3_skips_38
  · replace hf := qi_f c3 hf
    refine lv_aload_n F.1 F.2.1 dX3_skips_11 rfl (lv_at hl 0 rfl) ?_
    refine qr_gMr F G hv (fun w h => F.2.2.2.2 w (List.mem_cons_of_mem _ (List.mem_append_right _ h))) hP 5 4 (by decide) (List.mem_of_getElem? (i := 3) rfl) dX3_skips_12 ?_
    refine lv_aload_n F.1 F.2.1 dX3_skips_15 rfl (lv_at hl 0 rfl) ?_
    obtain ⟨z4, ez4, hf⟩ := qn_x hf
    refine qr_gM F G hv (fun w h => F.2.2.2.2 w (List.mem_cons_of_mem _ (List.mem_append_right _ h))) hP (qw_u1s _ _ _) 7 (by decide) (List.mem_of_getElem? (i := 1) rfl) ez4 dX3_skips_16 ?_
    obtain ⟨g6, hf⟩ := qg_x hf
    obtain ⟨z5, ez5, hf⟩ := qn_x hf
    refine qr_ald F G hP (qw_u1s _ _ _) (qw_I9 (c := 4) (n := 120) hv (by decide)) g6 rfl ez5 dX3_skips_19 ?_
    refine lv_bipush (v := (nI 32)) F.1 F.2.1 dX3_skips_20 (by decide) ?_
    refine lv_icmp_ne (tgt := 38) F.1 F.2.1 dX3_skips_22 (by decide) (fun c7 => ?_) (fun c7 => ?_)
    · replace hf := qi_f c7 hf
      have e8 := qs1 hf
      subst e8
      exact hQ _ _ _ _ hP hS dX3_skips_38
    · replace hf := qi_t c7 hf
      refine lv_aload_n F.1 F.2.1 dX3_skips_25 rfl (lv_at hl 0 rfl) ?_
      refine lv_dup F.1 F.2.1 dX3_skips_26 rfl ?_
      obtain ⟨z8, ez8, hf⟩ := qn_x hf
      refine qr_gM F G hv (fun w h => F.2.2.2.2 w (List.mem_cons_of_mem _ (List.mem_append_right _ h))) hP (qw_u1s _ _ _) 7 (by decide) (List.mem_of_getElem? (i := 1) rfl) ez8 dX3_skips_27 ?_
      refine lv_iconst (v := (nI 1)) F.1 F.2.1 dX3_skips_30 (by decide) ?_
      obtain ⟨z9, ez9, hf⟩ := qn_x hf
      refine qr_iadd F ez9 dX3_skips_31 ?_
      obtain ⟨m10, em10, hf⟩ := qn_x hf
      refine qr_pM F G hv (fun w h => F.2.2.2.2 w (List.mem_cons_of_mem _ (List.mem_append_right _ h))) hP hS (qw_u1s _ _ _) 7 (by decide) (List.mem_of_getElem? (i := 1) rfl) (qw_fx em10) dX3_skips_32 (fun H locs hP hS => ?_)
      refine lv_goto (tgt := 0) F.1 F.2.1 dX3_skips_35 (by decide) ?_
      exact qb_X3_skips_0 F G hv hQ _ _ _ _ _ hf hP hS (lv_sub hl [0] rfl)
set_option maxRecDepth 100000 in
set_option maxHeartbeats 4000000 in
theorem qc_X3_skips (l : Launch) {L : wL} (hJ : qw_J L) {X X9 : wM} {h : Nat → Nat} {m m9 : wm} (hX : X 9 = m) (hX9 : qw_u1 X 9 m9 = X9) (hv : qw_9 L) (hf : qf_X3_skips m = some m9) : qw_MV l yX3_skips wsX3_skips rm_X3_skips L (.ref (qw_ad L 9 0) :: []) X h X9 h := by
  subst hX
  subst hX9
  refine qw_MV_of (cc := cX3_skips) (maxL := 1) (by decide) rfl hJ (Nat.le_of_ble_eq_true rfl) ?_
  intro p e s mi below meth co Q ls F G hP hQ hl
  exact qb_X3_skips F G hv hQ _ _ _ _ hf (by rw [qw_u1i]; exact hP) va_S.rf hl
def rm_X3_isDigit : Room := { frames := 1, cells := 0, slots := 0, locals := 22 }
theorem e_X3_isDigit : qw_hd yX3_isDigit RX3 1 := by decide +kernel
set_option maxRecDepth 100000 in
set_option maxHeartbeats 4000000 in
theorem qb_X3_isDigit {p : Program} {l : Launch} {e : Env} {s : State} {mi : MethodId} {args : Array Value} {below : List Frame} {meth : Method} {co : Code} {Q : State → Prop} {L : wL} {M : wM} {h : Nat → Nat} {r : Int32} {m : wm} (F : CallFix p mi co cX3_isDigit 2 s args wsX3_isDigit RX3) (G : qw_G L (qw_A L) s) (hv : qw_9 L) (hQ : qw_RI p l e rm_X3_isDigit s mi args below meth co cX3_isDigit .boolean Q L r (qw_u1 M 9 m) h) : ∀ (x1 : Int32) (H : Heap) (locs : List Loc) (ls : Array Slot), qf_X3_isDigit x1 m = some r → qw_P L (qw_u1 M 9 m) h H → va_S (qw_A L) s.heap H locs → lv_has ls 2 [(0, .ref (qw_ad L 9 0)), (1, .int x1)] → W p l e rm_X3_isDigit s mi args below meth co H locs 0 0 Q (F0 mi 0 ls []) := by
  intro x1 H locs ls hf hP hS hl
  unfold qf_X3_isDigit at hf
  refine lv_iload_n F.1 F.2.1 dX3_isDigit_0 rfl (lv_at hl 1 rfl) ?_
  refine lv_aload_n F.1 F.2.1 dX3_isDigit_1 rfl (lv_at hl 0 rfl) ?_
  obtain ⟨z1, ez1, hf⟩ := qn_x hf
  refine qr_gM F G hv (fun w h => F.2.2.2.2 w (List.mem_cons_of_mem _ (List.mem_append_right _ h))) hP (qw_u1s _ _ _) 6 (by decide) (List.mem_of_getElem? (i := 1) rfl) ez1 dX3_isDigit_2 ?_
  refine lv_icmp_ge (tgt := 28) F.1 F.2.1 dX3_isDigit_5 (by decide) (fun c2 => ?_) (fun c2 => ?_)
  · replace hf := qi_t c2 hf
    refine lv_iconst (v := (nI 0)) F.1 F.2.1 dX3_isDigit_28 (by decide) ?_
    have e9 := qs1 hf
    subst e9
    exact hQ _ _ _ _ hP hS rfl dX3_isDigit_29
  · replace hf := qi_f c2 hf
    refine lv_aload_n F.1 F.2.1 dX3_isDigit_8 rfl (lv_at hl 0 rfl) ?_
    refine qr_gMr F G hv (fun w h => F.2.2.2.2 w (List.mem_cons_of_mem _ (List.mem_append_right _ h))) hP 5 4 (by decide) (List.mem_of_getElem? (i := 2) rfl) dX3_isDigit_9 ?_
    refine lv_iload_n F.1 F.2.1 dX3_isDigit_12 rfl (lv_at hl 1 rfl) ?_
    obtain ⟨g4, hf⟩ := qg_x hf
    obtain ⟨z3, ez3, hf⟩ := qn_x hf
    refine qr_ald F G hP (qw_u1s _ _ _) (qw_I9 (c := 4) (n := 120) hv (by decide)) g4 rfl ez3 dX3_isDigit_13 ?_
    refine lv_bipush (v := (nI 48)) F.1 F.2.1 dX3_isDigit_14 (by decide) ?_
    refine lv_bipush (v := (nI 57)) F.1 F.2.1 dX3_isDigit_16 (by decide) ?_
    obtain ⟨r5, k6, hf⟩ := qb1_x hf
    refine qr_cSi F G hP hS (qc_X3_in l G.2.1 k6) gX3_isDigit_X3_in rfl ⟨rfl, rfl⟩ e_X3_in ⟨Nat.le_of_ble_eq_true rfl, Nat.le_of_ble_eq_true rfl⟩ rfl hl.1 rfl (Nat.le_of_ble_eq_true rfl) ⟨Nat.zero_le _, Nat.zero_le _⟩ dX3_isDigit_18 (fun H locs hP hS => ?_)
    refine lv_if_eq (tgt := 28) F.1 F.2.1 dX3_isDigit_21 (by decide) (fun c7 => ?_) (fun c7 => ?_)
    · replace hf := qi_t c7 hf
      refine lv_iconst (v := (nI 0)) F.1 F.2.1 dX3_isDigit_28 (by decide) ?_
      have e9 := qs1 hf
      subst e9
      exact hQ _ _ _ _ hP hS rfl dX3_isDigit_29
    · replace hf := qi_f c7 hf
      refine lv_iconst (v := (nI 1)) F.1 F.2.1 dX3_isDigit_24 (by decide) ?_
      refine lv_goto (tgt := 29) F.1 F.2.1 dX3_isDigit_25 (by decide) ?_
      have e9 := qs1 hf
      subst e9
      exact hQ _ _ _ _ hP hS rfl dX3_isDigit_29
set_option maxRecDepth 100000 in
set_option maxHeartbeats 4000000 in
theorem qc_X3_isDigit (l : Launch) {L : wL} (hJ : qw_J L) {X : wM} {h : Nat → Nat} {m : wm} (hX : X 9 = m) {x1 : Int32} {r : Int32} (hv : qw_9 L) (hf : qf_X3_isDigit x1 m = some r) : qw_MI l yX3_isDigit wsX3_isDigit rm_X3_isDigit L (.ref (qw_ad L 9 0) :: [.int x1]) X h r X h := by
  subst hX
  refine qw_MI_of (cc := cX3_isDigit) (maxL := 2) (ty := .boolean) (by decide) rfl hJ (Nat.le_of_ble_eq_true rfl) ?_
  intro p e s mi below meth co Q ls F G hP hQ hl
  exact qb_X3_isDigit F G hv (by rw [qw_u1i]; exact hQ) _ _ _ _ hf (by rw [qw_u1i]; exact hP) va_S.rf hl
def rm_X3_number : Room := { frames := 2, cells := 0, slots := 0, locals := 43 }
theorem e_X3_number : qw_hd yX3_number RX3 0 := by decide +kernel
set_option maxRecDepth 100000 in
set_option maxHeartbeats 4000000 in
theorem qb_X3_number_123 {p : Program} {l : Launch} {e : Env} {s : State} {mi : MethodId} {args : Array Value} {below : List Frame} {meth : Method} {co : Code} {Q : State → Prop} {L : wL} {M : wM} {h : Nat → Nat} {r : Int32} {m9 : wm} (F : CallFix p mi co cX3_number 3 s args wsX3_number RX3) (G : qw_G L (qw_A L) s) (hv : qw_9 L) (hQ : qw_RI p l e rm_X3_number s mi args below meth co cX3_number .boolean Q L r (qw_u1 M 9 m9) h) : ∀ (x1 : Int32) (y0 : Int32) (m : wm) (H : Heap) (locs : List Loc) (ls : Array Slot), qf_X3_number_123 x1 y0 m = some (r, m9) → qw_P L (qw_u1 M 9 m) h H → va_S (qw_A L) s.heap H locs → lv_has ls 3 [(0, .ref (qw_ad L 9 0)), (1, .int x1)] → W p l e rm_X3_number s mi args below meth co H locs 0 0 Q (F0 mi 123 ls [.int y0]) := by
  intro x1 y0 m H locs ls hf hP hS hl
  unfold qf_X3_number_123 at hf
  refine lv_istore_n (lv' := [(2, .int y0), (0, .ref (qw_ad L 9 0)), (1, .int x1)]) F.1 F.2.1 dX3_number_123 rfl hl (by decide) rfl (fun ls hl => ?_)
  refine lv_aload_n F.1 F.2.1 dX3_number_124 rfl (lv_at hl 1 rfl) ?_
  refine lv_iload_n F.1 F.2.1 dX3_number_125 rfl (lv_at hl 0 rfl) ?_
  refine lv_if_eq (tgt := 136) F.1 F.2.1 dX3_number_126 (by decide) (fun c1 => ?_) (fun c1 => ?_)
  · replace hf := qi_t c1 hf
    refine lv_iload_n F.1 F.2.1 dX3_number_136 rfl (lv_at hl 2 rfl) ?_
    obtain ⟨m2, em2, hf⟩ := qn_x hf
    refine qr_pM F G hv (fun w h => F.2.2.2.2 w (List.mem_cons_of_mem _ (List.mem_append_right _ h))) hP hS (qw_u1s _ _ _) 7 (by decide) (List.mem_of_getElem? (i := 1) rfl) (qw_fx em2) dX3_number_137 (fun H locs hP hS => ?_)
    refine lv_iload_n F.1 F.2.1 dX3_number_140 rfl (lv_at hl 0 rfl) ?_
    obtain ⟨g3, hf⟩ := qg_x hf
    obtain ⟨e9, e8⟩ := qs2 hf
    subst e9
    subst e8
    exact hQ _ _ _ _ hP hS (qw_nz g3) dX3_number_141
  · replace hf := qi_f c1 hf
    refine lv_aload_n F.1 F.2.1 dX3_number_129 rfl (lv_at hl 1 rfl) ?_
    obtain ⟨z4, ez4, hf⟩ := qn_x hf
    refine qr_gM F G hv (fun w h => F.2.2.2.2 w (List.mem_cons_of_mem _ (List.mem_append_right _ h))) hP (qw_u1s _ _ _) 7 (by decide) (List.mem_of_getElem? (i := 1) rfl) ez4 dX3_number_130 ?_
    refine lv_goto (tgt := 137) F.1 F.2.1 dX3_number_133 (by decide) ?_
    obtain ⟨m5, em5, hf⟩ := qn_x hf
    refine qr_pM F G hv (fun w h => F.2.2.2.2 w (List.mem_cons_of_mem _ (List.mem_append_right _ h))) hP hS (qw_u1s _ _ _) 7 (by decide) (List.mem_of_getElem? (i := 1) rfl) (qw_fx em5) dX3_number_137 (fun H locs hP hS => ?_)
    refine lv_iload_n F.1 F.2.1 dX3_number_140 rfl (lv_at hl 0 rfl) ?_
    obtain ⟨g6, hf⟩ := qg_x hf
    obtain ⟨e9, e8⟩ := qs2 hf
    subst e9
    subst e8
    exact hQ _ _ _ _ hP hS (qw_nz g6) dX3_number_141
set_option maxRecDepth 100000 in
set_option maxHeartbeats 4000000 in
theorem qb_X3_number_118 {p : Program} {l : Launch} {e : Env} {s : State} {mi : MethodId} {args : Array Value} {below : List Frame} {meth : Method} {co : Code} {Q : State → Prop} {L : wL} {M : wM} {h : Nat → Nat} {r : Int32} {m9 : wm} (F : CallFix p mi co cX3_number 3 s args wsX3_number RX3) (G : qw_G L (qw_A L) s) (hv : qw_9 L) (hQ : qw_RI p l e rm_X3_number s mi args below meth co cX3_number .boolean Q L r (qw_u1 M 9 m9) h) : ∀ (x1 : Int32) (m : wm) (H : Heap) (locs : List Loc) (ls : Array Slot), qf_X3_number_118 x1 m = some (r, m9) → qw_P L (qw_u1 M 9 m) h H → va_S (qw_A L) s.heap H locs → lv_has ls 3 [(0, .ref (qw_ad L 9 0)), (1, .int x1)] → W p l e rm_X3_number s mi args below meth co H locs 0 0 Q (F0 mi 118 ls []) := by
  intro x1 m H locs ls hf hP hS hl
  unfold qf_X3_number_118 at hf
  refine lv_iconst (v := (nI 1)) F.1 F.2.1 dX3_number_118 (by decide) ?_
  refine lv_goto (tgt := 123) F.1 F.2.1 dX3_number_119 (by decide) ?_
  exact qb_X3_number_123 F G hv hQ _ _ _ _ _ _ hf hP hS (lv_sub hl [0, 1] rfl)
set_option maxRecDepth 100000 in
set_option maxHeartbeats 4000000 in
theorem qb_X3_number_122 {p : Program} {l : Launch} {e : Env} {s : State} {mi : MethodId} {args : Array Value} {below : List Frame} {meth : Method} {co : Code} {Q : State → Prop} {L : wL} {M : wM} {h : Nat → Nat} {r : Int32} {m9 : wm} (F : CallFix p mi co cX3_number 3 s args wsX3_number RX3) (G : qw_G L (qw_A L) s) (hv : qw_9 L) (hQ : qw_RI p l e rm_X3_number s mi args below meth co cX3_number .boolean Q L r (qw_u1 M 9 m9) h) : ∀ (x1 : Int32) (m : wm) (H : Heap) (locs : List Loc) (ls : Array Slot), qf_X3_number_122 x1 m = some (r, m9) → qw_P L (qw_u1 M 9 m) h H → va_S (qw_A L) s.heap H locs → lv_has ls 3 [(0, .ref (qw_ad L 9 0)), (1, .int x1)] → W p l e rm_X3_number s mi args below meth co H locs 0 0 Q (F0 mi 122 ls []) := by
  intro x1 m H locs ls hf hP hS hl
  unfold qf_X3_number_122 at hf
  refine lv_iconst (v := (nI 0)) F.1 F.2.1 dX3_number_122 (by decide) ?_
  exact qb_X3_number_123 F G hv hQ _ _ _ _ _ _ hf hP hS (lv_sub hl [0, 1] rfl)
set_option maxRecDepth 100000 in
set_option maxHeartbeats 4000000 in
theorem qb_X3_number_79 {p : Program} {l : Launch} {e : Env} {s : State} {mi : MethodId} {args : Array Value} {below : List Frame} {meth : Method} {co : Code} {Q : State → Prop} {L : wL} {M : wM} {h : Nat → Nat} {r : Int32} {m9 : wm} (F : CallFix p mi co cX3_number 3 s args wsX3_number RX3) (G : qw_G L (qw_A L) s) (hv : qw_9 L) (hQ : qw_RI p l e rm_X3_number s mi args below meth co cX3_number .boolean Q L r (qw_u1 M 9 m9) h) : ∀ (x1 : Int32) (m : wm) (H : Heap) (locs : List Loc) (ls : Array Slot), qf_X3_number_79 x1 m = some (r, m9) → qw_P L (qw_u1 M 9 m) h H → va_S (qw_A L) s.heap H locs → lv_has ls 3 [(0, .ref (qw_ad L 9 0)), (1, .int x1)] → W p l e rm_X3_number s mi args below meth co H locs 0 0 Q (F0 mi 79 ls []) := by
  intro x1 m H locs ls hf hP hS hl
  unfold qf_X3_number_79 at hf
  refine lv_aload_n F.1 F.2.1 dX3_number_79 rfl (lv_at hl 0 rfl) ?_
  obtain ⟨z1, ez1, hf⟩ := qn_x hf
  refine qr_gM F G hv (fun w h => F.2.2.2.2 w (List.mem_cons_of_mem _ (List.mem_append_right _ h))) hP (qw_u1s _ _ _) 7 (by decide) (List.mem_of_getElem? (i := 1) rfl) ez1 dX3_number_80 ?_
  refine lv_iload_n F.1 F.2.1 dX3_number_83 rfl (lv_at hl 1 rfl) ?_
  refine lv_icmp_le (tgt := 122) F.1 F.2.1 dX3_number_84 (by decide) (fun c2 => ?_) (fun c2 => ?_)
  · replace hf := qi_t c2 hf
    exact qb_X3_number_122 F G hv hQ _ _ _ _ _ hf hP hS (lv_sub hl [0, 1] rfl)
  · replace hf := qi_f c2 hf
    refine lv_aload_n F.1 F.2.1 dX3_number_87 rfl (lv_at hl 0 rfl) ?_
    obtain ⟨z3, ez3, hf⟩ := qn_x hf
    refine qr_gM F G hv (fun w h => F.2.2.2.2 w (List.mem_cons_of_mem _ (List.mem_append_right _ h))) hP (qw_u1s _ _ _) 7 (by decide) (List.mem_of_getElem? (i := 1) rfl) ez3 dX3_number_88 ?_
    refine lv_iload_n F.1 F.2.1 dX3_number_91 rfl (lv_at hl 1 rfl) ?_
    obtain ⟨z4, ez4, hf⟩ := qn_x hf
    refine qr_isub F ez4 dX3_number_92 ?_
    refine lv_iconst (v := (nI 4)) F.1 F.2.1 dX3_number_93 (by decide) ?_
    refine lv_icmp_ge (tgt := 122) F.1 F.2.1 dX3_number_94 (by decide) (fun c5 => ?_) (fun c5 => ?_)
    · replace hf := qi_t c5 hf
      exact qb_X3_number_122 F G hv hQ _ _ _ _ _ hf hP hS (lv_sub hl [0, 1] rfl)
    · replace hf := qi_f c5 hf
      refine lv_aload_n F.1 F.2.1 dX3_number_97 rfl (lv_at hl 0 rfl) ?_
      refine qr_gMr F G hv (fun w h => F.2.2.2.2 w (List.mem_cons_of_mem _ (List.mem_append_right _ h))) hP 5 4 (by decide) (List.mem_of_getElem? (i := 3) rfl) dX3_number_98 ?_
      refine lv_iload_n F.1 F.2.1 dX3_number_101 rfl (lv_at hl 1 rfl) ?_
      obtain ⟨g7, hf⟩ := qg_x hf
      obtain ⟨z6, ez6, hf⟩ := qn_x hf
      refine qr_ald F G hP (qw_u1s _ _ _) (qw_I9 (c := 4) (n := 120) hv (by decide)) g7 rfl ez6 dX3_number_102 ?_
      refine lv_bipush (v := (nI 48)) F.1 F.2.1 dX3_number_103 (by decide) ?_
      refine lv_icmp_ne (tgt := 118) F.1 F.2.1 dX3_number_105 (by decide) (fun c8 => ?_) (fun c8 => ?_)
      · replace hf := qi_f c8 hf
        exact qb_X3_number_118 F G hv hQ _ _ _ _ _ hf hP hS (lv_sub hl [0, 1] rfl)
      · replace hf := qi_t c8 hf
        refine lv_aload_n F.1 F.2.1 dX3_number_108 rfl (lv_at hl 0 rfl) ?_
        obtain ⟨z9, ez9, hf⟩ := qn_x hf
        refine qr_gM F G hv (fun w h => F.2.2.2.2 w (List.mem_cons_of_mem _ (List.mem_append_right _ h))) hP (qw_u1s _ _ _) 7 (by decide) (List.mem_of_getElem? (i := 1) rfl) ez9 dX3_number_109 ?_
        refine lv_iload_n F.1 F.2.1 dX3_number_112 rfl (lv_at hl 1 rfl) ?_
        obtain ⟨z10, ez10, hf⟩ := qn_x hf
        refine qr_isub F ez10 dX3_number_113 ?_
        refine lv_iconst (v := (nI 1)) F.1 F.2.1 dX3_number_114 (by decide) ?_
        refine lv_icmp_ne (tgt := 122) F.1 F.2.1 dX3_number_115 (by decide) (fun c11 => ?_) (fun c11 => ?_)
        · replace hf := qi_f c11 hf
          exact qb_X3_number_122 F G hv hQ _ _ _ _ _ hf hP hS (lv_sub hl [0, 1] rfl)
        · replace hf := qi_t c11 hf
          exact qb_X3_number_118 F G hv hQ _ _ _ _ _ hf hP hS (lv_sub hl [0, 1] rfl)
set_option maxRecDepth 100000 in
set_option maxHeartbeats 4000000 in
theorem qb_X3_number_14 {p : Program} {l : Launch} {e : Env} {s : State} {mi : MethodId} {args : Array Value} {below : List Frame} {meth : Method} {co : Code} {Q : State → Prop} {L : wL} {M : wM} {h : Nat → Nat} {r : Int32} {m9 : wm} (F : CallFix p mi co cX3_number 3 s args wsX3_number RX3) (G : qw_G L (qw_A L) s) (hv : qw_9 L) (hQ : qw_RI p l e rm_X3_number s mi args below meth co cX3_number .boolean Q L r (qw_u1 M 9 m9) h) : ∀ (n : Nat) (x1 : Int32) (m : wm) (H : Heap) (locs : List Loc) (ls : Array Slot), qf_X3_number_14 n x1 m = some (r, m9) → qw_P L (qw_u1 M 9 m) h H → va_S (qw_A L) s.heap H locs → lv_has ls 3 [(0, .ref (qw_ad L 9 0)), (1, .int x1)] → W p l e rm_X3_number s mi args below meth co H locs 0 0 Q (F0 mi 14 ls []) := by
  intro n
  induction n with
  | zero =>
    intro x1 m H locs ls hf hP hS hl
    rw [qf_X3_number_14] at hf
    cases hf
  | succ n ih =>
    intro x1 m H locs ls hf hP hS hl
    rw [qf_X3_number_14] at hf
    refine lv_aload_n F.1 F.2.1 dX3_number_14 rfl (lv_at hl 0 rfl) ?_
    refine lv_aload_n F.1 F.2.1 dX3_number_15 rfl (lv_at hl 0 rfl) ?_
    obtain ⟨z1, ez1, hf⟩ := qn_x hf
    refine qr_gM F G hv (fun w h => F.2.2.2.2 w (List.mem_cons_of_mem _ (List.mem_append_right _ h))) hP (qw_u1s _ _ _) 7 (by decide) (List.mem_of_getElem? (i := 1) rfl) ez1 dX3_number_16 ?_
    obtain ⟨r2, k3, hf⟩ := qb1_x hf
    refine qr_cVi F G hP hS (qc_X3_isDigit l G.2.1 (qw_u1s _ _ _) hv k3) (qw_rcM hv) gX3_number_X3_isDigit rfl ⟨rfl, rfl⟩ e_X3_isDigit ⟨Nat.le_of_ble_eq_true rfl, Nat.le_of_ble_eq_true rfl⟩ rfl hl.1 rfl (Nat.le_of_ble_eq_true rfl) ⟨Nat.zero_le _, Nat.zero_le _⟩ dX3_number_19 (fun H locs hP hS => ?_)
    refine lv_if_eq (tgt := 79) F.1 F.2.1 dX3_number_22 (by decide) (fun c4 => ?_) (fun c4 => ?_)
    · replace hf := qi_t c4 hf
      exact qb_X3_number_79 F G hv hQ _ _ _ _ _ hf hP hS (lv_sub hl [0, 1] rfl)
    · replace hf := qi_f c4 hf
      refine lv_aload_n F.1 F.2.1 dX3_number_25 rfl (lv_at hl 0 rfl) ?_
      refine lv_aload_n F.1 F.2.1 dX3_number_26 rfl (lv_at hl 0 rfl) ?_
      obtain ⟨z5, ez5, hf⟩ := qn_x hf
      refine qr_gM F G hv (fun w h => F.2.2.2.2 w (List.mem_cons_of_mem _ (List.mem_append_right _ h))) hP (qw_u1s _ _ _) 7 (by decide) (List.mem_of_getElem? (i := 1) rfl) ez5 dX3_number_27 ?_
      refine lv_iload_n F.1 F.2.1 dX3_number_30 rfl (lv_at hl 1 rfl) ?_
      obtain ⟨z6, ez6, hf⟩ := qn_x hf
      refine qr_isub F ez6 dX3_number_31 ?_
      refine lv_iconst (v := (nI 3)) F.1 F.2.1 dX3_number_32 (by decide) ?_
      refine lv_icmp_ge (tgt := 59) F.1 F.2.1 dX3_number_33 (by decide) (fun c7 => ?_) (fun c7 => ?_)
      · replace hf := qi_t c7 hf
        refine lv_aload_n F.1 F.2.1 dX3_number_59 rfl (lv_at hl 0 rfl) ?_
        obtain ⟨z8, ez8, hf⟩ := qn_x hf
        refine qr_gM F G hv (fun w h => F.2.2.2.2 w (List.mem_cons_of_mem _ (List.mem_append_right _ h))) hP (qw_u1s _ _ _) 8 (by decide) (List.mem_of_getElem? (i := 2) rfl) ez8 dX3_number_60 ?_
        obtain ⟨m9, em9, hf⟩ := qn_x hf
        refine qr_pM F G hv (fun w h => F.2.2.2.2 w (List.mem_cons_of_mem _ (List.mem_append_right _ h))) hP hS (qw_u1s _ _ _) 8 (by decide) (List.mem_of_getElem? (i := 2) rfl) (qw_fx em9) dX3_number_63 (fun H locs hP hS => ?_)
        refine lv_aload_n F.1 F.2.1 dX3_number_66 rfl (lv_at hl 0 rfl) ?_
        refine lv_dup F.1 F.2.1 dX3_number_67 rfl ?_
        obtain ⟨z10, ez10, hf⟩ := qn_x hf
        refine qr_gM F G hv (fun w h => F.2.2.2.2 w (List.mem_cons_of_mem _ (List.mem_append_right _ h))) hP (qw_u1s _ _ _) 7 (by decide) (List.mem_of_getElem? (i := 1) rfl) ez10 dX3_number_68 ?_
        refine lv_iconst (v := (nI 1)) F.1 F.2.1 dX3_number_71 (by decide) ?_
        obtain ⟨z11, ez11, hf⟩ := qn_x hf
        refine qr_iadd F ez11 dX3_number_72 ?_
        obtain ⟨m12, em12, hf⟩ := qn_x hf
        refine qr_pM F G hv (fun w h => F.2.2.2.2 w (List.mem_cons_of_mem _ (List.mem_append_right _ h))) hP hS (qw_u1s _ _ _) 7 (by decide) (List.mem_of_getElem? (i := 1) rfl) (qw_fx em12) dX3_number_73 (fun H locs hP hS => ?_)
        refine lv_goto (tgt := 14) F.1 F.2.1 dX3_number_76 (by decide) ?_
        exact ih _ _ _ _ _ hf hP hS (lv_sub hl [0, 1] rfl)
      · replace hf := qi_f c7 hf
        refine lv_bipush (v := (nI 10)) F.1 F.2.1 dX3_number_36 (by decide) ?_
        refine lv_aload_n F.1 F.2.1 dX3_number_38 rfl (lv_at hl 0 rfl) ?_
        obtain ⟨z13, ez13, hf⟩ := qn_x hf
        refine qr_gM F G hv (fun w h => F.2.2.2.2 w (List.mem_cons_of_mem _ (List.mem_append_right _ h))) hP (qw_u1s _ _ _) 8 (by decide) (List.mem_of_getElem? (i := 2) rfl) ez13 dX3_number_39 ?_
        obtain ⟨z14, ez14, hf⟩ := qn_x hf
        refine qr_imul F ez14 dX3_number_42 ?_
        refine lv_aload_n F.1 F.2.1 dX3_number_43 rfl (lv_at hl 0 rfl) ?_
        refine qr_gMr F G hv (fun w h => F.2.2.2.2 w (List.mem_cons_of_mem _ (List.mem_append_right _ h))) hP 5 4 (by decide) (List.mem_of_getElem? (i := 3) rfl) dX3_number_44 ?_
        refine lv_aload_n F.1 F.2.1 dX3_number_47 rfl (lv_at hl 0 rfl) ?_
        obtain ⟨z15, ez15, hf⟩ := qn_x hf
        refine qr_gM F G hv (fun w h => F.2.2.2.2 w (List.mem_cons_of_mem _ (List.mem_append_right _ h))) hP (qw_u1s _ _ _) 7 (by decide) (List.mem_of_getElem? (i := 1) rfl) ez15 dX3_number_48 ?_
        obtain ⟨g17, hf⟩ := qg_x hf
        obtain ⟨z16, ez16, hf⟩ := qn_x hf
        refine qr_ald F G hP (qw_u1s _ _ _) (qw_I9 (c := 4) (n := 120) hv (by decide)) g17 rfl ez16 dX3_number_51 ?_
        obtain ⟨z18, ez18, hf⟩ := qn_x hf
        refine qr_iadd F ez18 dX3_number_52 ?_
        refine lv_bipush (v := (nI 48)) F.1 F.2.1 dX3_number_53 (by decide) ?_
        obtain ⟨z19, ez19, hf⟩ := qn_x hf
        refine qr_isub F ez19 dX3_number_55 ?_
        refine lv_goto (tgt := 63) F.1 F.2.1 dX3_number_56 (by decide) ?_
        obtain ⟨m20, em20, hf⟩ := qn_x hf
        refine qr_pM F G hv (fun w h => F.2.2.2.2 w (List.mem_cons_of_mem _ (List.mem_append_right _ h))) hP hS (qw_u1s _ _ _) 8 (by decide) (List.mem_of_getElem? (i := 2) rfl) (qw_fx em20) dX3_number_63 (fun H locs hP hS => ?_)
        refine lv_aload_n F.1 F.2.1 dX3_number_66 rfl (lv_at hl 0 rfl) ?_
        refine lv_dup F.1 F.2.1 dX3_number_67 rfl ?_
        obtain ⟨z21, ez21, hf⟩ := qn_x hf
        refine qr_gM F G hv (fun w h => F.2.2.2.2 w (List.mem_cons_of_mem _ (List.mem_append_right _ h))) hP (qw_u1s _ _ _) 7 (by decide) (List.mem_of_getElem? (i := 1) rfl) ez21 dX3_number_68 ?_
        refine lv_iconst (v := (nI 1)) F.1 F.2.1 dX3_number_71 (by decide) ?_
        obtain ⟨z22, ez22, hf⟩ := qn_x hf
        refine qr_iadd F ez22 dX3_number_72 ?_
        obtain ⟨m23, em23, hf⟩ := qn_x hf
        refine qr_pM F G hv (fun w h => F.2.2.2.2 w (List.mem_cons_of_mem _ (List.mem_append_right _ h))) hP hS (qw_u1s _ _ _) 7 (by decide) (List.mem_of_getElem? (i := 1) rfl) (qw_fx em23) dX3_number_73 (fun H locs hP hS => ?_)
        refine lv_goto (tgt := 14) F.1 F.2.1 dX3_number_76 (by decide) ?_
        exact ih _ _ _ _ _ hf hP hS (lv_sub hl [0, 1] rfl)
set_option maxRecDepth 100000 in
set_option maxHeartbeats 4000000 in
theorem qb_X3_number {p : Program} {l : Launch} {e : Env} {s : State} {mi : MethodId} {args : Array Value} {below : List Frame} {meth : Method} {co : Code} {Q : State → Prop} {L : wL} {M : wM} {h : Nat → Nat} {r : Int32} {m9 : wm} (F : CallFix p mi co cX3_number 3 s args wsX3_number RX3) (G : qw_G L (qw_A L) s) (hv : qw_9 L) (hQ : qw_RI p l e rm_X3_number s mi args below meth co cX3_number .boolean Q L r (qw_u1 M 9 m9) h) : ∀ (m : wm) (H : Heap) (locs : List Loc) (ls : Array Slot), qf_X3_number m = some (r, m9) → qw_P L (qw_u1 M 9 m) h H → va_S (qw_A L) s.heap H locs → lv_has ls 3 [(0, .ref (qw_ad L 9 0))] → W p l e rm_X3_number s mi args below meth co H locs 0 0 Q (F0 mi 0 ls []) := by
  intro m H locs ls hf hP hS hl
  unfold qf_X3_number at hf
  refine lv_aload_n F.1 F.2.1 dX3_number_0 rfl (lv_at hl 0 rfl) ?_
  obtain ⟨m2, k1, hf⟩ := qb1_x hf
  refine qr_cVv F G hP hS (qc_X3_skips l G.2.1 (qw_u1s _ _ _) (qw_fx rfl) hv k1) (qw_rcM hv) gX3_number_X3_skips rfl ⟨rfl, rfl⟩ e_X3_skips ⟨Nat.le_of_ble_eq_true rfl, Nat.le_of_ble_eq_true rfl⟩ rfl hl.1 rfl (Nat.le_of_ble_eq_true rfl) ⟨Nat.zero_le _, Nat.zero_le _⟩ dX3_number_1 (fun H locs hP hS => ?_)
  refine lv_aload_n F.1 F.2.1 dX3_number_4 rfl (lv_at hl 0 rfl) ?_
  obtain ⟨z3, ez3, hf⟩ := qn_x hf
  refine qr_gM F G hv (fun w h => F.2.2.2.2 w (List.mem_cons_of_mem _ (List.mem_append_right _ h))) hP (qw_u1s _ _ _) 7 (by decide) (List.mem_of_getElem? (i := 1) rfl) ez3 dX3_number_5 ?_
  refine lv_istore_n (lv' := [(1, .int z3), (0, .ref (qw_ad L 9 0))]) F.1 F.2.1 dX3_number_8 rfl hl (by decide) rfl (fun ls hl => ?_)
  refine lv_aload_n F.1 F.2.1 dX3_number_9 rfl (lv_at hl 1 rfl) ?_
  refine lv_iconst (v := (nI 0)) F.1 F.2.1 dX3_number_10 (by decide) ?_
  obtain ⟨m4, em4, hf⟩ := qn_x hf
  refine qr_pM F G hv (fun w h => F.2.2.2.2 w (List.mem_cons_of_mem _ (List.mem_append_right _ h))) hP hS (qw_u1s _ _ _) 8 (by decide) (List.mem_of_getElem? (i := 2) rfl) (qw_fx em4) dX3_number_11 (fun H locs hP hS => ?_)
  exact qb_X3_number_14 F G hv hQ _ _ _ _ _ _ hf hP hS (lv_sub hl [1, 0] rfl)
set_option maxRecDepth 100000 in
set_option maxHeartbeats 4000000 in
theorem qc_X3_number (l : Launch) {L : wL} (hJ : qw_J L) {X X9 : wM} {h : Nat → Nat} {m m9 : wm} (hX : X 9 = m) (hX9 : qw_u1 X 9 m9 = X9) {r : Int32} (hv : qw_9 L) (hf : qf_X3_number m = some (r, m9)) : qw_MI l yX3_number wsX3_number rm_X3_number L (.ref (qw_ad L 9 0) :: []) X h r X9 h := by
  subst hX
  subst hX9
  refine qw_MI_of (cc := cX3_number) (maxL := 3) (ty := .boolean) (by decide) rfl hJ (Nat.le_of_ble_eq_true rfl) ?_
  intro p e s mi below meth co Q ls F G hP hQ hl
  exact qb_X3_number F G hv hQ _ _ _ _ hf (by rw [qw_u1i]; exact hP) va_S.rf hl
def rm_X3_runsOne : Room := { frames := 4, cells := 0, slots := 0, locals := 89 }
theorem e_X3_runsOne : qw_hd yX3_runsOne RX3 0 := by decide +kernel
set_option maxRecDepth 100000 in
set_option maxHeartbeats 4000000 in
theorem qb_X3_runsOne_186 {p : Program} {l : Launch} {e : Env} {s : State} {mi : MethodId} {args : Array Value} {below : List Frame} {meth : Method} {co : Code} {Q : State → Prop} {L : wL} {M : wM} {h : Nat → Nat} {r : Int32} {m9 : wm} (F : CallFix p mi co cX3_runsOne 5 s args wsX3_runsOne RX3) (G : qw_G L (qw_A L) s) (hv : qw_9 L) (hQ : qw_RI p l e rm_X3_runsOne s mi args below meth co cX3_runsOne .int Q L r (qw_u1 M 9 m9) h) : ∀ (x1 : Int32) (y0 : Int32) (m : wm) (H : Heap) (locs : List Loc) (ls : Array Slot), qf_X3_runsOne_186 x1 y0 m = some (r, m9) → qw_P L (qw_u1 M 9 m) h H → va_S (qw_A L) s.heap H locs → lv_has ls 5 [(0, .ref (qw_ad L 9 0)), (1, .int x1)] → W p l e rm_X3_runsOne s mi args below meth co H locs 0 0 Q (F0 mi 186 ls [.int y0]) := by
  intro x1 y0 m H locs ls hf hP hS hl
  unfold qf_X3_runsOne_186 at hf
  refine lv_istore (lv' := [(4, .int y0), (0, .ref (qw_ad L 9 0)), (1, .int x1)]) F.1 F.2.1 dX3_runsOne_186 hl (by decide) rfl (fun ls hl => ?_)
  refine lv_aload_n F.1 F.2.1 dX3_runsOne_188 rfl (lv_at hl 1 rfl) ?_
  obtain ⟨m2, k1, hf⟩ := qb1_x hf
  refine qr_cVv F G hP hS (qc_X3_skips l G.2.1 (qw_u1s _ _ _) (qw_fx rfl) hv k1) (qw_rcM hv) gX3_runsOne_X3_skips rfl ⟨rfl, rfl⟩ e_X3_skips ⟨Nat.le_of_ble_eq_true rfl, Nat.le_of_ble_eq_true rfl⟩ rfl hl.1 rfl (Nat.le_of_ble_eq_true rfl) ⟨Nat.zero_le _, Nat.zero_le _⟩ dX3_runsOne_189 (fun H locs hP hS => ?_)
  refine lv_iload F.1 F.2.1 dX3_runsOne_192 (lv_at hl 0 rfl) ?_
  refine lv_if_ge (tgt := 201) F.1 F.2.1 dX3_runsOne_194 (by decide) (fun c3 => ?_) (fun c3 => ?_)
  · replace hf := qi_t c3 hf
    refine lv_bipush (v := (-9 : Int32)) F.1 F.2.1 dX3_runsOne_201 (by decide) ?_
    obtain ⟨e9, e8⟩ := qs2 hf
    subst e9
    subst e8
    exact hQ _ _ _ _ hP hS rfl dX3_runsOne_203
  · replace hf := qi_f c3 hf
    refine lv_iload_n F.1 F.2.1 dX3_runsOne_197 rfl (lv_at hl 2 rfl) ?_
    refine lv_goto (tgt := 203) F.1 F.2.1 dX3_runsOne_198 (by decide) ?_
    obtain ⟨e9, e8⟩ := qs2 hf
    subst e9
    subst e8
    exact hQ _ _ _ _ hP hS rfl dX3_runsOne_203
set_option maxRecDepth 100000 in
set_option maxHeartbeats 4000000 in
theorem qb_X3_runsOne_136 {p : Program} {l : Launch} {e : Env} {s : State} {mi : MethodId} {args : Array Value} {below : List Frame} {meth : Method} {co : Code} {Q : State → Prop} {L : wL} {M : wM} {h : Nat → Nat} {r : Int32} {m9 : wm} (F : CallFix p mi co cX3_runsOne 5 s args wsX3_runsOne RX3) (G : qw_G L (qw_A L) s) (hv : qw_9 L) (hQ : qw_RI p l e rm_X3_runsOne s mi args below meth co cX3_runsOne .int Q L r (qw_u1 M 9 m9) h) : ∀ (x1 : Int32) (x2 : Int32) (x3 : Int32) (m : wm) (H : Heap) (locs : List Loc) (ls : Array Slot), qf_X3_runsOne_136 x1 x2 x3 m = some (r, m9) → qw_P L (qw_u1 M 9 m) h H → va_S (qw_A L) s.heap H locs → lv_has ls 5 [(0, .ref (qw_ad L 9 0)), (1, .int x1), (2, .int x2), (3, .int x3)] → W p l e rm_X3_runsOne s mi args below meth co H locs 0 0 Q (F0 mi 136 ls []) := by
  intro x1 x2 x3 m H locs ls hf hP hS hl
  unfold qf_X3_runsOne_136 at hf
  refine lv_iload_n F.1 F.2.1 dX3_runsOne_136 rfl (lv_at hl 2 rfl) ?_
  refine lv_bipush (v := (nI 99)) F.1 F.2.1 dX3_runsOne_137 (by decide) ?_
  refine lv_icmp_ne (tgt := 154) F.1 F.2.1 dX3_runsOne_139 (by decide) (fun c1 => ?_) (fun c1 => ?_)
  · replace hf := qi_f c1 hf
    refine lv_iload_n F.1 F.2.1 dX3_runsOne_154 rfl (lv_at hl 2 rfl) ?_
    refine lv_bipush (v := (nI 116)) F.1 F.2.1 dX3_runsOne_155 (by decide) ?_
    refine lv_icmp_ne (tgt := 168) F.1 F.2.1 dX3_runsOne_157 (by decide) (fun c2 => ?_) (fun c2 => ?_)
    · replace hf := qi_f c2 hf
      refine lv_iload_n F.1 F.2.1 dX3_runsOne_168 rfl (lv_at hl 2 rfl) ?_
      refine lv_bipush (v := (nI 114)) F.1 F.2.1 dX3_runsOne_169 (by decide) ?_
      refine lv_icmp_ne (tgt := 181) F.1 F.2.1 dX3_runsOne_171 (by decide) (fun c3 => ?_) (fun c3 => ?_)
      · replace hf := qi_f c3 hf
        refine lv_aload_n F.1 F.2.1 dX3_runsOne_181 rfl (lv_at hl 0 rfl) ?_
        refine lv_iload_n F.1 F.2.1 dX3_runsOne_182 rfl (lv_at hl 3 rfl) ?_
        obtain ⟨r4, m6, k5, hf⟩ := qb2_x hf
        refine qr_cVi F G hP hS (qc_X3_raise l G.2.1 (qw_u1s _ _ _) (qw_fx rfl) hv k5) (qw_rcM hv) gX3_runsOne_X3_raise rfl ⟨rfl, rfl⟩ e_X3_raise ⟨Nat.le_of_ble_eq_true rfl, Nat.le_of_ble_eq_true rfl⟩ rfl hl.1 rfl (Nat.le_of_ble_eq_true rfl) ⟨Nat.zero_le _, Nat.zero_le _⟩ dX3_runsOne_183 (fun H locs hP hS => ?_)
        exact qb_X3_runsOne_186 F G hv hQ _ _ _ _ _ _ hf hP hS (lv_sub hl [0, 1] rfl)
      · replace hf := qi_t c3 hf
        refine lv_aload_n F.1 F.2.1 dX3_runsOne_174 rfl (lv_at hl 0 rfl) ?_
        obtain ⟨r7, m9, k8, hf⟩ := qb2_x hf
        refine qr_cVi F G hP hS (qc_X3_ret l G.2.1 (qw_u1s _ _ _) (qw_fx rfl) hv k8) (qw_rcM hv) gX3_runsOne_X3_ret rfl ⟨rfl, rfl⟩ e_X3_ret ⟨Nat.le_of_ble_eq_true rfl, Nat.le_of_ble_eq_true rfl⟩ rfl hl.1 rfl (Nat.le_of_ble_eq_true rfl) ⟨Nat.zero_le _, Nat.zero_le _⟩ dX3_runsOne_175 (fun H locs hP hS => ?_)
        refine lv_goto (tgt := 186) F.1 F.2.1 dX3_runsOne_178 (by decide) ?_
        exact qb_X3_runsOne_186 F G hv hQ _ _ _ _ _ _ hf hP hS (lv_sub hl [0, 1] rfl)
    · replace hf := qi_t c2 hf
      refine lv_aload_n F.1 F.2.1 dX3_runsOne_160 rfl (lv_at hl 0 rfl) ?_
      refine lv_iload_n F.1 F.2.1 dX3_runsOne_161 rfl (lv_at hl 3 rfl) ?_
      obtain ⟨r10, m12, k11, hf⟩ := qb2_x hf
      refine qr_cVi F G hP hS (qc_X3_tail l G.2.1 (qw_u1s _ _ _) (qw_fx rfl) hv k11) (qw_rcM hv) gX3_runsOne_X3_tail rfl ⟨rfl, rfl⟩ e_X3_tail ⟨Nat.le_of_ble_eq_true rfl, Nat.le_of_ble_eq_true rfl⟩ rfl hl.1 rfl (Nat.le_of_ble_eq_true rfl) ⟨Nat.zero_le _, Nat.zero_le _⟩ dX3_runsOne_162 (fun H locs hP hS => ?_)
      refine lv_goto (tgt := 186) F.1 F.2.1 dX3_runsOne_165 (by decide) ?_
      exact qb_X3_runsOne_186 F G hv hQ _ _ _ _ _ _ hf hP hS (lv_sub hl [0, 1] rfl)
  · replace hf := qi_t c1 hf
    refine lv_aload_n F.1 F.2.1 dX3_runsOne_142 rfl (lv_at hl 0 rfl) ?_
    refine lv_iload_n F.1 F.2.1 dX3_runsOne_143 rfl (lv_at hl 3 rfl) ?_
    refine lv_aload_n F.1 F.2.1 dX3_runsOne_144 rfl (lv_at hl 0 rfl) ?_
    obtain ⟨z13, ez13, hf⟩ := qn_x hf
    refine qr_gM F G hv (fun w h => F.2.2.2.2 w (List.mem_cons_of_mem _ (List.mem_append_right _ h))) hP (qw_u1s _ _ _) 8 (by decide) (List.mem_of_getElem? (i := 3) rfl) ez13 dX3_runsOne_145 ?_
    obtain ⟨r14, m16, k15, hf⟩ := qb2_x hf
    refine qr_cVi F G hP hS (qc_X3_call l G.2.1 (qw_u1s _ _ _) (qw_fx rfl) hv k15) (qw_rcM hv) gX3_runsOne_X3_call rfl ⟨rfl, rfl⟩ e_X3_call ⟨Nat.le_of_ble_eq_true rfl, Nat.le_of_ble_eq_true rfl⟩ rfl hl.1 rfl (Nat.le_of_ble_eq_true rfl) ⟨Nat.zero_le _, Nat.zero_le _⟩ dX3_runsOne_148 (fun H locs hP hS => ?_)
    refine lv_goto (tgt := 186) F.1 F.2.1 dX3_runsOne_151 (by decide) ?_
    exact qb_X3_runsOne_186 F G hv hQ _ _ _ _ _ _ hf hP hS (lv_sub hl [0, 1] rfl)
set_option maxRecDepth 100000 in
set_option maxHeartbeats 4000000 in
theorem qb_X3_runsOne_69 {p : Program} {l : Launch} {e : Env} {s : State} {mi : MethodId} {args : Array Value} {below : List Frame} {meth : Method} {co : Code} {Q : State → Prop} {L : wL} {M : wM} {h : Nat → Nat} {r : Int32} {m9 : wm} (F : CallFix p mi co cX3_runsOne 5 s args wsX3_runsOne RX3) (G : qw_G L (qw_A L) s) (hv : qw_9 L) (hQ : qw_RI p l e rm_X3_runsOne s mi args below meth co cX3_runsOne .int Q L r (qw_u1 M 9 m9) h) : ∀ (x1 : Int32) (x2 : Int32) (m : wm) (H : Heap) (locs : List Loc) (ls : Array Slot), qf_X3_runsOne_69 x1 x2 m = some (r, m9) → qw_P L (qw_u1 M 9 m) h H → va_S (qw_A L) s.heap H locs → lv_has ls 5 [(0, .ref (qw_ad L 9 0)), (1, .int x1), (2, .int x2)] → W p l e rm_X3_runsOne s mi args below meth co H locs 0 0 Q (F0 mi 69 ls []) := by
  intro x1 x2 m H locs ls hf hP hS hl
  unfold qf_X3_runsOne_69 at hf
  refine lv_aload_n F.1 F.2.1 dX3_runsOne_69 rfl (lv_at hl 0 rfl) ?_
  obtain ⟨z1, ez1, hf⟩ := qn_x hf
  refine qr_gM F G hv (fun w h => F.2.2.2.2 w (List.mem_cons_of_mem _ (List.mem_append_right _ h))) hP (qw_u1s _ _ _) 8 (by decide) (List.mem_of_getElem? (i := 3) rfl) ez1 dX3_runsOne_70 ?_
  refine lv_istore_n (lv' := [(3, .int z1), (0, .ref (qw_ad L 9 0)), (1, .int x1), (2, .int x2)]) F.1 F.2.1 dX3_runsOne_73 rfl hl (by decide) rfl (fun ls hl => ?_)
  refine lv_iload_n F.1 F.2.1 dX3_runsOne_74 rfl (lv_at hl 3 rfl) ?_
  refine lv_bipush (v := (nI 99)) F.1 F.2.1 dX3_runsOne_75 (by decide) ?_
  refine lv_icmp_ne (tgt := 136) F.1 F.2.1 dX3_runsOne_77 (by decide) (fun c2 => ?_) (fun c2 => ?_)
  · replace hf := qi_f c2 hf
    exact qb_X3_runsOne_136 F G hv hQ _ _ _ _ _ _ _ hf hP hS (lv_sub hl [1, 2, 3, 0] rfl)
  · replace hf := qi_t c2 hf
    refine lv_aload_n F.1 F.2.1 dX3_runsOne_80 rfl (lv_at hl 1 rfl) ?_
    obtain ⟨m4, k3, hf⟩ := qb1_x hf
    refine qr_cVv F G hP hS (qc_X3_skips l G.2.1 (qw_u1s _ _ _) (qw_fx rfl) hv k3) (qw_rcM hv) gX3_runsOne_X3_skips rfl ⟨rfl, rfl⟩ e_X3_skips ⟨Nat.le_of_ble_eq_true rfl, Nat.le_of_ble_eq_true rfl⟩ rfl hl.1 rfl (Nat.le_of_ble_eq_true rfl) ⟨Nat.zero_le _, Nat.zero_le _⟩ dX3_runsOne_81 (fun H locs hP hS => ?_)
    refine lv_aload_n F.1 F.2.1 dX3_runsOne_84 rfl (lv_at hl 1 rfl) ?_
    obtain ⟨z5, ez5, hf⟩ := qn_x hf
    refine qr_gM F G hv (fun w h => F.2.2.2.2 w (List.mem_cons_of_mem _ (List.mem_append_right _ h))) hP (qw_u1s _ _ _) 7 (by decide) (List.mem_of_getElem? (i := 1) rfl) ez5 dX3_runsOne_85 ?_
    refine lv_aload_n F.1 F.2.1 dX3_runsOne_88 rfl (lv_at hl 1 rfl) ?_
    obtain ⟨z6, ez6, hf⟩ := qn_x hf
    refine qr_gM F G hv (fun w h => F.2.2.2.2 w (List.mem_cons_of_mem _ (List.mem_append_right _ h))) hP (qw_u1s _ _ _) 6 (by decide) (List.mem_of_getElem? (i := 4) rfl) ez6 dX3_runsOne_89 ?_
    refine lv_icmp_eq (tgt := 109) F.1 F.2.1 dX3_runsOne_92 (by decide) (fun c7 => ?_) (fun c7 => ?_)
    · replace hf := qi_t c7 hf
      refine lv_aload_n F.1 F.2.1 dX3_runsOne_109 rfl (lv_at hl 1 rfl) ?_
      obtain ⟨z8, ez8, hf⟩ := qn_x hf
      refine qr_gM F G hv (fun w h => F.2.2.2.2 w (List.mem_cons_of_mem _ (List.mem_append_right _ h))) hP (qw_u1s _ _ _) 7 (by decide) (List.mem_of_getElem? (i := 1) rfl) ez8 dX3_runsOne_110 ?_
      obtain ⟨e9, e8⟩ := qs2 hf
      subst e9
      subst e8
      exact hQ _ _ _ _ hP hS rfl dX3_runsOne_113
    · replace hf := qi_f c7 hf
      refine lv_aload_n F.1 F.2.1 dX3_runsOne_95 rfl (lv_at hl 1 rfl) ?_
      refine qr_gMr F G hv (fun w h => F.2.2.2.2 w (List.mem_cons_of_mem _ (List.mem_append_right _ h))) hP 5 4 (by decide) (List.mem_of_getElem? (i := 2) rfl) dX3_runsOne_96 ?_
      refine lv_aload_n F.1 F.2.1 dX3_runsOne_99 rfl (lv_at hl 1 rfl) ?_
      obtain ⟨z9, ez9, hf⟩ := qn_x hf
      refine qr_gM F G hv (fun w h => F.2.2.2.2 w (List.mem_cons_of_mem _ (List.mem_append_right _ h))) hP (qw_u1s _ _ _) 7 (by decide) (List.mem_of_getElem? (i := 1) rfl) ez9 dX3_runsOne_100 ?_
      obtain ⟨g11, hf⟩ := qg_x hf
      obtain ⟨z10, ez10, hf⟩ := qn_x hf
      refine qr_ald F G hP (qw_u1s _ _ _) (qw_I9 (c := 4) (n := 120) hv (by decide)) g11 rfl ez10 dX3_runsOne_103 ?_
      refine lv_bipush (v := (nI 64)) F.1 F.2.1 dX3_runsOne_104 (by decide) ?_
      refine lv_icmp_eq (tgt := 114) F.1 F.2.1 dX3_runsOne_106 (by decide) (fun c12 => ?_) (fun c12 => ?_)
      · replace hf := qi_t c12 hf
        refine lv_aload_n F.1 F.2.1 dX3_runsOne_114 rfl (lv_at hl 1 rfl) ?_
        refine lv_dup F.1 F.2.1 dX3_runsOne_115 rfl ?_
        obtain ⟨z13, ez13, hf⟩ := qn_x hf
        refine qr_gM F G hv (fun w h => F.2.2.2.2 w (List.mem_cons_of_mem _ (List.mem_append_right _ h))) hP (qw_u1s _ _ _) 7 (by decide) (List.mem_of_getElem? (i := 1) rfl) ez13 dX3_runsOne_116 ?_
        refine lv_iconst (v := (nI 1)) F.1 F.2.1 dX3_runsOne_119 (by decide) ?_
        obtain ⟨z14, ez14, hf⟩ := qn_x hf
        refine qr_iadd F ez14 dX3_runsOne_120 ?_
        obtain ⟨m15, em15, hf⟩ := qn_x hf
        refine qr_pM F G hv (fun w h => F.2.2.2.2 w (List.mem_cons_of_mem _ (List.mem_append_right _ h))) hP hS (qw_u1s _ _ _) 7 (by decide) (List.mem_of_getElem? (i := 1) rfl) (qw_fx em15) dX3_runsOne_121 (fun H locs hP hS => ?_)
        refine lv_aload_n F.1 F.2.1 dX3_runsOne_124 rfl (lv_at hl 1 rfl) ?_
        obtain ⟨r16, m18, k17, hf⟩ := qb2_x hf
        refine qr_cVi F G hP hS (qc_X3_number l G.2.1 (qw_u1s _ _ _) (qw_fx rfl) hv k17) (qw_rcM hv) gX3_runsOne_X3_number rfl ⟨rfl, rfl⟩ e_X3_number ⟨Nat.le_of_ble_eq_true rfl, Nat.le_of_ble_eq_true rfl⟩ rfl hl.1 rfl (Nat.le_of_ble_eq_true rfl) ⟨Nat.zero_le _, Nat.zero_le _⟩ dX3_runsOne_125 (fun H locs hP hS => ?_)
        refine lv_if_ne (tgt := 136) F.1 F.2.1 dX3_runsOne_128 (by decide) (fun c19 => ?_) (fun c19 => ?_)
        · replace hf := qi_f c19 hf
          exact qb_X3_runsOne_136 F G hv hQ _ _ _ _ _ _ _ hf hP hS (lv_sub hl [1, 2, 3, 0] rfl)
        · replace hf := qi_t c19 hf
          refine lv_aload_n F.1 F.2.1 dX3_runsOne_131 rfl (lv_at hl 1 rfl) ?_
          obtain ⟨z20, ez20, hf⟩ := qn_x hf
          refine qr_gM F G hv (fun w h => F.2.2.2.2 w (List.mem_cons_of_mem _ (List.mem_append_right _ h))) hP (qw_u1s _ _ _) 7 (by decide) (List.mem_of_getElem? (i := 1) rfl) ez20 dX3_runsOne_132 ?_
          obtain ⟨e9, e8⟩ := qs2 hf
          subst e9
          subst e8
          exact hQ _ _ _ _ hP hS rfl dX3_runsOne_135
      · replace hf := qi_f c12 hf
        refine lv_aload_n F.1 F.2.1 dX3_runsOne_109 rfl (lv_at hl 1 rfl) ?_
        obtain ⟨z21, ez21, hf⟩ := qn_x hf
        refine qr_gM F G hv (fun w h => F.2.2.2.2 w (List.mem_cons_of_mem _ (List.mem_append_right _ h))) hP (qw_u1s _ _ _) 7 (by decide) (List.mem_of_getElem? (i := 1) rfl) ez21 dX3_runsOne_110 ?_
        obtain ⟨e9, e8⟩ := qs2 hf
        subst e9
        subst e8
        exact hQ _ _ _ _ hP hS rfl dX3_runsOne_113
set_option maxRecDepth 100000 in
set_option maxHeartbeats 4000000 in
theorem qb_X3_runsOne_41 {p : Program} {l : Launch} {e : Env} {s : State} {mi : MethodId} {args : Array Value} {below : List Frame} {meth : Method} {co : Code} {Q : State → Prop} {L : wL} {M : wM} {h : Nat → Nat} {r : Int32} {m9 : wm} (F : CallFix p mi co cX3_runsOne 5 s args wsX3_runsOne RX3) (G : qw_G L (qw_A L) s) (hv : qw_9 L) (hQ : qw_RI p l e rm_X3_runsOne s mi args below meth co cX3_runsOne .int Q L r (qw_u1 M 9 m9) h) : ∀ (x1 : Int32) (x2 : Int32) (m : wm) (H : Heap) (locs : List Loc) (ls : Array Slot), qf_X3_runsOne_41 x1 x2 m = some (r, m9) → qw_P L (qw_u1 M 9 m) h H → va_S (qw_A L) s.heap H locs → lv_has ls 5 [(0, .ref (qw_ad L 9 0)), (1, .int x1), (2, .int x2)] → W p l e rm_X3_runsOne s mi args below meth co H locs 0 0 Q (F0 mi 41 ls []) := by
  intro x1 x2 m H locs ls hf hP hS hl
  unfold qf_X3_runsOne_41 at hf
  refine lv_aload_n F.1 F.2.1 dX3_runsOne_41 rfl (lv_at hl 0 rfl) ?_
  refine lv_dup F.1 F.2.1 dX3_runsOne_42 rfl ?_
  obtain ⟨z1, ez1, hf⟩ := qn_x hf
  refine qr_gM F G hv (fun w h => F.2.2.2.2 w (List.mem_cons_of_mem _ (List.mem_append_right _ h))) hP (qw_u1s _ _ _) 7 (by decide) (List.mem_of_getElem? (i := 1) rfl) ez1 dX3_runsOne_43 ?_
  refine lv_iconst (v := (nI 1)) F.1 F.2.1 dX3_runsOne_46 (by decide) ?_
  obtain ⟨z2, ez2, hf⟩ := qn_x hf
  refine qr_iadd F ez2 dX3_runsOne_47 ?_
  obtain ⟨m3, em3, hf⟩ := qn_x hf
  refine qr_pM F G hv (fun w h => F.2.2.2.2 w (List.mem_cons_of_mem _ (List.mem_append_right _ h))) hP hS (qw_u1s _ _ _) 7 (by decide) (List.mem_of_getElem? (i := 1) rfl) (qw_fx em3) dX3_runsOne_48 (fun H locs hP hS => ?_)
  refine lv_iload_n F.1 F.2.1 dX3_runsOne_51 rfl (lv_at hl 2 rfl) ?_
  refine lv_bipush (v := (nI 114)) F.1 F.2.1 dX3_runsOne_52 (by decide) ?_
  refine lv_icmp_eq (tgt := 69) F.1 F.2.1 dX3_runsOne_54 (by decide) (fun c4 => ?_) (fun c4 => ?_)
  · replace hf := qi_t c4 hf
    exact qb_X3_runsOne_69 F G hv hQ _ _ _ _ _ _ hf hP hS (lv_sub hl [0, 1, 2] rfl)
  · replace hf := qi_f c4 hf
    refine lv_aload_n F.1 F.2.1 dX3_runsOne_57 rfl (lv_at hl 0 rfl) ?_
    obtain ⟨r5, m7, k6, hf⟩ := qb2_x hf
    refine qr_cVi F G hP hS (qc_X3_number l G.2.1 (qw_u1s _ _ _) (qw_fx rfl) hv k6) (qw_rcM hv) gX3_runsOne_X3_number rfl ⟨rfl, rfl⟩ e_X3_number ⟨Nat.le_of_ble_eq_true rfl, Nat.le_of_ble_eq_true rfl⟩ rfl hl.1 rfl (Nat.le_of_ble_eq_true rfl) ⟨Nat.zero_le _, Nat.zero_le _⟩ dX3_runsOne_58 (fun H locs hP hS => ?_)
    refine lv_if_ne (tgt := 69) F.1 F.2.1 dX3_runsOne_61 (by decide) (fun c8 => ?_) (fun c8 => ?_)
    · replace hf := qi_f c8 hf
      exact qb_X3_runsOne_69 F G hv hQ _ _ _ _ _ _ hf hP hS (lv_sub hl [0, 1, 2] rfl)
    · replace hf := qi_t c8 hf
      refine lv_aload_n F.1 F.2.1 dX3_runsOne_64 rfl (lv_at hl 0 rfl) ?_
      obtain ⟨z9, ez9, hf⟩ := qn_x hf
      refine qr_gM F G hv (fun w h => F.2.2.2.2 w (List.mem_cons_of_mem _ (List.mem_append_right _ h))) hP (qw_u1s _ _ _) 7 (by decide) (List.mem_of_getElem? (i := 1) rfl) ez9 dX3_runsOne_65 ?_
      obtain ⟨e9, e8⟩ := qs2 hf
      subst e9
      subst e8
      exact hQ _ _ _ _ hP hS rfl dX3_runsOne_68
set_option maxRecDepth 100000 in
set_option maxHeartbeats 4000000 in
theorem qb_X3_runsOne {p : Program} {l : Launch} {e : Env} {s : State} {mi : MethodId} {args : Array Value} {below : List Frame} {meth : Method} {co : Code} {Q : State → Prop} {L : wL} {M : wM} {h : Nat → Nat} {r : Int32} {m9 : wm} (F : CallFix p mi co cX3_runsOne 5 s args wsX3_runsOne RX3) (G : qw_G L (qw_A L) s) (hv : qw_9 L) (hQ : qw_RI p l e rm_X3_runsOne s mi args below meth co cX3_runsOne .int Q L r (qw_u1 M 9 m9) h) : ∀ (m : wm) (H : Heap) (locs : List Loc) (ls : Array Slot), qf_X3_runsOne m = some (r, m9) → qw_P L (qw_u1 M 9 m) h H → va_S (qw_A L) s.heap H locs → lv_has ls 5 [(0, .ref (qw_ad L 9 0))] → W p l e rm_X3_runsOne s mi args below meth co H locs 0 0 Q (F0 mi 0 ls []) := by
  intro m H locs ls hf hP hS hl
  unfold qf_X3_runsOne at hf
  refine lv_aload_n F.1 F.2.1 dX3_runsOne_0 rfl (lv_at hl 0 rfl) ?_
  obtain ⟨z1, ez1, hf⟩ := qn_x hf
  refine qr_gM F G hv (fun w h => F.2.2.2.2 w (List.mem_cons_of_mem _ (List.mem_append_right _ h))) hP (qw_u1s _ _ _) 7 (by decide) (List.mem_of_getElem? (i := 1) rfl) ez1 dX3_runsOne_1 ?_
  refine lv_istore_n (lv' := [(1, .int z1), (0, .ref (qw_ad L 9 0))]) F.1 F.2.1 dX3_runsOne_4 rfl hl (by decide) rfl (fun ls hl => ?_)
  refine lv_aload_n F.1 F.2.1 dX3_runsOne_5 rfl (lv_at hl 1 rfl) ?_
  refine qr_gMr F G hv (fun w h => F.2.2.2.2 w (List.mem_cons_of_mem _ (List.mem_append_right _ h))) hP 5 4 (by decide) (List.mem_of_getElem? (i := 2) rfl) dX3_runsOne_6 ?_
  refine lv_aload_n F.1 F.2.1 dX3_runsOne_9 rfl (lv_at hl 1 rfl) ?_
  obtain ⟨z2, ez2, hf⟩ := qn_x hf
  refine qr_gM F G hv (fun w h => F.2.2.2.2 w (List.mem_cons_of_mem _ (List.mem_append_right _ h))) hP (qw_u1s _ _ _) 7 (by decide) (List.mem_of_getElem? (i := 1) rfl) ez2 dX3_runsOne_10 ?_
  obtain ⟨g4, hf⟩ := qg_x hf
  obtain ⟨z3, ez3, hf⟩ := qn_x hf
  refine qr_ald F G hP (qw_u1s _ _ _) (qw_I9 (c := 4) (n := 120) hv (by decide)) g4 rfl ez3 dX3_runsOne_13 ?_
  refine lv_istore_n (lv' := [(2, .int z3), (1, .int z1), (0, .ref (qw_ad L 9 0))]) F.1 F.2.1 dX3_runsOne_14 rfl hl (by decide) rfl (fun ls hl => ?_)
  refine lv_iload_n F.1 F.2.1 dX3_runsOne_15 rfl (lv_at hl 0 rfl) ?_
  refine lv_bipush (v := (nI 99)) F.1 F.2.1 dX3_runsOne_16 (by decide) ?_
  refine lv_icmp_eq (tgt := 41) F.1 F.2.1 dX3_runsOne_18 (by decide) (fun c5 => ?_) (fun c5 => ?_)
  · replace hf := qi_t c5 hf
    exact qb_X3_runsOne_41 F G hv hQ _ _ _ _ _ _ hf hP hS (lv_sub hl [2, 1, 0] rfl)
  · replace hf := qi_f c5 hf
    refine lv_iload_n F.1 F.2.1 dX3_runsOne_21 rfl (lv_at hl 0 rfl) ?_
    refine lv_bipush (v := (nI 116)) F.1 F.2.1 dX3_runsOne_22 (by decide) ?_
    refine lv_icmp_eq (tgt := 41) F.1 F.2.1 dX3_runsOne_24 (by decide) (fun c6 => ?_) (fun c6 => ?_)
    · replace hf := qi_t c6 hf
      exact qb_X3_runsOne_41 F G hv hQ _ _ _ _ _ _ hf hP hS (lv_sub hl [2, 1, 0] rfl)
    · replace hf := qi_f c6 hf
      refine lv_iload_n F.1 F.2.1 dX3_runsOne_27 rfl (lv_at hl 0 rfl) ?_
      refine lv_bipush (v := (nI 114)) F.1 F.2.1 dX3_runsOne_28 (by decide) ?_
      refine lv_icmp_eq (tgt := 41) F.1 F.2.1 dX3_runsOne_30 (by decide) (fun c7 => ?_) (fun c7 => ?_)
      · replace hf := qi_t c7 hf
        exact qb_X3_runsOne_41 F G hv hQ _ _ _ _ _ _ hf hP hS (lv_sub hl [2, 1, 0] rfl)
      · replace hf := qi_f c7 hf
        refine lv_iload_n F.1 F.2.1 dX3_runsOne_33 rfl (lv_at hl 0 rfl) ?_
        refine lv_bipush (v := (nI 120)) F.1 F.2.1 dX3_runsOne_34 (by decide) ?_
        refine lv_icmp_eq (tgt := 41) F.1 F.2.1 dX3_runsOne_36 (by decide) (fun c8 => ?_) (fun c8 => ?_)
        · replace hf := qi_t c8 hf
          exact qb_X3_runsOne_41 F G hv hQ _ _ _ _ _ _ hf hP hS (lv_sub hl [2, 1, 0] rfl)
        · replace hf := qi_f c8 hf
          refine lv_iload_n F.1 F.2.1 dX3_runsOne_39 rfl (lv_at hl 1 rfl) ?_
          obtain ⟨e9, e8⟩ := qs2 hf
          subst e9
          subst e8
          exact hQ _ _ _ _ hP hS rfl dX3_runsOne_40
set_option maxRecDepth 100000 in
set_option maxHeartbeats 4000000 in
theorem qc_X3_runsOne (l : Launch) {L : wL} (hJ : qw_J L) {X X9 : wM} {h : Nat → Nat} {m m9 : wm} (hX : X 9 = m) (hX9 : qw_u1 X 9 m9 = X9) {r : Int32} (hv : qw_9 L) (hf : qf_X3_runsOne m = some (r, m9)) : qw_MI l yX3_runsOne wsX3_runsOne rm_X3_runsOne L (.ref (qw_ad L 9 0) :: []) X h r X9 h := by
  subst hX
  subst hX9
  refine qw_MI_of (cc := cX3_runsOne) (maxL := 5) (ty := .int) (by decide) rfl hJ (Nat.le_of_ble_eq_true rfl) ?_
  intro p e s mi below meth co Q ls F G hP hQ hl
  exact qb_X3_runsOne F G hv hQ _ _ _ _ hf (by rw [qw_u1i]; exact hP) va_S.rf hl
def rm_X3_exchanges : Room := { frames := 0, cells := 0, slots := 0, locals := 0 }
theorem e_X3_exchanges : qw_hd yX3_exchanges RX3 0 := by decide +kernel
set_option maxRecDepth 100000 in
set_option maxHeartbeats 4000000 in
theorem qb_X3_exchanges_2 {p : Program} {l : Launch} {e : Env} {s : State} {mi : MethodId} {args : Array Value} {below : List Frame} {meth : Method} {co : Code} {Q : State → Prop} {L : wL} {M : wM} {h : Nat → Nat} {m9 : wm} (F : CallFix p mi co cX3_exchanges 3 s args wsX3_exchanges RX3) (G : qw_G L (qw_A L) s) (hv : qw_9 L) (hQ : qw_RV p l e rm_X3_exchanges s mi args below meth co cX3_exchanges Q L (qw_u1 M 9 m9) h) : ∀ (n : Nat) (x1 : Int32) (m : wm) (H : Heap) (locs : List Loc) (ls : Array Slot), qf_X3_exchanges_2 n x1 m = some m9 → qw_P L (qw_u1 M 9 m) h H → va_S (qw_A L) s.heap H locs → lv_has ls 3 [(0, .ref (qw_ad L 9 0)), (1, .int x1)] → W p l e rm_X3_exchanges s mi args below meth co H locs 0 0 Q (F0 mi 2 ls []) := by
  intro n
  induction n with
  | zero =>
    intro x1 m H locs ls hf hP hS hl
    rw [qf_X3_exchanges_2] at hf
    cases hf
  | succ n ih =>
    intro x1 m H locs ls hf hP hS hl
    rw [qf_X3_exchanges_2] at hf
    refine lv_iload_n F.1 F.2.1 dX3_exchanges_2 rfl (lv_at hl 1 rfl) ?_
    refine lv_sipush (v := (nI 935)) F.1 F.2.1 dX3_exchanges_3 (by decide) ?_
    refine lv_icmp_ge (tgt := 41) F.1 F.2.1 dX3_exchanges_6 (by decide) (fun c1 => ?_) (fun c1 => ?_)
    · replace hf := qi_t c1 hf
      have e8 := qs1 hf
      subst e8
      exact hQ _ _ _ _ hP hS dX3_exchanges_41
    · replace hf := qi_f c1 hf
      refine lv_aload_n F.1 F.2.1 dX3_exchanges_9 rfl (lv_at hl 0 rfl) ?_
      refine qr_gMr F G hv (fun w h => F.2.2.2.2 w (List.mem_cons_of_mem _ (List.mem_append_right _ h))) hP 0 1 (by decide) (List.mem_of_getElem? (i := 1) rfl) dX3_exchanges_10 ?_
      refine lv_iload_n F.1 F.2.1 dX3_exchanges_13 rfl (lv_at hl 1 rfl) ?_
      obtain ⟨g3, hf⟩ := qg_x hf
      obtain ⟨z2, ez2, hf⟩ := qn_x hf
      refine qr_ald F G hP (qw_u1s _ _ _) (qw_I9 (c := 1) (n := 935) hv (by decide)) g3 rfl ez2 dX3_exchanges_14 ?_
      refine lv_istore_n (lv' := [(2, .int z2), (0, .ref (qw_ad L 9 0)), (1, .int x1)]) F.1 F.2.1 dX3_exchanges_15 rfl hl (by decide) rfl (fun ls hl => ?_)
      refine lv_aload_n F.1 F.2.1 dX3_exchanges_16 rfl (lv_at hl 1 rfl) ?_
      refine qr_gMr F G hv (fun w h => F.2.2.2.2 w (List.mem_cons_of_mem _ (List.mem_append_right _ h))) hP 0 1 (by decide) (List.mem_of_getElem? (i := 1) rfl) dX3_exchanges_17 ?_
      refine lv_iload_n F.1 F.2.1 dX3_exchanges_20 rfl (lv_at hl 2 rfl) ?_
      refine lv_aload_n F.1 F.2.1 dX3_exchanges_21 rfl (lv_at hl 1 rfl) ?_
      refine qr_gMr F G hv (fun w h => F.2.2.2.2 w (List.mem_cons_of_mem _ (List.mem_append_right _ h))) hP 2 3 (by decide) (List.mem_of_getElem? (i := 2) rfl) dX3_exchanges_22 ?_
      refine lv_iload_n F.1 F.2.1 dX3_exchanges_25 rfl (lv_at hl 2 rfl) ?_
      obtain ⟨g5, hf⟩ := qg_x hf
      obtain ⟨z4, ez4, hf⟩ := qn_x hf
      refine qr_ald F G hP (qw_u1s _ _ _) (qw_I9 (c := 3) (n := 935) hv (by decide)) g5 rfl ez4 dX3_exchanges_26 ?_
      obtain ⟨g6, hf⟩ := qg_x hf
      obtain ⟨m7, em7, hf⟩ := qn_x hf
      refine qr_ast F G hP hS (qw_u1s _ _ _) (qw_I9 (c := 1) (n := 935) hv (by decide)) g6 rfl (qw_fx em7) dX3_exchanges_27 (fun H locs hP hS => ?_)
      refine lv_aload_n F.1 F.2.1 dX3_exchanges_28 rfl (lv_at hl 1 rfl) ?_
      refine qr_gMr F G hv (fun w h => F.2.2.2.2 w (List.mem_cons_of_mem _ (List.mem_append_right _ h))) hP 2 3 (by decide) (List.mem_of_getElem? (i := 2) rfl) dX3_exchanges_29 ?_
      refine lv_iload_n F.1 F.2.1 dX3_exchanges_32 rfl (lv_at hl 2 rfl) ?_
      refine lv_iload_n F.1 F.2.1 dX3_exchanges_33 rfl (lv_at hl 0 rfl) ?_
      obtain ⟨g8, hf⟩ := qg_x hf
      obtain ⟨m9, em9, hf⟩ := qn_x hf
      refine qr_ast F G hP hS (qw_u1s _ _ _) (qw_I9 (c := 3) (n := 935) hv (by decide)) g8 rfl (qw_fx em9) dX3_exchanges_34 (fun H locs hP hS => ?_)
      obtain ⟨z10, ez10, hf⟩ := qn_x hf
      refine lv_iinc (v := z10) (lv' := [(1, .int z10), (2, .int z2), (0, .ref (qw_ad L 9 0))]) F.1 F.2.1 dX3_exchanges_35 hl (k := 2) rfl ((qw_ii1 _).trans ez10.symm) (by decide) rfl (fun ls hl => ?_)
      refine lv_goto (tgt := 2) F.1 F.2.1 dX3_exchanges_38 (by decide) ?_
      exact ih _ _ _ _ _ hf hP hS (lv_sub hl [2, 0] rfl)
set_option maxRecDepth 100000 in
set_option maxHeartbeats 4000000 in
theorem qb_X3_exchanges {p : Program} {l : Launch} {e : Env} {s : State} {mi : MethodId} {args : Array Value} {below : List Frame} {meth : Method} {co : Code} {Q : State → Prop} {L : wL} {M : wM} {h : Nat → Nat} {m9 : wm} (F : CallFix p mi co cX3_exchanges 3 s args wsX3_exchanges RX3) (G : qw_G L (qw_A L) s) (hv : qw_9 L) (hQ : qw_RV p l e rm_X3_exchanges s mi args below meth co cX3_exchanges Q L (qw_u1 M 9 m9) h) : ∀ (m : wm) (H : Heap) (locs : List Loc) (ls : Array Slot), qf_X3_exchanges m = some m9 → qw_P L (qw_u1 M 9 m) h H → va_S (qw_A L) s.heap H locs → lv_has ls 3 [(0, .ref (qw_ad L 9 0))] → W p l e rm_X3_exchanges s mi args below meth co H locs 0 0 Q (F0 mi 0 ls []) := by
  intro m H locs ls hf hP hS hl
  unfold qf_X3_exchanges at hf
  refine lv_iconst (v := (nI 0)) F.1 F.2.1 dX3_exchanges_0 (by decide) ?_
  refine lv_istore_n (lv' := [(1, .int (nI 0)), (0, .ref (qw_ad L 9 0))]) F.1 F.2.1 dX3_exchanges_1 rfl hl (by decide) rfl (fun ls hl => ?_)
  exact qb_X3_exchanges_2 F G hv hQ _ _ _ _ _ _ hf hP hS (lv_sub hl [1, 0] rfl)
set_option maxRecDepth 100000 in
set_option maxHeartbeats 4000000 in
theorem qc_X3_exchanges (l : Launch) {L : wL} (hJ : qw_J L) {X X9 : wM} {h : Nat → Nat} {m m9 : wm} (hX : X 9 = m) (hX9 : qw_u1 X 9 m9 = X9) (hv : qw_9 L) (hf : qf_X3_exchanges m = some m9) : qw_MV l yX3_exchanges wsX3_exchanges rm_X3_exchanges L (.ref (qw_ad L 9 0) :: []) X h X9 h := by
  subst hX
  subst hX9
  refine qw_MV_of (cc := cX3_exchanges) (maxL := 3) (by decide) rfl hJ (Nat.le_of_ble_eq_true rfl) ?_
  intro p e s mi below meth co Q ls F G hP hQ hl
  exact qb_X3_exchanges F G hv hQ _ _ _ _ hf (by rw [qw_u1i]; exact hP) va_S.rf hl
def rm_X3_run : Room := { frames := 5, cells := 0, slots := 0, locals := 113 }
theorem e_X3_run : qw_hd yX3_run RX3 0 := by decide +kernel
set_option maxRecDepth 100000 in
set_option maxHeartbeats 4000000 in
theorem qb_X3_run_74 {p : Program} {l : Launch} {e : Env} {s : State} {mi : MethodId} {args : Array Value} {below : List Frame} {meth : Method} {co : Code} {Q : State → Prop} {L : wL} {M : wM} {h : Nat → Nat} {r : Int32} {m9 : wm} (F : CallFix p mi co cX3_run 3 s args wsX3_run RX3) (G : qw_G L (qw_A L) s) (hv : qw_9 L) (hQ : qw_RI p l e rm_X3_run s mi args below meth co cX3_run .int Q L r (qw_u1 M 9 m9) h) : ∀ (x1 : Int32) (x2 : Int32) (m : wm) (H : Heap) (locs : List Loc) (ls : Array Slot), qf_X3_run_74 x1 x2 m = some (r, m9) → qw_P L (qw_u1 M 9 m) h H → va_S (qw_A L) s.heap H locs → lv_has ls 3 [(0, .ref (qw_ad L 9 0)), (1, .int x1), (2, .int x2)] → W p l e rm_X3_run s mi args below meth co H locs 0 0 Q (F0 mi 74 ls []) := by
  intro x1 x2 m H locs ls hf hP hS hl
  unfold qf_X3_run_74 at hf
  refine lv_aload_n F.1 F.2.1 dX3_run_74 rfl (lv_at hl 0 rfl) ?_
  refine lv_iconst (v := (nI 0)) F.1 F.2.1 dX3_run_75 (by decide) ?_
  obtain ⟨m1, em1, hf⟩ := qn_x hf
  refine qr_pMz F G hv (fun w h => F.2.2.2.2 w (List.mem_cons_of_mem _ (List.mem_append_right _ h))) hP hS (qw_u1s _ _ _) (List.mem_of_getElem? (i := 3) rfl) (by decide) (qw_fx em1) dX3_run_76 (fun H locs hP hS => ?_)
  refine lv_aload_n F.1 F.2.1 dX3_run_79 rfl (lv_at hl 0 rfl) ?_
  obtain ⟨m3, k2, hf⟩ := qb1_x hf
  refine qr_cVv F G hP hS (qc_X3_exchanges l G.2.1 (qw_u1s _ _ _) (qw_fx rfl) hv k2) (qw_rcM hv) gX3_run_X3_exchanges rfl ⟨rfl, rfl⟩ e_X3_exchanges ⟨Nat.le_of_ble_eq_true rfl, Nat.le_of_ble_eq_true rfl⟩ rfl hl.1 rfl (Nat.le_of_ble_eq_true rfl) ⟨Nat.zero_le _, Nat.zero_le _⟩ dX3_run_80 (fun H locs hP hS => ?_)
  refine lv_iload_n F.1 F.2.1 dX3_run_83 rfl (lv_at hl 2 rfl) ?_
  refine lv_bipush (v := (-9 : Int32)) F.1 F.2.1 dX3_run_84 (by decide) ?_
  refine lv_icmp_eq (tgt := 95) F.1 F.2.1 dX3_run_86 (by decide) (fun c4 => ?_) (fun c4 => ?_)
  · replace hf := qi_t c4 hf
    refine lv_aload_n F.1 F.2.1 dX3_run_95 rfl (lv_at hl 0 rfl) ?_
    obtain ⟨m6, k5, hf⟩ := qb1_x hf
    refine qr_cVv F G hP hS (qc_X3_acts l G.2.1 (qw_u1s _ _ _) (qw_fx rfl) hv k5) (qw_rcM hv) gX3_run_X3_acts rfl ⟨rfl, rfl⟩ e_X3_acts ⟨Nat.le_of_ble_eq_true rfl, Nat.le_of_ble_eq_true rfl⟩ rfl hl.1 rfl (Nat.le_of_ble_eq_true rfl) ⟨Nat.zero_le _, Nat.zero_le _⟩ dX3_run_96 (fun H locs hP hS => ?_)
    refine lv_aload_n F.1 F.2.1 dX3_run_99 rfl (lv_at hl 0 rfl) ?_
    obtain ⟨m8, k7, hf⟩ := qb1_x hf
    refine qr_cVv F G hP hS (qc_X3_exchanges l G.2.1 (qw_u1s _ _ _) (qw_fx rfl) hv k7) (qw_rcM hv) gX3_run_X3_exchanges rfl ⟨rfl, rfl⟩ e_X3_exchanges ⟨Nat.le_of_ble_eq_true rfl, Nat.le_of_ble_eq_true rfl⟩ rfl hl.1 rfl (Nat.le_of_ble_eq_true rfl) ⟨Nat.zero_le _, Nat.zero_le _⟩ dX3_run_100 (fun H locs hP hS => ?_)
    refine lv_aload_n F.1 F.2.1 dX3_run_103 rfl (lv_at hl 0 rfl) ?_
    refine lv_iconst (v := (nI 0)) F.1 F.2.1 dX3_run_104 (by decide) ?_
    obtain ⟨m9, em9, hf⟩ := qn_x hf
    refine qr_pM F G hv (fun w h => F.2.2.2.2 w (List.mem_cons_of_mem _ (List.mem_append_right _ h))) hP hS (qw_u1s _ _ _) 6 (by decide) (List.mem_of_getElem? (i := 5) rfl) (qw_fx em9) dX3_run_105 (fun H locs hP hS => ?_)
    refine lv_iload_n F.1 F.2.1 dX3_run_108 rfl (lv_at hl 1 rfl) ?_
    obtain ⟨e9, e8⟩ := qs2 hf
    subst e9
    subst e8
    exact hQ _ _ _ _ hP hS rfl dX3_run_109
  · replace hf := qi_f c4 hf
    refine lv_sipush (v := (-1000 : Int32)) F.1 F.2.1 dX3_run_89 (by decide) ?_
    refine lv_iload_n F.1 F.2.1 dX3_run_92 rfl (lv_at hl 2 rfl) ?_
    obtain ⟨z10, ez10, hf⟩ := qn_x hf
    refine qr_isub F ez10 dX3_run_93 ?_
    obtain ⟨e9, e8⟩ := qs2 hf
    subst e9
    subst e8
    exact hQ _ _ _ _ hP hS rfl dX3_run_94
set_option maxRecDepth 100000 in
set_option maxHeartbeats 4000000 in
theorem qb_X3_run_46 {p : Program} {l : Launch} {e : Env} {s : State} {mi : MethodId} {args : Array Value} {below : List Frame} {meth : Method} {co : Code} {Q : State → Prop} {L : wL} {M : wM} {h : Nat → Nat} {r : Int32} {m9 : wm} (F : CallFix p mi co cX3_run 3 s args wsX3_run RX3) (G : qw_G L (qw_A L) s) (hv : qw_9 L) (hQ : qw_RI p l e rm_X3_run s mi args below meth co cX3_run .int Q L r (qw_u1 M 9 m9) h) : ∀ (n : Nat) (x1 : Int32) (x2 : Int32) (m : wm) (H : Heap) (locs : List Loc) (ls : Array Slot), qf_X3_run_46 n x1 x2 m = some (r, m9) → qw_P L (qw_u1 M 9 m) h H → va_S (qw_A L) s.heap H locs → lv_has ls 3 [(0, .ref (qw_ad L 9 0)), (1, .int x1), (2, .int x2)] → W p l e rm_X3_run s mi args below meth co H locs 0 0 Q (F0 mi 46 ls []) := by
  intro n
  induction n with
  | zero =>
    intro x1 x2 m H locs ls hf hP hS hl
    rw [qf_X3_run_46] at hf
    cases hf
  | succ n ih =>
    intro x1 x2 m H locs ls hf hP hS hl
    rw [qf_X3_run_46] at hf
    refine lv_iload_n F.1 F.2.1 dX3_run_46 rfl (lv_at hl 2 rfl) ?_
    refine lv_bipush (v := (-9 : Int32)) F.1 F.2.1 dX3_run_47 (by decide) ?_
    refine lv_icmp_ne (tgt := 74) F.1 F.2.1 dX3_run_49 (by decide) (fun c1 => ?_) (fun c1 => ?_)
    · replace hf := qi_f c1 hf
      exact qb_X3_run_74 F G hv hQ _ _ _ _ _ _ hf hP hS (lv_sub hl [0, 1, 2] rfl)
    · replace hf := qi_t c1 hf
      refine lv_aload_n F.1 F.2.1 dX3_run_52 rfl (lv_at hl 0 rfl) ?_
      obtain ⟨z2, ez2, hf⟩ := qn_x hf
      refine qr_gM F G hv (fun w h => F.2.2.2.2 w (List.mem_cons_of_mem _ (List.mem_append_right _ h))) hP (qw_u1s _ _ _) 7 (by decide) (List.mem_of_getElem? (i := 4) rfl) ez2 dX3_run_53 ?_
      refine lv_aload_n F.1 F.2.1 dX3_run_56 rfl (lv_at hl 0 rfl) ?_
      obtain ⟨z3, ez3, hf⟩ := qn_x hf
      refine qr_gM F G hv (fun w h => F.2.2.2.2 w (List.mem_cons_of_mem _ (List.mem_append_right _ h))) hP (qw_u1s _ _ _) 6 (by decide) (List.mem_of_getElem? (i := 5) rfl) ez3 dX3_run_57 ?_
      refine lv_icmp_ge (tgt := 74) F.1 F.2.1 dX3_run_60 (by decide) (fun c4 => ?_) (fun c4 => ?_)
      · replace hf := qi_t c4 hf
        exact qb_X3_run_74 F G hv hQ _ _ _ _ _ _ hf hP hS (lv_sub hl [0, 1, 2] rfl)
      · replace hf := qi_f c4 hf
        refine lv_aload_n F.1 F.2.1 dX3_run_63 rfl (lv_at hl 0 rfl) ?_
        obtain ⟨r5, m7, k6, hf⟩ := qb2_x hf
        refine qr_cVi F G hP hS (qc_X3_runsOne l G.2.1 (qw_u1s _ _ _) (qw_fx rfl) hv k6) (qw_rcM hv) gX3_run_X3_runsOne rfl ⟨rfl, rfl⟩ e_X3_runsOne ⟨Nat.le_of_ble_eq_true rfl, Nat.le_of_ble_eq_true rfl⟩ rfl hl.1 rfl (Nat.le_of_ble_eq_true rfl) ⟨Nat.zero_le _, Nat.zero_le _⟩ dX3_run_64 (fun H locs hP hS => ?_)
        refine lv_istore_n (lv' := [(2, .int r5), (0, .ref (qw_ad L 9 0)), (1, .int x1)]) F.1 F.2.1 dX3_run_67 rfl hl (by decide) rfl (fun ls hl => ?_)
        obtain ⟨z8, ez8, hf⟩ := qn_x hf
        refine lv_iinc (v := z8) (lv' := [(1, .int z8), (2, .int r5), (0, .ref (qw_ad L 9 0))]) F.1 F.2.1 dX3_run_68 hl (k := 2) rfl ((qw_ii1 _).trans ez8.symm) (by decide) rfl (fun ls hl => ?_)
        refine lv_goto (tgt := 46) F.1 F.2.1 dX3_run_71 (by decide) ?_
        exact ih _ _ _ _ _ _ hf hP hS (lv_sub hl [2, 0, 1] rfl)
set_option maxRecDepth 100000 in
set_option maxHeartbeats 4000000 in
theorem qb_X3_run_27 {p : Program} {l : Launch} {e : Env} {s : State} {mi : MethodId} {args : Array Value} {below : List Frame} {meth : Method} {co : Code} {Q : State → Prop} {L : wL} {M : wM} {h : Nat → Nat} {r : Int32} {m9 : wm} (F : CallFix p mi co cX3_run 3 s args wsX3_run RX3) (G : qw_G L (qw_A L) s) (hv : qw_9 L) (hQ : qw_RI p l e rm_X3_run s mi args below meth co cX3_run .int Q L r (qw_u1 M 9 m9) h) : ∀ (m : wm) (H : Heap) (locs : List Loc) (ls : Array Slot), qf_X3_run_27 m = some (r, m9) → qw_P L (qw_u1 M 9 m) h H → va_S (qw_A L) s.heap H locs → lv_has ls 3 [(0, .ref (qw_ad L 9 0))] → W p l e rm_X3_run s mi args below meth co H locs 0 0 Q (F0 mi 27 ls []) := by
  intro m H locs ls hf hP hS hl
  unfold qf_X3_run_27 at hf
  refine lv_aload_n F.1 F.2.1 dX3_run_27 rfl (lv_at hl 0 rfl) ?_
  refine lv_iconst (v := (nI 1)) F.1 F.2.1 dX3_run_28 (by decide) ?_
  obtain ⟨m1, em1, hf⟩ := qn_x hf
  refine qr_pMz F G hv (fun w h => F.2.2.2.2 w (List.mem_cons_of_mem _ (List.mem_append_right _ h))) hP hS (qw_u1s _ _ _) (List.mem_of_getElem? (i := 3) rfl) (by decide) (qw_fx em1) dX3_run_29 (fun H locs hP hS => ?_)
  refine lv_iconst (v := (nI 0)) F.1 F.2.1 dX3_run_32 (by decide) ?_
  refine lv_istore_n (lv' := [(1, .int (nI 0)), (0, .ref (qw_ad L 9 0))]) F.1 F.2.1 dX3_run_33 rfl hl (by decide) rfl (fun ls hl => ?_)
  refine lv_bipush (v := (-9 : Int32)) F.1 F.2.1 dX3_run_34 (by decide) ?_
  refine lv_istore_n (lv' := [(2, .int (-9 : Int32)), (1, .int (nI 0)), (0, .ref (qw_ad L 9 0))]) F.1 F.2.1 dX3_run_36 rfl hl (by decide) rfl (fun ls hl => ?_)
  refine lv_aload_n F.1 F.2.1 dX3_run_37 rfl (lv_at hl 2 rfl) ?_
  refine lv_iconst (v := (nI 0)) F.1 F.2.1 dX3_run_38 (by decide) ?_
  obtain ⟨m2, em2, hf⟩ := qn_x hf
  refine qr_pM F G hv (fun w h => F.2.2.2.2 w (List.mem_cons_of_mem _ (List.mem_append_right _ h))) hP hS (qw_u1s _ _ _) 7 (by decide) (List.mem_of_getElem? (i := 4) rfl) (qw_fx em2) dX3_run_39 (fun H locs hP hS => ?_)
  refine lv_aload_n F.1 F.2.1 dX3_run_42 rfl (lv_at hl 2 rfl) ?_
  obtain ⟨m4, k3, hf⟩ := qb1_x hf
  refine qr_cVv F G hP hS (qc_X3_skips l G.2.1 (qw_u1s _ _ _) (qw_fx rfl) hv k3) (qw_rcM hv) gX3_run_X3_skips rfl ⟨rfl, rfl⟩ e_X3_skips ⟨Nat.le_of_ble_eq_true rfl, Nat.le_of_ble_eq_true rfl⟩ rfl hl.1 rfl (Nat.le_of_ble_eq_true rfl) ⟨Nat.zero_le _, Nat.zero_le _⟩ dX3_run_43 (fun H locs hP hS => ?_)
  exact qb_X3_run_46 F G hv hQ _ _ _ _ _ _ _ hf hP hS (lv_sub hl [2, 1, 0] rfl)
set_option maxRecDepth 100000 in
set_option maxHeartbeats 4000000 in
theorem qb_X3_run_2 {p : Program} {l : Launch} {e : Env} {s : State} {mi : MethodId} {args : Array Value} {below : List Frame} {meth : Method} {co : Code} {Q : State → Prop} {L : wL} {M : wM} {h : Nat → Nat} {r : Int32} {m9 : wm} (F : CallFix p mi co cX3_run 3 s args wsX3_run RX3) (G : qw_G L (qw_A L) s) (hv : qw_9 L) (hQ : qw_RI p l e rm_X3_run s mi args below meth co cX3_run .int Q L r (qw_u1 M 9 m9) h) : ∀ (n : Nat) (x1 : Int32) (m : wm) (H : Heap) (locs : List Loc) (ls : Array Slot), qf_X3_run_2 n x1 m = some (r, m9) → qw_P L (qw_u1 M 9 m) h H → va_S (qw_A L) s.heap H locs → lv_has ls 3 [(0, .ref (qw_ad L 9 0)), (1, .int x1)] → W p l e rm_X3_run s mi args below meth co H locs 0 0 Q (F0 mi 2 ls []) := by
  intro n
  induction n with
  | zero =>
    intro x1 m H locs ls hf hP hS hl
    rw [qf_X3_run_2] at hf
    cases hf
  | succ n ih =>
    intro x1 m H locs ls hf hP hS hl
    rw [qf_X3_run_2] at hf
    refine lv_iload_n F.1 F.2.1 dX3_run_2 rfl (lv_at hl 1 rfl) ?_
    refine lv_sipush (v := (nI 935)) F.1 F.2.1 dX3_run_3 (by decide) ?_
    refine lv_icmp_ge (tgt := 27) F.1 F.2.1 dX3_run_6 (by decide) (fun c1 => ?_) (fun c1 => ?_)
    · replace hf := qi_t c1 hf
      exact qb_X3_run_27 F G hv hQ _ _ _ _ hf hP hS (lv_sub hl [0] rfl)
    · replace hf := qi_f c1 hf
      refine lv_aload_n F.1 F.2.1 dX3_run_9 rfl (lv_at hl 0 rfl) ?_
      refine qr_gMr F G hv (fun w h => F.2.2.2.2 w (List.mem_cons_of_mem _ (List.mem_append_right _ h))) hP 2 3 (by decide) (List.mem_of_getElem? (i := 1) rfl) dX3_run_10 ?_
      refine lv_iload_n F.1 F.2.1 dX3_run_13 rfl (lv_at hl 1 rfl) ?_
      refine lv_aload_n F.1 F.2.1 dX3_run_14 rfl (lv_at hl 0 rfl) ?_
      refine qr_gMr F G hv (fun w h => F.2.2.2.2 w (List.mem_cons_of_mem _ (List.mem_append_right _ h))) hP 0 1 (by decide) (List.mem_of_getElem? (i := 2) rfl) dX3_run_15 ?_
      refine lv_iload_n F.1 F.2.1 dX3_run_18 rfl (lv_at hl 1 rfl) ?_
      obtain ⟨g3, hf⟩ := qg_x hf
      obtain ⟨z2, ez2, hf⟩ := qn_x hf
      refine qr_ald F G hP (qw_u1s _ _ _) (qw_I9 (c := 1) (n := 935) hv (by decide)) g3 rfl ez2 dX3_run_19 ?_
      obtain ⟨g4, hf⟩ := qg_x hf
      obtain ⟨m5, em5, hf⟩ := qn_x hf
      refine qr_ast F G hP hS (qw_u1s _ _ _) (qw_I9 (c := 3) (n := 935) hv (by decide)) g4 rfl (qw_fx em5) dX3_run_20 (fun H locs hP hS => ?_)
      obtain ⟨z6, ez6, hf⟩ := qn_x hf
      refine lv_iinc (v := z6) (lv' := [(1, .int z6), (0, .ref (qw_ad L 9 0))]) F.1 F.2.1 dX3_run_21 hl (k := 1) rfl ((qw_ii1 _).trans ez6.symm) (by decide) rfl (fun ls hl => ?_)
      refine lv_goto (tgt := 2) F.1 F.2.1 dX3_run_24 (by decide) ?_
      exact ih _ _ _ _ _ hf hP hS (lv_sub hl [1, 0] rfl)
set_option maxRecDepth 100000 in
set_option maxHeartbeats 4000000 in
theorem qb_X3_run {p : Program} {l : Launch} {e : Env} {s : State} {mi : MethodId} {args : Array Value} {below : List Frame} {meth : Method} {co : Code} {Q : State → Prop} {L : wL} {M : wM} {h : Nat → Nat} {r : Int32} {m9 : wm} (F : CallFix p mi co cX3_run 3 s args wsX3_run RX3) (G : qw_G L (qw_A L) s) (hv : qw_9 L) (hQ : qw_RI p l e rm_X3_run s mi args below meth co cX3_run .int Q L r (qw_u1 M 9 m9) h) : ∀ (m : wm) (H : Heap) (locs : List Loc) (ls : Array Slot), qf_X3_run m = some (r, m9) → qw_P L (qw_u1 M 9 m) h H → va_S (qw_A L) s.heap H locs → lv_has ls 3 [(0, .ref (qw_ad L 9 0))] → W p l e rm_X3_run s mi args below meth co H locs 0 0 Q (F0 mi 0 ls []) := by
  intro m H locs ls hf hP hS hl
  unfold qf_X3_run at hf
  refine lv_iconst (v := (nI 0)) F.1 F.2.1 dX3_run_0 (by decide) ?_
  refine lv_istore_n (lv' := [(1, .int (nI 0)), (0, .ref (qw_ad L 9 0))]) F.1 F.2.1 dX3_run_1 rfl hl (by decide) rfl (fun ls hl => ?_)
  exact qb_X3_run_2 F G hv hQ _ _ _ _ _ _ hf hP hS (lv_sub hl [1, 0] rfl)
set_option maxRecDepth 100000 in
set_option maxHeartbeats 4000000 in
theorem qc_X3_run (l : Launch) {L : wL} (hJ : qw_J L) {X X9 : wM} {h : Nat → Nat} {m m9 : wm} (hX : X 9 = m) (hX9 : qw_u1 X 9 m9 = X9) {r : Int32} (hv : qw_9 L) (hf : qf_X3_run m = some (r, m9)) : qw_MI l yX3_run wsX3_run rm_X3_run L (.ref (qw_ad L 9 0) :: []) X h r X9 h := by
  subst hX
  subst hX9
  refine qw_MI_of (cc := cX3_run) (maxL := 3) (ty := .int) (by decide) rfl hJ (Nat.le_of_ble_eq_true rfl) ?_
  intro p e s mi below meth co Q ls F G hP hQ hl
  exact qb_X3_run F G hv hQ _ _ _ _ hf (by rw [qw_u1i]; exact hP) va_S.rf hl
def rm_X3_overrun : Room := { frames := 1, cells := 0, slots := 0, locals := 22 }
theorem e_X3_overrun : qw_hd yX3_overrun RX3 0 := by decide +kernel
set_option maxRecDepth 100000 in
set_option maxHeartbeats 4000000 in
theorem qb_X3_overrun_4 {p : Program} {l : Launch} {e : Env} {s : State} {mi : MethodId} {args : Array Value} {below : List Frame} {meth : Method} {co : Code} {Q : State → Prop} {L : wL} {M : wM} {h : Nat → Nat} {r : Int32} {m : wm} (F : CallFix p mi co cX3_overrun 3 s args wsX3_overrun RX3) (G : qw_G L (qw_A L) s) (hv : qw_9 L) (hQ : qw_RI p l e rm_X3_overrun s mi args below meth co cX3_overrun .int Q L r (qw_u1 M 9 m) h) : ∀ (n : Nat) (x1 : Int32) (x2 : Int32) (H : Heap) (locs : List Loc) (ls : Array Slot), qf_X3_overrun_4 n x1 x2 m = some r → qw_P L (qw_u1 M 9 m) h H → va_S (qw_A L) s.heap H locs → lv_has ls 3 [(0, .ref (qw_ad L 9 0)), (1, .int x1), (2, .int x2)] → W p l e rm_X3_overrun s mi args below meth co H locs 0 0 Q (F0 mi 4 ls []) := by
  intro n
  induction n with
  | zero =>
    intro x1 x2 H locs ls hf hP hS hl
    rw [qf_X3_overrun_4] at hf
    cases hf
  | succ n ih =>
    intro x1 x2 H locs ls hf hP hS hl
    rw [qf_X3_overrun_4] at hf
    refine lv_iload_n F.1 F.2.1 dX3_overrun_4 rfl (lv_at hl 2 rfl) ?_
    refine lv_aload_n F.1 F.2.1 dX3_overrun_5 rfl (lv_at hl 0 rfl) ?_
    refine qr_gMr F G hv (fun w h => F.2.2.2.2 w (List.mem_cons_of_mem _ (List.mem_append_right _ h))) hP 0 1 (by decide) (List.mem_of_getElem? (i := 1) rfl) dX3_overrun_6 ?_
    refine lv_iconst (v := (nI 0)) F.1 F.2.1 dX3_overrun_9 (by decide) ?_
    obtain ⟨z1, ez1, hf⟩ := qn_x hf
    refine qr_ald F G hP (qw_u1s _ _ _) (qw_I9 (c := 1) (n := 935) hv (by decide)) (by unfold vp_in; decide) (by decide) ez1 dX3_overrun_10 ?_
    refine lv_icmp_ge (tgt := 39) F.1 F.2.1 dX3_overrun_11 (by decide) (fun c2 => ?_) (fun c2 => ?_)
    · replace hf := qi_t c2 hf
      refine lv_iload_n F.1 F.2.1 dX3_overrun_39 rfl (lv_at hl 1 rfl) ?_
      have e9 := qs1 hf
      subst e9
      exact hQ _ _ _ _ hP hS rfl dX3_overrun_40
    · replace hf := qi_f c2 hf
      refine lv_iload_n F.1 F.2.1 dX3_overrun_14 rfl (lv_at hl 1 rfl) ?_
      refine lv_aload_n F.1 F.2.1 dX3_overrun_15 rfl (lv_at hl 0 rfl) ?_
      refine lv_iload_n F.1 F.2.1 dX3_overrun_16 rfl (lv_at hl 2 rfl) ?_
      refine lv_iconst (v := (nI 4)) F.1 F.2.1 dX3_overrun_17 (by decide) ?_
      obtain ⟨r3, k4, hf⟩ := qb1_x hf
      refine qr_cVi F G hP hS (qc_X3_ofFrame l G.2.1 (qw_u1s _ _ _) hv k4) (qw_rcM hv) gX3_overrun_X3_ofFrame rfl ⟨rfl, rfl⟩ e_X3_ofFrame ⟨Nat.le_of_ble_eq_true rfl, Nat.le_of_ble_eq_true rfl⟩ rfl hl.1 rfl (Nat.le_of_ble_eq_true rfl) ⟨Nat.zero_le _, Nat.zero_le _⟩ dX3_overrun_18 (fun H locs hP hS => ?_)
      refine lv_bipush (v := (-9 : Int32)) F.1 F.2.1 dX3_overrun_21 (by decide) ?_
      refine lv_icmp_eq (tgt := 30) F.1 F.2.1 dX3_overrun_23 (by decide) (fun c5 => ?_) (fun c5 => ?_)
      · replace hf := qi_t c5 hf
        refine lv_iconst (v := (nI 0)) F.1 F.2.1 dX3_overrun_30 (by decide) ?_
        obtain ⟨z6, ez6, hf⟩ := qn_x hf
        refine qr_iadd F ez6 dX3_overrun_31 ?_
        refine lv_istore_n (lv' := [(1, .int z6), (0, .ref (qw_ad L 9 0)), (2, .int x2)]) F.1 F.2.1 dX3_overrun_32 rfl hl (by decide) rfl (fun ls hl => ?_)
        obtain ⟨z7, ez7, hf⟩ := qn_x hf
        refine lv_iinc (v := z7) (lv' := [(2, .int z7), (1, .int z6), (0, .ref (qw_ad L 9 0))]) F.1 F.2.1 dX3_overrun_33 hl (k := 2) rfl ((qw_ii1 _).trans ez7.symm) (by decide) rfl (fun ls hl => ?_)
        refine lv_goto (tgt := 4) F.1 F.2.1 dX3_overrun_36 (by decide) ?_
        exact ih _ _ _ _ _ hf hP hS (lv_sub hl [2, 1, 0] rfl)
      · replace hf := qi_f c5 hf
        refine lv_iconst (v := (nI 1)) F.1 F.2.1 dX3_overrun_26 (by decide) ?_
        refine lv_goto (tgt := 31) F.1 F.2.1 dX3_overrun_27 (by decide) ?_
        obtain ⟨z8, ez8, hf⟩ := qn_x hf
        refine qr_iadd F ez8 dX3_overrun_31 ?_
        refine lv_istore_n (lv' := [(1, .int z8), (0, .ref (qw_ad L 9 0)), (2, .int x2)]) F.1 F.2.1 dX3_overrun_32 rfl hl (by decide) rfl (fun ls hl => ?_)
        obtain ⟨z9, ez9, hf⟩ := qn_x hf
        refine lv_iinc (v := z9) (lv' := [(2, .int z9), (1, .int z8), (0, .ref (qw_ad L 9 0))]) F.1 F.2.1 dX3_overrun_33 hl (k := 2) rfl ((qw_ii1 _).trans ez9.symm) (by decide) rfl (fun ls hl => ?_)
        refine lv_goto (tgt := 4) F.1 F.2.1 dX3_overrun_36 (by decide) ?_
        exact ih _ _ _ _ _ hf hP hS (lv_sub hl [2, 1, 0] rfl)
set_option maxRecDepth 100000 in
set_option maxHeartbeats 4000000 in
theorem qb_X3_overrun {p : Program} {l : Launch} {e : Env} {s : State} {mi : MethodId} {args : Array Value} {below : List Frame} {meth : Method} {co : Code} {Q : State → Prop} {L : wL} {M : wM} {h : Nat → Nat} {r : Int32} {m : wm} (F : CallFix p mi co cX3_overrun 3 s args wsX3_overrun RX3) (G : qw_G L (qw_A L) s) (hv : qw_9 L) (hQ : qw_RI p l e rm_X3_overrun s mi args below meth co cX3_overrun .int Q L r (qw_u1 M 9 m) h) : ∀ (H : Heap) (locs : List Loc) (ls : Array Slot), qf_X3_overrun m = some r → qw_P L (qw_u1 M 9 m) h H → va_S (qw_A L) s.heap H locs → lv_has ls 3 [(0, .ref (qw_ad L 9 0))] → W p l e rm_X3_overrun s mi args below meth co H locs 0 0 Q (F0 mi 0 ls []) := by
  intro  H locs ls hf hP hS hl
  unfold qf_X3_overrun at hf
  refine lv_iconst (v := (nI 0)) F.1 F.2.1 dX3_overrun_0 (by decide) ?_
  refine lv_istore_n (lv' := [(1, .int (nI 0)), (0, .ref (qw_ad L 9 0))]) F.1 F.2.1 dX3_overrun_1 rfl hl (by decide) rfl (fun ls hl => ?_)
  refine lv_iconst (v := (nI 0)) F.1 F.2.1 dX3_overrun_2 (by decide) ?_
  refine lv_istore_n (lv' := [(2, .int (nI 0)), (1, .int (nI 0)), (0, .ref (qw_ad L 9 0))]) F.1 F.2.1 dX3_overrun_3 rfl hl (by decide) rfl (fun ls hl => ?_)
  exact qb_X3_overrun_4 F G hv hQ _ _ _ _ _ _ hf hP hS (lv_sub hl [2, 1, 0] rfl)
set_option maxRecDepth 100000 in
set_option maxHeartbeats 4000000 in
theorem qc_X3_overrun (l : Launch) {L : wL} (hJ : qw_J L) {X : wM} {h : Nat → Nat} {m : wm} (hX : X 9 = m) {r : Int32} (hv : qw_9 L) (hf : qf_X3_overrun m = some r) : qw_MI l yX3_overrun wsX3_overrun rm_X3_overrun L (.ref (qw_ad L 9 0) :: []) X h r X h := by
  subst hX
  refine qw_MI_of (cc := cX3_overrun) (maxL := 3) (ty := .int) (by decide) rfl hJ (Nat.le_of_ble_eq_true rfl) ?_
  intro p e s mi below meth co Q ls F G hP hQ hl
  exact qb_X3_overrun F G hv (by rw [qw_u1i]; exact hQ) _ _ _ hf (by rw [qw_u1i]; exact hP) va_S.rf hl
def rm_X3_count : Room := { frames := 2, cells := 0, slots := 0, locals := 44 }
theorem e_X3_count : qw_hd yX3_count RX3 1 := by decide +kernel
set_option maxRecDepth 100000 in
set_option maxHeartbeats 4000000 in
theorem qb_X3_count {p : Program} {l : Launch} {e : Env} {s : State} {mi : MethodId} {args : Array Value} {below : List Frame} {meth : Method} {co : Code} {Q : State → Prop} {L : wL} {M : wM} {h : Nat → Nat} {r : Int32} {m : wm} (F : CallFix p mi co cX3_count 2 s args wsX3_count RX3) (G : qw_G L (qw_A L) s) (hv : qw_9 L) (hQ : qw_RI p l e rm_X3_count s mi args below meth co cX3_count .int Q L r (qw_u1 M 9 m) h) : ∀ (x1 : Int32) (H : Heap) (locs : List Loc) (ls : Array Slot), qf_X3_count x1 m = some r → qw_P L (qw_u1 M 9 m) h H → va_S (qw_A L) s.heap H locs → lv_has ls 2 [(0, .ref (qw_ad L 9 0)), (1, .int x1)] → W p l e rm_X3_count s mi args below meth co H locs 0 0 Q (F0 mi 0 ls []) := by
  intro x1 H locs ls hf hP hS hl
  unfold qf_X3_count at hf
  refine lv_iload_n F.1 F.2.1 dX3_count_0 rfl (lv_at hl 1 rfl) ?_
  refine lv_iconst (v := (nI 0)) F.1 F.2.1 dX3_count_1 (by decide) ?_
  refine lv_bipush (v := (nI 14)) F.1 F.2.1 dX3_count_2 (by decide) ?_
  obtain ⟨r1, k2, hf⟩ := qb1_x hf
  refine qr_cSi F G hP hS (qc_X3_in l G.2.1 k2) gX3_count_X3_in rfl ⟨rfl, rfl⟩ e_X3_in ⟨Nat.le_of_ble_eq_true rfl, Nat.le_of_ble_eq_true rfl⟩ rfl hl.1 rfl (Nat.le_of_ble_eq_true rfl) ⟨Nat.zero_le _, Nat.zero_le _⟩ dX3_count_4 (fun H locs hP hS => ?_)
  refine lv_if_eq (tgt := 19) F.1 F.2.1 dX3_count_7 (by decide) (fun c3 => ?_) (fun c3 => ?_)
  · replace hf := qi_t c3 hf
    refine lv_iload_n F.1 F.2.1 dX3_count_19 rfl (lv_at hl 1 rfl) ?_
    refine lv_bipush (v := (nI 15)) F.1 F.2.1 dX3_count_20 (by decide) ?_
    refine lv_icmp_ne (tgt := 32) F.1 F.2.1 dX3_count_22 (by decide) (fun c4 => ?_) (fun c4 => ?_)
    · replace hf := qi_f c4 hf
      refine lv_iload_n F.1 F.2.1 dX3_count_32 rfl (lv_at hl 1 rfl) ?_
      refine lv_bipush (v := (nI 16)) F.1 F.2.1 dX3_count_33 (by decide) ?_
      refine lv_icmp_ne (tgt := 45) F.1 F.2.1 dX3_count_35 (by decide) (fun c5 => ?_) (fun c5 => ?_)
      · replace hf := qi_f c5 hf
        refine lv_iload_n F.1 F.2.1 dX3_count_45 rfl (lv_at hl 1 rfl) ?_
        refine lv_bipush (v := (nI 17)) F.1 F.2.1 dX3_count_46 (by decide) ?_
        refine lv_icmp_ne (tgt := 58) F.1 F.2.1 dX3_count_48 (by decide) (fun c6 => ?_) (fun c6 => ?_)
        · replace hf := qi_f c6 hf
          refine lv_iconst (v := (-1 : Int32)) F.1 F.2.1 dX3_count_58 (by decide) ?_
          have e9 := qs1 hf
          subst e9
          exact hQ _ _ _ _ hP hS rfl dX3_count_59
        · replace hf := qi_t c6 hf
          refine lv_aload_n F.1 F.2.1 dX3_count_51 rfl (lv_at hl 0 rfl) ?_
          obtain ⟨r7, k8, hf⟩ := qb1_x hf
          refine qr_cVi F G hP hS (qc_X3_overrun l G.2.1 (qw_u1s _ _ _) hv k8) (qw_rcM hv) gX3_count_X3_overrun rfl ⟨rfl, rfl⟩ e_X3_overrun ⟨Nat.le_of_ble_eq_true rfl, Nat.le_of_ble_eq_true rfl⟩ rfl hl.1 rfl (Nat.le_of_ble_eq_true rfl) ⟨Nat.zero_le _, Nat.zero_le _⟩ dX3_count_52 (fun H locs hP hS => ?_)
          refine lv_goto (tgt := 59) F.1 F.2.1 dX3_count_55 (by decide) ?_
          have e9 := qs1 hf
          subst e9
          exact hQ _ _ _ _ hP hS rfl dX3_count_59
      · replace hf := qi_t c5 hf
        refine lv_aload_n F.1 F.2.1 dX3_count_38 rfl (lv_at hl 0 rfl) ?_
        obtain ⟨z9, ez9, hf⟩ := qn_x hf
        refine qr_gM F G hv (fun w h => F.2.2.2.2 w (List.mem_cons_of_mem _ (List.mem_append_right _ h))) hP (qw_u1s _ _ _) 6 (by decide) (List.mem_of_getElem? (i := 3) rfl) ez9 dX3_count_39 ?_
        refine lv_goto (tgt := 59) F.1 F.2.1 dX3_count_42 (by decide) ?_
        have e9 := qs1 hf
        subst e9
        exact hQ _ _ _ _ hP hS rfl dX3_count_59
    · replace hf := qi_t c4 hf
      refine lv_aload_n F.1 F.2.1 dX3_count_25 rfl (lv_at hl 0 rfl) ?_
      obtain ⟨z10, ez10, hf⟩ := qn_x hf
      refine qr_gM F G hv (fun w h => F.2.2.2.2 w (List.mem_cons_of_mem _ (List.mem_append_right _ h))) hP (qw_u1s _ _ _) 3 (by decide) (List.mem_of_getElem? (i := 2) rfl) ez10 dX3_count_26 ?_
      refine lv_goto (tgt := 59) F.1 F.2.1 dX3_count_29 (by decide) ?_
      have e9 := qs1 hf
      subst e9
      exact hQ _ _ _ _ hP hS rfl dX3_count_59
  · replace hf := qi_f c3 hf
    refine lv_aload_n F.1 F.2.1 dX3_count_10 rfl (lv_at hl 0 rfl) ?_
    refine qr_gMr F G hv (fun w h => F.2.2.2.2 w (List.mem_cons_of_mem _ (List.mem_append_right _ h))) hP 0 1 (by decide) (List.mem_of_getElem? (i := 1) rfl) dX3_count_11 ?_
    refine lv_iload_n F.1 F.2.1 dX3_count_14 rfl (lv_at hl 1 rfl) ?_
    obtain ⟨g12, hf⟩ := qg_x hf
    obtain ⟨z11, ez11, hf⟩ := qn_x hf
    refine qr_ald F G hP (qw_u1s _ _ _) (qw_I9 (c := 1) (n := 935) hv (by decide)) g12 rfl ez11 dX3_count_15 ?_
    refine lv_goto (tgt := 59) F.1 F.2.1 dX3_count_16 (by decide) ?_
    have e9 := qs1 hf
    subst e9
    exact hQ _ _ _ _ hP hS rfl dX3_count_59
set_option maxRecDepth 100000 in
set_option maxHeartbeats 4000000 in
theorem qc_X3_count (l : Launch) {L : wL} (hJ : qw_J L) {X : wM} {h : Nat → Nat} {m : wm} (hX : X 9 = m) {x1 : Int32} {r : Int32} (hv : qw_9 L) (hf : qf_X3_count x1 m = some r) : qw_MI l yX3_count wsX3_count rm_X3_count L (.ref (qw_ad L 9 0) :: [.int x1]) X h r X h := by
  subst hX
  refine qw_MI_of (cc := cX3_count) (maxL := 2) (ty := .int) (by decide) rfl hJ (Nat.le_of_ble_eq_true rfl) ?_
  intro p e s mi below meth co Q ls F G hP hQ hl
  exact qb_X3_count F G hv (by rw [qw_u1i]; exact hQ) _ _ _ _ hf (by rw [qw_u1i]; exact hP) va_S.rf hl
def rm_X3_isFrame : Room := { frames := 0, cells := 0, slots := 0, locals := 0 }
theorem e_X3_isFrame : qw_hd yX3_isFrame RX3 1 := by decide +kernel
set_option maxRecDepth 100000 in
set_option maxHeartbeats 4000000 in
theorem qb_X3_isFrame {p : Program} {l : Launch} {e : Env} {s : State} {mi : MethodId} {args : Array Value} {below : List Frame} {meth : Method} {co : Code} {Q : State → Prop} {L : wL} {M : wM} {h : Nat → Nat} {r : Int32} {m : wm} (F : CallFix p mi co cX3_isFrame 2 s args wsX3_isFrame RX3) (G : qw_G L (qw_A L) s) (hv : qw_9 L) (hQ : qw_RI p l e rm_X3_isFrame s mi args below meth co cX3_isFrame .boolean Q L r (qw_u1 M 9 m) h) : ∀ (x1 : Int32) (H : Heap) (locs : List Loc) (ls : Array Slot), qf_X3_isFrame x1 m = some r → qw_P L (qw_u1 M 9 m) h H → va_S (qw_A L) s.heap H locs → lv_has ls 2 [(0, .ref (qw_ad L 9 0)), (1, .int x1)] → W p l e rm_X3_isFrame s mi args below meth co H locs 0 0 Q (F0 mi 0 ls []) := by
  intro x1 H locs ls hf hP hS hl
  unfold qf_X3_isFrame at hf
  refine lv_iload_n F.1 F.2.1 dX3_isFrame_0 rfl (lv_at hl 1 rfl) ?_
  refine lv_if_lt (tgt := 18) F.1 F.2.1 dX3_isFrame_1 (by decide) (fun c1 => ?_) (fun c1 => ?_)
  · replace hf := qi_t c1 hf
    refine lv_iconst (v := (nI 0)) F.1 F.2.1 dX3_isFrame_18 (by decide) ?_
    have e9 := qs1 hf
    subst e9
    exact hQ _ _ _ _ hP hS rfl dX3_isFrame_19
  · replace hf := qi_f c1 hf
    refine lv_iload_n F.1 F.2.1 dX3_isFrame_4 rfl (lv_at hl 1 rfl) ?_
    refine lv_aload_n F.1 F.2.1 dX3_isFrame_5 rfl (lv_at hl 0 rfl) ?_
    refine qr_gMr F G hv (fun w h => F.2.2.2.2 w (List.mem_cons_of_mem _ (List.mem_append_right _ h))) hP 0 1 (by decide) (List.mem_of_getElem? (i := 1) rfl) dX3_isFrame_6 ?_
    refine lv_iconst (v := (nI 0)) F.1 F.2.1 dX3_isFrame_9 (by decide) ?_
    obtain ⟨z2, ez2, hf⟩ := qn_x hf
    refine qr_ald F G hP (qw_u1s _ _ _) (qw_I9 (c := 1) (n := 935) hv (by decide)) (by unfold vp_in; decide) (by decide) ez2 dX3_isFrame_10 ?_
    refine lv_icmp_ge (tgt := 18) F.1 F.2.1 dX3_isFrame_11 (by decide) (fun c3 => ?_) (fun c3 => ?_)
    · replace hf := qi_t c3 hf
      refine lv_iconst (v := (nI 0)) F.1 F.2.1 dX3_isFrame_18 (by decide) ?_
      have e9 := qs1 hf
      subst e9
      exact hQ _ _ _ _ hP hS rfl dX3_isFrame_19
    · replace hf := qi_f c3 hf
      refine lv_iconst (v := (nI 1)) F.1 F.2.1 dX3_isFrame_14 (by decide) ?_
      refine lv_goto (tgt := 19) F.1 F.2.1 dX3_isFrame_15 (by decide) ?_
      have e9 := qs1 hf
      subst e9
      exact hQ _ _ _ _ hP hS rfl dX3_isFrame_19
set_option maxRecDepth 100000 in
set_option maxHeartbeats 4000000 in
theorem qc_X3_isFrame (l : Launch) {L : wL} (hJ : qw_J L) {X : wM} {h : Nat → Nat} {m : wm} (hX : X 9 = m) {x1 : Int32} {r : Int32} (hv : qw_9 L) (hf : qf_X3_isFrame x1 m = some r) : qw_MI l yX3_isFrame wsX3_isFrame rm_X3_isFrame L (.ref (qw_ad L 9 0) :: [.int x1]) X h r X h := by
  subst hX
  refine qw_MI_of (cc := cX3_isFrame) (maxL := 2) (ty := .boolean) (by decide) rfl hJ (Nat.le_of_ble_eq_true rfl) ?_
  intro p e s mi below meth co Q ls F G hP hQ hl
  exact qb_X3_isFrame F G hv (by rw [qw_u1i]; exact hQ) _ _ _ _ hf (by rw [qw_u1i]; exact hP) va_S.rf hl
def rm_X3_frame : Room := { frames := 1, cells := 0, slots := 0, locals := 22 }
theorem e_X3_frame : qw_hd yX3_frame RX3 2 := by decide +kernel
set_option maxRecDepth 100000 in
set_option maxHeartbeats 4000000 in
theorem qb_X3_frame {p : Program} {l : Launch} {e : Env} {s : State} {mi : MethodId} {args : Array Value} {below : List Frame} {meth : Method} {co : Code} {Q : State → Prop} {L : wL} {M : wM} {h : Nat → Nat} {r : Int32} {m : wm} (F : CallFix p mi co cX3_frame 3 s args wsX3_frame RX3) (G : qw_G L (qw_A L) s) (hv : qw_9 L) (hQ : qw_RI p l e rm_X3_frame s mi args below meth co cX3_frame .int Q L r (qw_u1 M 9 m) h) : ∀ (x1 : Int32) (x2 : Int32) (H : Heap) (locs : List Loc) (ls : Array Slot), qf_X3_frame x1 x2 m = some r → qw_P L (qw_u1 M 9 m) h H → va_S (qw_A L) s.heap H locs → lv_has ls 3 [(0, .ref (qw_ad L 9 0)), (1, .int x1), (2, .int x2)] → W p l e rm_X3_frame s mi args below meth co H locs 0 0 Q (F0 mi 0 ls []) := by
  intro x1 x2 H locs ls hf hP hS hl
  unfold qf_X3_frame at hf
  refine lv_aload_n F.1 F.2.1 dX3_frame_0 rfl (lv_at hl 0 rfl) ?_
  refine lv_iload_n F.1 F.2.1 dX3_frame_1 rfl (lv_at hl 1 rfl) ?_
  obtain ⟨r1, k2, hf⟩ := qb1_x hf
  refine qr_cVi F G hP hS (qc_X3_isFrame l G.2.1 (qw_u1s _ _ _) hv k2) (qw_rcM hv) gX3_frame_X3_isFrame rfl ⟨rfl, rfl⟩ e_X3_isFrame ⟨Nat.le_of_ble_eq_true rfl, Nat.le_of_ble_eq_true rfl⟩ rfl hl.1 rfl (Nat.le_of_ble_eq_true rfl) ⟨Nat.zero_le _, Nat.zero_le _⟩ dX3_frame_2 (fun H locs hP hS => ?_)
  refine lv_if_eq (tgt := 35) F.1 F.2.1 dX3_frame_5 (by decide) (fun c3 => ?_) (fun c3 => ?_)
  · replace hf := qi_t c3 hf
    refine lv_iconst (v := (-1 : Int32)) F.1 F.2.1 dX3_frame_35 (by decide) ?_
    have e9 := qs1 hf
    subst e9
    exact hQ _ _ _ _ hP hS rfl dX3_frame_36
  · replace hf := qi_f c3 hf
    refine lv_iload_n F.1 F.2.1 dX3_frame_8 rfl (lv_at hl 2 rfl) ?_
    refine lv_iconst (v := (nI 0)) F.1 F.2.1 dX3_frame_9 (by decide) ?_
    refine lv_iconst (v := (nI 4)) F.1 F.2.1 dX3_frame_10 (by decide) ?_
    obtain ⟨r4, k5, hf⟩ := qb1_x hf
    refine qr_cSi F G hP hS (qc_X3_in l G.2.1 k5) gX3_frame_X3_in rfl ⟨rfl, rfl⟩ e_X3_in ⟨Nat.le_of_ble_eq_true rfl, Nat.le_of_ble_eq_true rfl⟩ rfl hl.1 rfl (Nat.le_of_ble_eq_true rfl) ⟨Nat.zero_le _, Nat.zero_le _⟩ dX3_frame_11 (fun H locs hP hS => ?_)
    refine lv_if_eq (tgt := 35) F.1 F.2.1 dX3_frame_14 (by decide) (fun c6 => ?_) (fun c6 => ?_)
    · replace hf := qi_t c6 hf
      refine lv_iconst (v := (-1 : Int32)) F.1 F.2.1 dX3_frame_35 (by decide) ?_
      have e9 := qs1 hf
      subst e9
      exact hQ _ _ _ _ hP hS rfl dX3_frame_36
    · replace hf := qi_f c6 hf
      refine lv_aload_n F.1 F.2.1 dX3_frame_17 rfl (lv_at hl 0 rfl) ?_
      refine lv_aload_n F.1 F.2.1 dX3_frame_18 rfl (lv_at hl 0 rfl) ?_
      refine qr_gMr F G hv (fun w h => F.2.2.2.2 w (List.mem_cons_of_mem _ (List.mem_append_right _ h))) hP 0 1 (by decide) (List.mem_of_getElem? (i := 1) rfl) dX3_frame_19 ?_
      refine lv_iconst (v := (nI 0)) F.1 F.2.1 dX3_frame_22 (by decide) ?_
      obtain ⟨z7, ez7, hf⟩ := qn_x hf
      refine qr_ald F G hP (qw_u1s _ _ _) (qw_I9 (c := 1) (n := 935) hv (by decide)) (by unfold vp_in; decide) (by decide) ez7 dX3_frame_23 ?_
      refine lv_iconst (v := (nI 1)) F.1 F.2.1 dX3_frame_24 (by decide) ?_
      obtain ⟨z8, ez8, hf⟩ := qn_x hf
      refine qr_isub F ez8 dX3_frame_25 ?_
      refine lv_iload_n F.1 F.2.1 dX3_frame_26 rfl (lv_at hl 1 rfl) ?_
      obtain ⟨z9, ez9, hf⟩ := qn_x hf
      refine qr_isub F ez9 dX3_frame_27 ?_
      refine lv_iload_n F.1 F.2.1 dX3_frame_28 rfl (lv_at hl 2 rfl) ?_
      obtain ⟨r10, k11, hf⟩ := qb1_x hf
      refine qr_cVi F G hP hS (qc_X3_ofFrame l G.2.1 (qw_u1s _ _ _) hv k11) (qw_rcM hv) gX3_frame_X3_ofFrame rfl ⟨rfl, rfl⟩ e_X3_ofFrame ⟨Nat.le_of_ble_eq_true rfl, Nat.le_of_ble_eq_true rfl⟩ rfl hl.1 rfl (Nat.le_of_ble_eq_true rfl) ⟨Nat.zero_le _, Nat.zero_le _⟩ dX3_frame_29 (fun H locs hP hS => ?_)
      refine lv_goto (tgt := 36) F.1 F.2.1 dX3_frame_32 (by decide) ?_
      have e9 := qs1 hf
      subst e9
      exact hQ _ _ _ _ hP hS rfl dX3_frame_36
set_option maxRecDepth 100000 in
set_option maxHeartbeats 4000000 in
theorem qc_X3_frame (l : Launch) {L : wL} (hJ : qw_J L) {X : wM} {h : Nat → Nat} {m : wm} (hX : X 9 = m) {x1 x2 : Int32} {r : Int32} (hv : qw_9 L) (hf : qf_X3_frame x1 x2 m = some r) : qw_MI l yX3_frame wsX3_frame rm_X3_frame L (.ref (qw_ad L 9 0) :: [.int x1, .int x2]) X h r X h := by
  subst hX
  refine qw_MI_of (cc := cX3_frame) (maxL := 3) (ty := .int) (by decide) rfl hJ (Nat.le_of_ble_eq_true rfl) ?_
  intro p e s mi below meth co Q ls F G hP hQ hl
  exact qb_X3_frame F G hv (by rw [qw_u1i]; exact hQ) _ _ _ _ _ hf (by rw [qw_u1i]; exact hP) va_S.rf hl
def rm_X3_slot : Room := { frames := 1, cells := 0, slots := 0, locals := 22 }
theorem e_X3_slot : qw_hd yX3_slot RX3 2 := by decide +kernel
set_option maxRecDepth 100000 in
set_option maxHeartbeats 4000000 in
theorem qb_X3_slot {p : Program} {l : Launch} {e : Env} {s : State} {mi : MethodId} {args : Array Value} {below : List Frame} {meth : Method} {co : Code} {Q : State → Prop} {L : wL} {M : wM} {h : Nat → Nat} {r : Int32} {m : wm} (F : CallFix p mi co cX3_slot 3 s args wsX3_slot RX3) (G : qw_G L (qw_A L) s) (hv : qw_9 L) (hQ : qw_RI p l e rm_X3_slot s mi args below meth co cX3_slot .int Q L r (qw_u1 M 9 m) h) : ∀ (x1 : Int32) (x2 : Int32) (H : Heap) (locs : List Loc) (ls : Array Slot), qf_X3_slot x1 x2 m = some r → qw_P L (qw_u1 M 9 m) h H → va_S (qw_A L) s.heap H locs → lv_has ls 3 [(0, .ref (qw_ad L 9 0)), (1, .int x1), (2, .int x2)] → W p l e rm_X3_slot s mi args below meth co H locs 0 0 Q (F0 mi 0 ls []) := by
  intro x1 x2 H locs ls hf hP hS hl
  unfold qf_X3_slot at hf
  refine lv_iload_n F.1 F.2.1 dX3_slot_0 rfl (lv_at hl 1 rfl) ?_
  refine lv_if_lt (tgt := 33) F.1 F.2.1 dX3_slot_1 (by decide) (fun c1 => ?_) (fun c1 => ?_)
  · replace hf := qi_t c1 hf
    refine lv_iconst (v := (-1 : Int32)) F.1 F.2.1 dX3_slot_33 (by decide) ?_
    have e9 := qs1 hf
    subst e9
    exact hQ _ _ _ _ hP hS rfl dX3_slot_34
  · replace hf := qi_f c1 hf
    refine lv_iload_n F.1 F.2.1 dX3_slot_4 rfl (lv_at hl 1 rfl) ?_
    refine lv_aload_n F.1 F.2.1 dX3_slot_5 rfl (lv_at hl 0 rfl) ?_
    refine qr_gMr F G hv (fun w h => F.2.2.2.2 w (List.mem_cons_of_mem _ (List.mem_append_right _ h))) hP 0 1 (by decide) (List.mem_of_getElem? (i := 1) rfl) dX3_slot_6 ?_
    refine lv_bipush (v := (nI 11)) F.1 F.2.1 dX3_slot_9 (by decide) ?_
    obtain ⟨z2, ez2, hf⟩ := qn_x hf
    refine qr_ald F G hP (qw_u1s _ _ _) (qw_I9 (c := 1) (n := 935) hv (by decide)) (by unfold vp_in; decide) (by decide) ez2 dX3_slot_11 ?_
    refine lv_icmp_ge (tgt := 33) F.1 F.2.1 dX3_slot_12 (by decide) (fun c3 => ?_) (fun c3 => ?_)
    · replace hf := qi_t c3 hf
      refine lv_iconst (v := (-1 : Int32)) F.1 F.2.1 dX3_slot_33 (by decide) ?_
      have e9 := qs1 hf
      subst e9
      exact hQ _ _ _ _ hP hS rfl dX3_slot_34
    · replace hf := qi_f c3 hf
      refine lv_iload_n F.1 F.2.1 dX3_slot_15 rfl (lv_at hl 2 rfl) ?_
      refine lv_iconst (v := (nI 0)) F.1 F.2.1 dX3_slot_16 (by decide) ?_
      refine lv_iconst (v := (nI 2)) F.1 F.2.1 dX3_slot_17 (by decide) ?_
      obtain ⟨r4, k5, hf⟩ := qb1_x hf
      refine qr_cSi F G hP hS (qc_X3_in l G.2.1 k5) gX3_slot_X3_in rfl ⟨rfl, rfl⟩ e_X3_in ⟨Nat.le_of_ble_eq_true rfl, Nat.le_of_ble_eq_true rfl⟩ rfl hl.1 rfl (Nat.le_of_ble_eq_true rfl) ⟨Nat.zero_le _, Nat.zero_le _⟩ dX3_slot_18 (fun H locs hP hS => ?_)
      refine lv_if_eq (tgt := 33) F.1 F.2.1 dX3_slot_21 (by decide) (fun c6 => ?_) (fun c6 => ?_)
      · replace hf := qi_t c6 hf
        refine lv_iconst (v := (-1 : Int32)) F.1 F.2.1 dX3_slot_33 (by decide) ?_
        have e9 := qs1 hf
        subst e9
        exact hQ _ _ _ _ hP hS rfl dX3_slot_34
      · replace hf := qi_f c6 hf
        refine lv_aload_n F.1 F.2.1 dX3_slot_24 rfl (lv_at hl 0 rfl) ?_
        refine lv_iload_n F.1 F.2.1 dX3_slot_25 rfl (lv_at hl 1 rfl) ?_
        refine lv_iload_n F.1 F.2.1 dX3_slot_26 rfl (lv_at hl 2 rfl) ?_
        obtain ⟨r7, k8, hf⟩ := qb1_x hf
        refine qr_cVi F G hP hS (qc_X3_ofSlot l G.2.1 (qw_u1s _ _ _) hv k8) (qw_rcM hv) gX3_slot_X3_ofSlot rfl ⟨rfl, rfl⟩ e_X3_ofSlot ⟨Nat.le_of_ble_eq_true rfl, Nat.le_of_ble_eq_true rfl⟩ rfl hl.1 rfl (Nat.le_of_ble_eq_true rfl) ⟨Nat.zero_le _, Nat.zero_le _⟩ dX3_slot_27 (fun H locs hP hS => ?_)
        refine lv_goto (tgt := 34) F.1 F.2.1 dX3_slot_30 (by decide) ?_
        have e9 := qs1 hf
        subst e9
        exact hQ _ _ _ _ hP hS rfl dX3_slot_34
set_option maxRecDepth 100000 in
set_option maxHeartbeats 4000000 in
theorem qc_X3_slot (l : Launch) {L : wL} (hJ : qw_J L) {X : wM} {h : Nat → Nat} {m : wm} (hX : X 9 = m) {x1 x2 : Int32} {r : Int32} (hv : qw_9 L) (hf : qf_X3_slot x1 x2 m = some r) : qw_MI l yX3_slot wsX3_slot rm_X3_slot L (.ref (qw_ad L 9 0) :: [.int x1, .int x2]) X h r X h := by
  subst hX
  refine qw_MI_of (cc := cX3_slot) (maxL := 3) (ty := .int) (by decide) rfl hJ (Nat.le_of_ble_eq_true rfl) ?_
  intro p e s mi below meth co Q ls F G hP hQ hl
  exact qb_X3_slot F G hv (by rw [qw_u1i]; exact hQ) _ _ _ _ _ hf (by rw [qw_u1i]; exact hP) va_S.rf hl
def rm_X3_confession : Room := { frames := 1, cells := 0, slots := 0, locals := 22 }
theorem e_X3_confession : qw_hd yX3_confession RX3 2 := by decide +kernel
set_option maxRecDepth 100000 in
set_option maxHeartbeats 4000000 in
theorem qb_X3_confession {p : Program} {l : Launch} {e : Env} {s : State} {mi : MethodId} {args : Array Value} {below : List Frame} {meth : Method} {co : Code} {Q : State → Prop} {L : wL} {M : wM} {h : Nat → Nat} {r : Int32} {m : wm} (F : CallFix p mi co cX3_confession 3 s args wsX3_confession RX3) (G : qw_G L (qw_A L) s) (hv : qw_9 L) (hQ : qw_RI p l e rm_X3_confession s mi args below meth co cX3_confession .int Q L r (qw_u1 M 9 m) h) : ∀ (x1 : Int32) (x2 : Int32) (H : Heap) (locs : List Loc) (ls : Array Slot), qf_X3_confession x1 x2 m = some r → qw_P L (qw_u1 M 9 m) h H → va_S (qw_A L) s.heap H locs → lv_has ls 3 [(0, .ref (qw_ad L 9 0)), (1, .int x1), (2, .int x2)] → W p l e rm_X3_confession s mi args below meth co H locs 0 0 Q (F0 mi 0 ls []) := by
  intro x1 x2 H locs ls hf hP hS hl
  unfold qf_X3_confession at hf
  refine lv_iload_n F.1 F.2.1 dX3_confession_0 rfl (lv_at hl 1 rfl) ?_
  refine lv_if_lt (tgt := 13) F.1 F.2.1 dX3_confession_1 (by decide) (fun c1 => ?_) (fun c1 => ?_)
  · replace hf := qi_t c1 hf
    refine lv_iconst (v := (-1 : Int32)) F.1 F.2.1 dX3_confession_13 (by decide) ?_
    have e9 := qs1 hf
    subst e9
    exact hQ _ _ _ _ hP hS rfl dX3_confession_14
  · replace hf := qi_f c1 hf
    refine lv_iload_n F.1 F.2.1 dX3_confession_4 rfl (lv_at hl 2 rfl) ?_
    refine lv_iconst (v := (nI 0)) F.1 F.2.1 dX3_confession_5 (by decide) ?_
    refine lv_iconst (v := (nI 5)) F.1 F.2.1 dX3_confession_6 (by decide) ?_
    obtain ⟨r2, k3, hf⟩ := qb1_x hf
    refine qr_cSi F G hP hS (qc_X3_in l G.2.1 k3) gX3_confession_X3_in rfl ⟨rfl, rfl⟩ e_X3_in ⟨Nat.le_of_ble_eq_true rfl, Nat.le_of_ble_eq_true rfl⟩ rfl hl.1 rfl (Nat.le_of_ble_eq_true rfl) ⟨Nat.zero_le _, Nat.zero_le _⟩ dX3_confession_7 (fun H locs hP hS => ?_)
    refine lv_if_ne (tgt := 15) F.1 F.2.1 dX3_confession_10 (by decide) (fun c4 => ?_) (fun c4 => ?_)
    · replace hf := qi_f c4 hf
      refine lv_iload_n F.1 F.2.1 dX3_confession_15 rfl (lv_at hl 1 rfl) ?_
      refine lv_aload_n F.1 F.2.1 dX3_confession_16 rfl (lv_at hl 0 rfl) ?_
      refine qr_gMr F G hv (fun w h => F.2.2.2.2 w (List.mem_cons_of_mem _ (List.mem_append_right _ h))) hP 0 1 (by decide) (List.mem_of_getElem? (i := 1) rfl) dX3_confession_17 ?_
      refine lv_bipush (v := (nI 10)) F.1 F.2.1 dX3_confession_20 (by decide) ?_
      obtain ⟨z5, ez5, hf⟩ := qn_x hf
      refine qr_ald F G hP (qw_u1s _ _ _) (qw_I9 (c := 1) (n := 935) hv (by decide)) (by unfold vp_in; decide) (by decide) ez5 dX3_confession_22 ?_
      refine lv_icmp_ge (tgt := 54) F.1 F.2.1 dX3_confession_23 (by decide) (fun c6 => ?_) (fun c6 => ?_)
      · replace hf := qi_t c6 hf
        refine lv_bipush (v := (-9 : Int32)) F.1 F.2.1 dX3_confession_54 (by decide) ?_
        have e9 := qs1 hf
        subst e9
        exact hQ _ _ _ _ hP hS rfl dX3_confession_56
      · replace hf := qi_f c6 hf
        refine lv_aload_n F.1 F.2.1 dX3_confession_26 rfl (lv_at hl 0 rfl) ?_
        refine qr_gMr F G hv (fun w h => F.2.2.2.2 w (List.mem_cons_of_mem _ (List.mem_append_right _ h))) hP 0 1 (by decide) (List.mem_of_getElem? (i := 1) rfl) dX3_confession_27 ?_
        refine lv_sipush (v := (nI 263)) F.1 F.2.1 dX3_confession_30 (by decide) ?_
        refine lv_bipush (v := (nI 6)) F.1 F.2.1 dX3_confession_33 (by decide) ?_
        refine lv_aload_n F.1 F.2.1 dX3_confession_35 rfl (lv_at hl 0 rfl) ?_
        refine qr_gMr F G hv (fun w h => F.2.2.2.2 w (List.mem_cons_of_mem _ (List.mem_append_right _ h))) hP 0 1 (by decide) (List.mem_of_getElem? (i := 1) rfl) dX3_confession_36 ?_
        refine lv_bipush (v := (nI 10)) F.1 F.2.1 dX3_confession_39 (by decide) ?_
        obtain ⟨z7, ez7, hf⟩ := qn_x hf
        refine qr_ald F G hP (qw_u1s _ _ _) (qw_I9 (c := 1) (n := 935) hv (by decide)) (by unfold vp_in; decide) (by decide) ez7 dX3_confession_41 ?_
        refine lv_iconst (v := (nI 1)) F.1 F.2.1 dX3_confession_42 (by decide) ?_
        obtain ⟨z8, ez8, hf⟩ := qn_x hf
        refine qr_isub F ez8 dX3_confession_43 ?_
        refine lv_iload_n F.1 F.2.1 dX3_confession_44 rfl (lv_at hl 1 rfl) ?_
        obtain ⟨z9, ez9, hf⟩ := qn_x hf
        refine qr_isub F ez9 dX3_confession_45 ?_
        obtain ⟨z10, ez10, hf⟩ := qn_x hf
        refine qr_imul F ez10 dX3_confession_46 ?_
        obtain ⟨z11, ez11, hf⟩ := qn_x hf
        refine qr_iadd F ez11 dX3_confession_47 ?_
        refine lv_iload_n F.1 F.2.1 dX3_confession_48 rfl (lv_at hl 2 rfl) ?_
        obtain ⟨z12, ez12, hf⟩ := qn_x hf
        refine qr_iadd F ez12 dX3_confession_49 ?_
        obtain ⟨g14, hf⟩ := qg_x hf
        obtain ⟨z13, ez13, hf⟩ := qn_x hf
        refine qr_ald F G hP (qw_u1s _ _ _) (qw_I9 (c := 1) (n := 935) hv (by decide)) g14 rfl ez13 dX3_confession_50 ?_
        refine lv_goto (tgt := 56) F.1 F.2.1 dX3_confession_51 (by decide) ?_
        have e9 := qs1 hf
        subst e9
        exact hQ _ _ _ _ hP hS rfl dX3_confession_56
    · replace hf := qi_t c4 hf
      refine lv_iconst (v := (-1 : Int32)) F.1 F.2.1 dX3_confession_13 (by decide) ?_
      have e9 := qs1 hf
      subst e9
      exact hQ _ _ _ _ hP hS rfl dX3_confession_14
set_option maxRecDepth 100000 in
set_option maxHeartbeats 4000000 in
theorem qc_X3_confession (l : Launch) {L : wL} (hJ : qw_J L) {X : wM} {h : Nat → Nat} {m : wm} (hX : X 9 = m) {x1 x2 : Int32} {r : Int32} (hv : qw_9 L) (hf : qf_X3_confession x1 x2 m = some r) : qw_MI l yX3_confession wsX3_confession rm_X3_confession L (.ref (qw_ad L 9 0) :: [.int x1, .int x2]) X h r X h := by
  subst hX
  refine qw_MI_of (cc := cX3_confession) (maxL := 3) (ty := .int) (by decide) rfl hJ (Nat.le_of_ble_eq_true rfl) ?_
  intro p e s mi below meth co Q ls F G hP hQ hl
  exact qb_X3_confession F G hv (by rw [qw_u1i]; exact hQ) _ _ _ _ _ hf (by rw [qw_u1i]; exact hP) va_S.rf hl
def rm_X3_named : Room := { frames := 0, cells := 0, slots := 0, locals := 0 }
theorem e_X3_named : qw_hd yX3_named RX3 1 := by decide +kernel
set_option maxRecDepth 100000 in
set_option maxHeartbeats 4000000 in
theorem qb_X3_named {p : Program} {l : Launch} {e : Env} {s : State} {mi : MethodId} {args : Array Value} {below : List Frame} {meth : Method} {co : Code} {Q : State → Prop} {L : wL} {M : wM} {h : Nat → Nat} {r : Int32} {m : wm} (F : CallFix p mi co cX3_named 2 s args wsX3_named RX3) (G : qw_G L (qw_A L) s) (hv : qw_9 L) (hQ : qw_RI p l e rm_X3_named s mi args below meth co cX3_named .int Q L r (qw_u1 M 9 m) h) : ∀ (x1 : Int32) (H : Heap) (locs : List Loc) (ls : Array Slot), qf_X3_named x1 m = some r → qw_P L (qw_u1 M 9 m) h H → va_S (qw_A L) s.heap H locs → lv_has ls 2 [(0, .ref (qw_ad L 9 0)), (1, .int x1)] → W p l e rm_X3_named s mi args below meth co H locs 0 0 Q (F0 mi 0 ls []) := by
  intro x1 H locs ls hf hP hS hl
  unfold qf_X3_named at hf
  refine lv_iload_n F.1 F.2.1 dX3_named_0 rfl (lv_at hl 1 rfl) ?_
  refine lv_if_lt (tgt := 27) F.1 F.2.1 dX3_named_1 (by decide) (fun c1 => ?_) (fun c1 => ?_)
  · replace hf := qi_t c1 hf
    refine lv_iconst (v := (-1 : Int32)) F.1 F.2.1 dX3_named_27 (by decide) ?_
    have e9 := qs1 hf
    subst e9
    exact hQ _ _ _ _ hP hS rfl dX3_named_28
  · replace hf := qi_f c1 hf
    refine lv_iload_n F.1 F.2.1 dX3_named_4 rfl (lv_at hl 1 rfl) ?_
    refine lv_aload_n F.1 F.2.1 dX3_named_5 rfl (lv_at hl 0 rfl) ?_
    refine qr_gMr F G hv (fun w h => F.2.2.2.2 w (List.mem_cons_of_mem _ (List.mem_append_right _ h))) hP 0 1 (by decide) (List.mem_of_getElem? (i := 1) rfl) dX3_named_6 ?_
    refine lv_iconst (v := (nI 2)) F.1 F.2.1 dX3_named_9 (by decide) ?_
    obtain ⟨z2, ez2, hf⟩ := qn_x hf
    refine qr_ald F G hP (qw_u1s _ _ _) (qw_I9 (c := 1) (n := 935) hv (by decide)) (by unfold vp_in; decide) (by decide) ez2 dX3_named_10 ?_
    refine lv_icmp_ge (tgt := 27) F.1 F.2.1 dX3_named_11 (by decide) (fun c3 => ?_) (fun c3 => ?_)
    · replace hf := qi_t c3 hf
      refine lv_iconst (v := (-1 : Int32)) F.1 F.2.1 dX3_named_27 (by decide) ?_
      have e9 := qs1 hf
      subst e9
      exact hQ _ _ _ _ hP hS rfl dX3_named_28
    · replace hf := qi_f c3 hf
      refine lv_aload_n F.1 F.2.1 dX3_named_14 rfl (lv_at hl 0 rfl) ?_
      refine qr_gMr F G hv (fun w h => F.2.2.2.2 w (List.mem_cons_of_mem _ (List.mem_append_right _ h))) hP 0 1 (by decide) (List.mem_of_getElem? (i := 1) rfl) dX3_named_15 ?_
      refine lv_sipush (v := (nI 735)) F.1 F.2.1 dX3_named_18 (by decide) ?_
      refine lv_iload_n F.1 F.2.1 dX3_named_21 rfl (lv_at hl 1 rfl) ?_
      obtain ⟨z4, ez4, hf⟩ := qn_x hf
      refine qr_iadd F ez4 dX3_named_22 ?_
      obtain ⟨g6, hf⟩ := qg_x hf
      obtain ⟨z5, ez5, hf⟩ := qn_x hf
      refine qr_ald F G hP (qw_u1s _ _ _) (qw_I9 (c := 1) (n := 935) hv (by decide)) g6 rfl ez5 dX3_named_23 ?_
      refine lv_goto (tgt := 28) F.1 F.2.1 dX3_named_24 (by decide) ?_
      have e9 := qs1 hf
      subst e9
      exact hQ _ _ _ _ hP hS rfl dX3_named_28
set_option maxRecDepth 100000 in
set_option maxHeartbeats 4000000 in
theorem qc_X3_named (l : Launch) {L : wL} (hJ : qw_J L) {X : wM} {h : Nat → Nat} {m : wm} (hX : X 9 = m) {x1 : Int32} {r : Int32} (hv : qw_9 L) (hf : qf_X3_named x1 m = some r) : qw_MI l yX3_named wsX3_named rm_X3_named L (.ref (qw_ad L 9 0) :: [.int x1]) X h r X h := by
  subst hX
  refine qw_MI_of (cc := cX3_named) (maxL := 2) (ty := .int) (by decide) rfl hJ (Nat.le_of_ble_eq_true rfl) ?_
  intro p e s mi below meth co Q ls F G hP hQ hl
  exact qb_X3_named F G hv (by rw [qw_u1i]; exact hQ) _ _ _ _ hf (by rw [qw_u1i]; exact hP) va_S.rf hl
def rm_X3_worst : Room := { frames := 0, cells := 0, slots := 0, locals := 0 }
theorem e_X3_worst : qw_hd yX3_worst RX3 0 := by decide +kernel
set_option maxRecDepth 100000 in
set_option maxHeartbeats 4000000 in
theorem qb_X3_worst_7 {p : Program} {l : Launch} {e : Env} {s : State} {mi : MethodId} {args : Array Value} {below : List Frame} {meth : Method} {co : Code} {Q : State → Prop} {L : wL} {M : wM} {h : Nat → Nat} {r : Int32} {m : wm} (F : CallFix p mi co cX3_worst 4 s args wsX3_worst RX3) (G : qw_G L (qw_A L) s) (hv : qw_9 L) (hQ : qw_RI p l e rm_X3_worst s mi args below meth co cX3_worst .int Q L r (qw_u1 M 9 m) h) : ∀ (n : Nat) (x1 : Int32) (x2 : Int32) (x3 : Int32) (H : Heap) (locs : List Loc) (ls : Array Slot), qf_X3_worst_7 n x1 x2 x3 m = some r → qw_P L (qw_u1 M 9 m) h H → va_S (qw_A L) s.heap H locs → lv_has ls 4 [(0, .ref (qw_ad L 9 0)), (1, .int x1), (2, .int x2), (3, .int x3)] → W p l e rm_X3_worst s mi args below meth co H locs 0 0 Q (F0 mi 7 ls []) := by
  intro n
  induction n with
  | zero =>
    intro x1 x2 x3 H locs ls hf hP hS hl
    rw [qf_X3_worst_7] at hf
    cases hf
  | succ n ih =>
    intro x1 x2 x3 H locs ls hf hP hS hl
    rw [qf_X3_worst_7] at hf
    refine lv_iload_n F.1 F.2.1 dX3_worst_7 rfl (lv_at hl 3 rfl) ?_
    refine lv_aload_n F.1 F.2.1 dX3_worst_8 rfl (lv_at hl 0 rfl) ?_
    refine qr_gMr F G hv (fun w h => F.2.2.2.2 w (List.mem_cons_of_mem _ (List.mem_append_right _ h))) hP 0 1 (by decide) (List.mem_of_getElem? (i := 1) rfl) dX3_worst_9 ?_
    refine lv_iconst (v := (nI 2)) F.1 F.2.1 dX3_worst_12 (by decide) ?_
    obtain ⟨z1, ez1, hf⟩ := qn_x hf
    refine qr_ald F G hP (qw_u1s _ _ _) (qw_I9 (c := 1) (n := 935) hv (by decide)) (by unfold vp_in; decide) (by decide) ez1 dX3_worst_13 ?_
    refine lv_icmp_ge (tgt := 72) F.1 F.2.1 dX3_worst_14 (by decide) (fun c2 => ?_) (fun c2 => ?_)
    · replace hf := qi_t c2 hf
      refine lv_iload_n F.1 F.2.1 dX3_worst_72 rfl (lv_at hl 1 rfl) ?_
      have e9 := qs1 hf
      subst e9
      exact hQ _ _ _ _ hP hS rfl dX3_worst_73
    · replace hf := qi_f c2 hf
      refine lv_aload_n F.1 F.2.1 dX3_worst_17 rfl (lv_at hl 0 rfl) ?_
      refine qr_gMr F G hv (fun w h => F.2.2.2.2 w (List.mem_cons_of_mem _ (List.mem_append_right _ h))) hP 0 1 (by decide) (List.mem_of_getElem? (i := 1) rfl) dX3_worst_18 ?_
      refine lv_sipush (v := (nI 735)) F.1 F.2.1 dX3_worst_21 (by decide) ?_
      refine lv_iload_n F.1 F.2.1 dX3_worst_24 rfl (lv_at hl 3 rfl) ?_
      obtain ⟨z3, ez3, hf⟩ := qn_x hf
      refine qr_iadd F ez3 dX3_worst_25 ?_
      obtain ⟨g5, hf⟩ := qg_x hf
      obtain ⟨z4, ez4, hf⟩ := qn_x hf
      refine qr_ald F G hP (qw_u1s _ _ _) (qw_I9 (c := 1) (n := 935) hv (by decide)) g5 rfl ez4 dX3_worst_26 ?_
      refine lv_iload_n F.1 F.2.1 dX3_worst_27 rfl (lv_at hl 2 rfl) ?_
      refine lv_icmp_le (tgt := 35) F.1 F.2.1 dX3_worst_28 (by decide) (fun c6 => ?_) (fun c6 => ?_)
      · replace hf := qi_t c6 hf
        refine lv_iload_n F.1 F.2.1 dX3_worst_35 rfl (lv_at hl 1 rfl) ?_
        refine lv_istore_n (lv' := [(1, .int x1), (0, .ref (qw_ad L 9 0)), (2, .int x2), (3, .int x3)]) F.1 F.2.1 dX3_worst_36 rfl hl (by decide) rfl (fun ls hl => ?_)
        refine lv_aload_n F.1 F.2.1 dX3_worst_37 rfl (lv_at hl 1 rfl) ?_
        refine qr_gMr F G hv (fun w h => F.2.2.2.2 w (List.mem_cons_of_mem _ (List.mem_append_right _ h))) hP 0 1 (by decide) (List.mem_of_getElem? (i := 1) rfl) dX3_worst_38 ?_
        refine lv_sipush (v := (nI 735)) F.1 F.2.1 dX3_worst_41 (by decide) ?_
        refine lv_iload_n F.1 F.2.1 dX3_worst_44 rfl (lv_at hl 3 rfl) ?_
        obtain ⟨z7, ez7, hf⟩ := qn_x hf
        refine qr_iadd F ez7 dX3_worst_45 ?_
        obtain ⟨g9, hf⟩ := qg_x hf
        obtain ⟨z8, ez8, hf⟩ := qn_x hf
        refine qr_ald F G hP (qw_u1s _ _ _) (qw_I9 (c := 1) (n := 935) hv (by decide)) g9 rfl ez8 dX3_worst_46 ?_
        refine lv_iload_n F.1 F.2.1 dX3_worst_47 rfl (lv_at hl 2 rfl) ?_
        refine lv_icmp_le (tgt := 64) F.1 F.2.1 dX3_worst_48 (by decide) (fun c10 => ?_) (fun c10 => ?_)
        · replace hf := qi_t c10 hf
          refine lv_iload_n F.1 F.2.1 dX3_worst_64 rfl (lv_at hl 2 rfl) ?_
          refine lv_istore_n (lv' := [(2, .int x2), (1, .int x1), (0, .ref (qw_ad L 9 0)), (3, .int x3)]) F.1 F.2.1 dX3_worst_65 rfl hl (by decide) rfl (fun ls hl => ?_)
          obtain ⟨z11, ez11, hf⟩ := qn_x hf
          refine lv_iinc (v := z11) (lv' := [(3, .int z11), (2, .int x2), (1, .int x1), (0, .ref (qw_ad L 9 0))]) F.1 F.2.1 dX3_worst_66 hl (k := 3) rfl ((qw_ii1 _).trans ez11.symm) (by decide) rfl (fun ls hl => ?_)
          refine lv_goto (tgt := 7) F.1 F.2.1 dX3_worst_69 (by decide) ?_
          exact ih _ _ _ _ _ _ hf hP hS (lv_sub hl [3, 2, 1, 0] rfl)
        · replace hf := qi_f c10 hf
          refine lv_aload_n F.1 F.2.1 dX3_worst_51 rfl (lv_at hl 1 rfl) ?_
          refine qr_gMr F G hv (fun w h => F.2.2.2.2 w (List.mem_cons_of_mem _ (List.mem_append_right _ h))) hP 0 1 (by decide) (List.mem_of_getElem? (i := 1) rfl) dX3_worst_52 ?_
          refine lv_sipush (v := (nI 735)) F.1 F.2.1 dX3_worst_55 (by decide) ?_
          refine lv_iload_n F.1 F.2.1 dX3_worst_58 rfl (lv_at hl 3 rfl) ?_
          obtain ⟨z12, ez12, hf⟩ := qn_x hf
          refine qr_iadd F ez12 dX3_worst_59 ?_
          obtain ⟨g14, hf⟩ := qg_x hf
          obtain ⟨z13, ez13, hf⟩ := qn_x hf
          refine qr_ald F G hP (qw_u1s _ _ _) (qw_I9 (c := 1) (n := 935) hv (by decide)) g14 rfl ez13 dX3_worst_60 ?_
          refine lv_goto (tgt := 65) F.1 F.2.1 dX3_worst_61 (by decide) ?_
          refine lv_istore_n (lv' := [(2, .int z13), (1, .int x1), (0, .ref (qw_ad L 9 0)), (3, .int x3)]) F.1 F.2.1 dX3_worst_65 rfl hl (by decide) rfl (fun ls hl => ?_)
          obtain ⟨z15, ez15, hf⟩ := qn_x hf
          refine lv_iinc (v := z15) (lv' := [(3, .int z15), (2, .int z13), (1, .int x1), (0, .ref (qw_ad L 9 0))]) F.1 F.2.1 dX3_worst_66 hl (k := 3) rfl ((qw_ii1 _).trans ez15.symm) (by decide) rfl (fun ls hl => ?_)
          refine lv_goto (tgt := 7) F.1 F.2.1 dX3_worst_69 (by decide) ?_
          exact ih _ _ _ _ _ _ hf hP hS (lv_sub hl [3, 2, 1, 0] rfl)
      · replace hf := qi_f c6 hf
        refine lv_iload_n F.1 F.2.1 dX3_worst_31 rfl (lv_at hl 3 rfl) ?_
        refine lv_goto (tgt := 36) F.1 F.2.1 dX3_worst_32 (by decide) ?_
        refine lv_istore_n (lv' := [(1, .int x3), (0, .ref (qw_ad L 9 0)), (2, .int x2), (3, .int x3)]) F.1 F.2.1 dX3_worst_36 rfl hl (by decide) rfl (fun ls hl => ?_)
        refine lv_aload_n F.1 F.2.1 dX3_worst_37 rfl (lv_at hl 1 rfl) ?_
        refine qr_gMr F G hv (fun w h => F.2.2.2.2 w (List.mem_cons_of_mem _ (List.mem_append_right _ h))) hP 0 1 (by decide) (List.mem_of_getElem? (i := 1) rfl) dX3_worst_38 ?_
        refine lv_sipush (v := (nI 735)) F.1 F.2.1 dX3_worst_41 (by decide) ?_
        refine lv_iload_n F.1 F.2.1 dX3_worst_44 rfl (lv_at hl 3 rfl) ?_
        obtain ⟨z16, ez16, hf⟩ := qn_x hf
        refine qr_iadd F ez16 dX3_worst_45 ?_
        obtain ⟨g18, hf⟩ := qg_x hf
        obtain ⟨z17, ez17, hf⟩ := qn_x hf
        refine qr_ald F G hP (qw_u1s _ _ _) (qw_I9 (c := 1) (n := 935) hv (by decide)) g18 rfl ez17 dX3_worst_46 ?_
        refine lv_iload_n F.1 F.2.1 dX3_worst_47 rfl (lv_at hl 2 rfl) ?_
        refine lv_icmp_le (tgt := 64) F.1 F.2.1 dX3_worst_48 (by decide) (fun c19 => ?_) (fun c19 => ?_)
        · replace hf := qi_t c19 hf
          refine lv_iload_n F.1 F.2.1 dX3_worst_64 rfl (lv_at hl 2 rfl) ?_
          refine lv_istore_n (lv' := [(2, .int x2), (1, .int x3), (0, .ref (qw_ad L 9 0)), (3, .int x3)]) F.1 F.2.1 dX3_worst_65 rfl hl (by decide) rfl (fun ls hl => ?_)
          obtain ⟨z20, ez20, hf⟩ := qn_x hf
          refine lv_iinc (v := z20) (lv' := [(3, .int z20), (2, .int x2), (1, .int x3), (0, .ref (qw_ad L 9 0))]) F.1 F.2.1 dX3_worst_66 hl (k := 3) rfl ((qw_ii1 _).trans ez20.symm) (by decide) rfl (fun ls hl => ?_)
          refine lv_goto (tgt := 7) F.1 F.2.1 dX3_worst_69 (by decide) ?_
          exact ih _ _ _ _ _ _ hf hP hS (lv_sub hl [3, 2, 1, 0] rfl)
        · replace hf := qi_f c19 hf
          refine lv_aload_n F.1 F.2.1 dX3_worst_51 rfl (lv_at hl 1 rfl) ?_
          refine qr_gMr F G hv (fun w h => F.2.2.2.2 w (List.mem_cons_of_mem _ (List.mem_append_right _ h))) hP 0 1 (by decide) (List.mem_of_getElem? (i := 1) rfl) dX3_worst_52 ?_
          refine lv_sipush (v := (nI 735)) F.1 F.2.1 dX3_worst_55 (by decide) ?_
          refine lv_iload_n F.1 F.2.1 dX3_worst_58 rfl (lv_at hl 3 rfl) ?_
          obtain ⟨z21, ez21, hf⟩ := qn_x hf
          refine qr_iadd F ez21 dX3_worst_59 ?_
          obtain ⟨g23, hf⟩ := qg_x hf
          obtain ⟨z22, ez22, hf⟩ := qn_x hf
          refine qr_ald F G hP (qw_u1s _ _ _) (qw_I9 (c := 1) (n := 935) hv (by decide)) g23 rfl ez22 dX3_worst_60 ?_
          refine lv_goto (tgt := 65) F.1 F.2.1 dX3_worst_61 (by decide) ?_
          refine lv_istore_n (lv' := [(2, .int z22), (1, .int x3), (0, .ref (qw_ad L 9 0)), (3, .int x3)]) F.1 F.2.1 dX3_worst_65 rfl hl (by decide) rfl (fun ls hl => ?_)
          obtain ⟨z24, ez24, hf⟩ := qn_x hf
          refine lv_iinc (v := z24) (lv' := [(3, .int z24), (2, .int z22), (1, .int x3), (0, .ref (qw_ad L 9 0))]) F.1 F.2.1 dX3_worst_66 hl (k := 3) rfl ((qw_ii1 _).trans ez24.symm) (by decide) rfl (fun ls hl => ?_)
          refine lv_goto (tgt := 7) F.1 F.2.1 dX3_worst_69 (by decide) ?_
          exact ih _ _ _ _ _ _ hf hP hS (lv_sub hl [3, 2, 1, 0] rfl)
set_option maxRecDepth 100000 in
set_option maxHeartbeats 4000000 in
theorem qb_X3_worst {p : Program} {l : Launch} {e : Env} {s : State} {mi : MethodId} {args : Array Value} {below : List Frame} {meth : Method} {co : Code} {Q : State → Prop} {L : wL} {M : wM} {h : Nat → Nat} {r : Int32} {m : wm} (F : CallFix p mi co cX3_worst 4 s args wsX3_worst RX3) (G : qw_G L (qw_A L) s) (hv : qw_9 L) (hQ : qw_RI p l e rm_X3_worst s mi args below meth co cX3_worst .int Q L r (qw_u1 M 9 m) h) : ∀ (H : Heap) (locs : List Loc) (ls : Array Slot), qf_X3_worst m = some r → qw_P L (qw_u1 M 9 m) h H → va_S (qw_A L) s.heap H locs → lv_has ls 4 [(0, .ref (qw_ad L 9 0))] → W p l e rm_X3_worst s mi args below meth co H locs 0 0 Q (F0 mi 0 ls []) := by
  intro  H locs ls hf hP hS hl
  unfold qf_X3_worst at hf
  refine lv_bipush (v := (-9 : Int32)) F.1 F.2.1 dX3_worst_0 (by decide) ?_
  refine lv_istore_n (lv' := [(1, .int (-9 : Int32)), (0, .ref (qw_ad L 9 0))]) F.1 F.2.1 dX3_worst_2 rfl hl (by decide) rfl (fun ls hl => ?_)
  refine lv_iconst (v := (nI 0)) F.1 F.2.1 dX3_worst_3 (by decide) ?_
  refine lv_istore_n (lv' := [(2, .int (nI 0)), (1, .int (-9 : Int32)), (0, .ref (qw_ad L 9 0))]) F.1 F.2.1 dX3_worst_4 rfl hl (by decide) rfl (fun ls hl => ?_)
  refine lv_iconst (v := (nI 0)) F.1 F.2.1 dX3_worst_5 (by decide) ?_
  refine lv_istore_n (lv' := [(3, .int (nI 0)), (2, .int (nI 0)), (1, .int (-9 : Int32)), (0, .ref (qw_ad L 9 0))]) F.1 F.2.1 dX3_worst_6 rfl hl (by decide) rfl (fun ls hl => ?_)
  exact qb_X3_worst_7 F G hv hQ _ _ _ _ _ _ _ hf hP hS (lv_sub hl [3, 2, 1, 0] rfl)
set_option maxRecDepth 100000 in
set_option maxHeartbeats 4000000 in
theorem qc_X3_worst (l : Launch) {L : wL} (hJ : qw_J L) {X : wM} {h : Nat → Nat} {m : wm} (hX : X 9 = m) {r : Int32} (hv : qw_9 L) (hf : qf_X3_worst m = some r) : qw_MI l yX3_worst wsX3_worst rm_X3_worst L (.ref (qw_ad L 9 0) :: []) X h r X h := by
  subst hX
  refine qw_MI_of (cc := cX3_worst) (maxL := 4) (ty := .int) (by decide) rfl hJ (Nat.le_of_ble_eq_true rfl) ?_
  intro p e s mi below meth co Q ls F G hP hQ hl
  exact qb_X3_worst F G hv (by rw [qw_u1i]; exact hQ) _ _ _ hf (by rw [qw_u1i]; exact hP) va_S.rf hl
def rm_X3_ahead : Room := { frames := 1, cells := 0, slots := 0, locals := 22 }
theorem e_X3_ahead : qw_hd yX3_ahead RX3 2 := by decide +kernel
set_option maxRecDepth 100000 in
set_option maxHeartbeats 4000000 in
theorem qb_X3_ahead_102 {p : Program} {l : Launch} {e : Env} {s : State} {mi : MethodId} {args : Array Value} {below : List Frame} {meth : Method} {co : Code} {Q : State → Prop} {L : wL} {M : wM} {h : Nat → Nat} {r : Int32} {m : wm} (F : CallFix p mi co cX3_ahead 5 s args wsX3_ahead RX3) (G : qw_G L (qw_A L) s) (hv : qw_9 L) (hQ : qw_RI p l e rm_X3_ahead s mi args below meth co cX3_ahead .int Q L r (qw_u1 M 9 m) h) : ∀ (x1 : Int32) (x2 : Int32) (x3 : Int32) (H : Heap) (locs : List Loc) (ls : Array Slot), qf_X3_ahead_102 x1 x2 x3 m = some r → qw_P L (qw_u1 M 9 m) h H → va_S (qw_A L) s.heap H locs → lv_has ls 5 [(1, .int x1), (2, .int x2), (3, .int x3)] → W p l e rm_X3_ahead s mi args below meth co H locs 0 0 Q (F0 mi 102 ls []) := by
  intro x1 x2 x3 H locs ls hf hP hS hl
  unfold qf_X3_ahead_102 at hf
  refine lv_iload_n F.1 F.2.1 dX3_ahead_102 rfl (lv_at hl 1 rfl) ?_
  refine lv_if_ne (tgt := 110) F.1 F.2.1 dX3_ahead_103 (by decide) (fun c1 => ?_) (fun c1 => ?_)
  · replace hf := qi_f c1 hf
    refine lv_iload_n F.1 F.2.1 dX3_ahead_110 rfl (lv_at hl 0 rfl) ?_
    refine lv_iload_n F.1 F.2.1 dX3_ahead_111 rfl (lv_at hl 2 rfl) ?_
    obtain ⟨z2, ez2, hf⟩ := qn_x hf
    refine qr_isub F ez2 dX3_ahead_112 ?_
    have e9 := qs1 hf
    subst e9
    exact hQ _ _ _ _ hP hS rfl dX3_ahead_113
  · replace hf := qi_t c1 hf
    refine lv_iload_n F.1 F.2.1 dX3_ahead_106 rfl (lv_at hl 2 rfl) ?_
    refine lv_goto (tgt := 113) F.1 F.2.1 dX3_ahead_107 (by decide) ?_
    have e9 := qs1 hf
    subst e9
    exact hQ _ _ _ _ hP hS rfl dX3_ahead_113
set_option maxRecDepth 100000 in
set_option maxHeartbeats 4000000 in
theorem qb_X3_ahead_39 {p : Program} {l : Launch} {e : Env} {s : State} {mi : MethodId} {args : Array Value} {below : List Frame} {meth : Method} {co : Code} {Q : State → Prop} {L : wL} {M : wM} {h : Nat → Nat} {r : Int32} {m : wm} (F : CallFix p mi co cX3_ahead 5 s args wsX3_ahead RX3) (G : qw_G L (qw_A L) s) (hv : qw_9 L) (hQ : qw_RI p l e rm_X3_ahead s mi args below meth co cX3_ahead .int Q L r (qw_u1 M 9 m) h) : ∀ (n : Nat) (x1 : Int32) (x2 : Int32) (x3 : Int32) (x4 : Int32) (H : Heap) (locs : List Loc) (ls : Array Slot), qf_X3_ahead_39 n x1 x2 x3 x4 m = some r → qw_P L (qw_u1 M 9 m) h H → va_S (qw_A L) s.heap H locs → lv_has ls 5 [(0, .ref (qw_ad L 9 0)), (1, .int x1), (2, .int x2), (3, .int x3), (4, .int x4)] → W p l e rm_X3_ahead s mi args below meth co H locs 0 0 Q (F0 mi 39 ls []) := by
  intro n
  induction n with
  | zero =>
    intro x1 x2 x3 x4 H locs ls hf hP hS hl
    rw [qf_X3_ahead_39] at hf
    cases hf
  | succ n ih =>
    intro x1 x2 x3 x4 H locs ls hf hP hS hl
    rw [qf_X3_ahead_39] at hf
    refine lv_iload F.1 F.2.1 dX3_ahead_39 (lv_at hl 4 rfl) ?_
    refine lv_iload_n F.1 F.2.1 dX3_ahead_41 rfl (lv_at hl 1 rfl) ?_
    refine lv_icmp_ge (tgt := 102) F.1 F.2.1 dX3_ahead_42 (by decide) (fun c1 => ?_) (fun c1 => ?_)
    · replace hf := qi_t c1 hf
      exact qb_X3_ahead_102 F G hv hQ _ _ _ _ _ _ hf hP hS (lv_sub hl [1, 2, 3] rfl)
    · replace hf := qi_f c1 hf
      refine lv_iload_n F.1 F.2.1 dX3_ahead_45 rfl (lv_at hl 3 rfl) ?_
      refine lv_aload_n F.1 F.2.1 dX3_ahead_46 rfl (lv_at hl 0 rfl) ?_
      refine lv_aload_n F.1 F.2.1 dX3_ahead_47 rfl (lv_at hl 0 rfl) ?_
      refine qr_gMr F G hv (fun w h => F.2.2.2.2 w (List.mem_cons_of_mem _ (List.mem_append_right _ h))) hP 0 1 (by decide) (List.mem_of_getElem? (i := 1) rfl) dX3_ahead_48 ?_
      refine lv_bipush (v := (nI 12)) F.1 F.2.1 dX3_ahead_51 (by decide) ?_
      obtain ⟨z2, ez2, hf⟩ := qn_x hf
      refine qr_ald F G hP (qw_u1s _ _ _) (qw_I9 (c := 1) (n := 935) hv (by decide)) (by unfold vp_in; decide) (by decide) ez2 dX3_ahead_53 ?_
      refine lv_iload F.1 F.2.1 dX3_ahead_54 (lv_at hl 4 rfl) ?_
      refine lv_aload_n F.1 F.2.1 dX3_ahead_56 rfl (lv_at hl 0 rfl) ?_
      refine qr_gMr F G hv (fun w h => F.2.2.2.2 w (List.mem_cons_of_mem _ (List.mem_append_right _ h))) hP 0 1 (by decide) (List.mem_of_getElem? (i := 1) rfl) dX3_ahead_57 ?_
      refine lv_bipush (v := (nI 11)) F.1 F.2.1 dX3_ahead_60 (by decide) ?_
      obtain ⟨z3, ez3, hf⟩ := qn_x hf
      refine qr_ald F G hP (qw_u1s _ _ _) (qw_I9 (c := 1) (n := 935) hv (by decide)) (by unfold vp_in; decide) (by decide) ez3 dX3_ahead_62 ?_
      obtain ⟨r4, k5, hf⟩ := qb1_x hf
      refine qr_cSi F G hP hS (qc_X3_back l G.2.1 k5) gX3_ahead_X3_back rfl ⟨rfl, rfl⟩ e_X3_back ⟨Nat.le_of_ble_eq_true rfl, Nat.le_of_ble_eq_true rfl⟩ rfl hl.1 rfl (Nat.le_of_ble_eq_true rfl) ⟨Nat.zero_le _, Nat.zero_le _⟩ dX3_ahead_63 (fun H locs hP hS => ?_)
      refine lv_iconst (v := (nI 1)) F.1 F.2.1 dX3_ahead_66 (by decide) ?_
      obtain ⟨r6, k7, hf⟩ := qb1_x hf
      refine qr_cVi F G hP hS (qc_X3_ofSlot l G.2.1 (qw_u1s _ _ _) hv k7) (qw_rcM hv) gX3_ahead_X3_ofSlot rfl ⟨rfl, rfl⟩ e_X3_ofSlot ⟨Nat.le_of_ble_eq_true rfl, Nat.le_of_ble_eq_true rfl⟩ rfl hl.1 rfl (Nat.le_of_ble_eq_true rfl) ⟨Nat.zero_le _, Nat.zero_le _⟩ dX3_ahead_67 (fun H locs hP hS => ?_)
      refine lv_aload_n F.1 F.2.1 dX3_ahead_70 rfl (lv_at hl 0 rfl) ?_
      refine lv_aload_n F.1 F.2.1 dX3_ahead_71 rfl (lv_at hl 0 rfl) ?_
      refine qr_gMr F G hv (fun w h => F.2.2.2.2 w (List.mem_cons_of_mem _ (List.mem_append_right _ h))) hP 0 1 (by decide) (List.mem_of_getElem? (i := 1) rfl) dX3_ahead_72 ?_
      refine lv_iconst (v := (nI 0)) F.1 F.2.1 dX3_ahead_75 (by decide) ?_
      obtain ⟨z8, ez8, hf⟩ := qn_x hf
      refine qr_ald F G hP (qw_u1s _ _ _) (qw_I9 (c := 1) (n := 935) hv (by decide)) (by unfold vp_in; decide) (by decide) ez8 dX3_ahead_76 ?_
      refine lv_iconst (v := (nI 1)) F.1 F.2.1 dX3_ahead_77 (by decide) ?_
      obtain ⟨z9, ez9, hf⟩ := qn_x hf
      refine qr_isub F ez9 dX3_ahead_78 ?_
      refine lv_iload F.1 F.2.1 dX3_ahead_79 (lv_at hl 4 rfl) ?_
      obtain ⟨z10, ez10, hf⟩ := qn_x hf
      refine qr_isub F ez10 dX3_ahead_81 ?_
      refine lv_iconst (v := (nI 2)) F.1 F.2.1 dX3_ahead_82 (by decide) ?_
      obtain ⟨r11, k12, hf⟩ := qb1_x hf
      refine qr_cVi F G hP hS (qc_X3_ofFrame l G.2.1 (qw_u1s _ _ _) hv k12) (qw_rcM hv) gX3_ahead_X3_ofFrame rfl ⟨rfl, rfl⟩ e_X3_ofFrame ⟨Nat.le_of_ble_eq_true rfl, Nat.le_of_ble_eq_true rfl⟩ rfl hl.1 rfl (Nat.le_of_ble_eq_true rfl) ⟨Nat.zero_le _, Nat.zero_le _⟩ dX3_ahead_83 (fun H locs hP hS => ?_)
      refine lv_icmp_ne (tgt := 93) F.1 F.2.1 dX3_ahead_86 (by decide) (fun c13 => ?_) (fun c13 => ?_)
      · replace hf := qi_f c13 hf
        refine lv_iconst (v := (nI 0)) F.1 F.2.1 dX3_ahead_93 (by decide) ?_
        obtain ⟨z14, ez14, hf⟩ := qn_x hf
        refine qr_iadd F ez14 dX3_ahead_94 ?_
        refine lv_istore_n (lv' := [(3, .int z14), (0, .ref (qw_ad L 9 0)), (1, .int x1), (2, .int x2), (4, .int x4)]) F.1 F.2.1 dX3_ahead_95 rfl hl (by decide) rfl (fun ls hl => ?_)
        obtain ⟨z15, ez15, hf⟩ := qn_x hf
        refine lv_iinc (v := z15) (lv' := [(4, .int z15), (3, .int z14), (0, .ref (qw_ad L 9 0)), (1, .int x1), (2, .int x2)]) F.1 F.2.1 dX3_ahead_96 hl (k := 4) rfl ((qw_ii1 _).trans ez15.symm) (by decide) rfl (fun ls hl => ?_)
        refine lv_goto (tgt := 39) F.1 F.2.1 dX3_ahead_99 (by decide) ?_
        exact ih _ _ _ _ _ _ _ hf hP hS (lv_sub hl [2, 3, 4, 1, 0] rfl)
      · replace hf := qi_t c13 hf
        refine lv_iconst (v := (nI 1)) F.1 F.2.1 dX3_ahead_89 (by decide) ?_
        refine lv_goto (tgt := 94) F.1 F.2.1 dX3_ahead_90 (by decide) ?_
        obtain ⟨z16, ez16, hf⟩ := qn_x hf
        refine qr_iadd F ez16 dX3_ahead_94 ?_
        refine lv_istore_n (lv' := [(3, .int z16), (0, .ref (qw_ad L 9 0)), (1, .int x1), (2, .int x2), (4, .int x4)]) F.1 F.2.1 dX3_ahead_95 rfl hl (by decide) rfl (fun ls hl => ?_)
        obtain ⟨z17, ez17, hf⟩ := qn_x hf
        refine lv_iinc (v := z17) (lv' := [(4, .int z17), (3, .int z16), (0, .ref (qw_ad L 9 0)), (1, .int x1), (2, .int x2)]) F.1 F.2.1 dX3_ahead_96 hl (k := 4) rfl ((qw_ii1 _).trans ez17.symm) (by decide) rfl (fun ls hl => ?_)
        refine lv_goto (tgt := 39) F.1 F.2.1 dX3_ahead_99 (by decide) ?_
        exact ih _ _ _ _ _ _ _ hf hP hS (lv_sub hl [2, 3, 4, 1, 0] rfl)
set_option maxRecDepth 100000 in
set_option maxHeartbeats 4000000 in
theorem qb_X3_ahead {p : Program} {l : Launch} {e : Env} {s : State} {mi : MethodId} {args : Array Value} {below : List Frame} {meth : Method} {co : Code} {Q : State → Prop} {L : wL} {M : wM} {h : Nat → Nat} {r : Int32} {m : wm} (F : CallFix p mi co cX3_ahead 5 s args wsX3_ahead RX3) (G : qw_G L (qw_A L) s) (hv : qw_9 L) (hQ : qw_RI p l e rm_X3_ahead s mi args below meth co cX3_ahead .int Q L r (qw_u1 M 9 m) h) : ∀ (x1 : Int32) (x2 : Int32) (H : Heap) (locs : List Loc) (ls : Array Slot), qf_X3_ahead x1 x2 m = some r → qw_P L (qw_u1 M 9 m) h H → va_S (qw_A L) s.heap H locs → lv_has ls 5 [(0, .ref (qw_ad L 9 0)), (1, .int x1), (2, .int x2)] → W p l e rm_X3_ahead s mi args below meth co H locs 0 0 Q (F0 mi 0 ls []) := by
  intro x1 x2 H locs ls hf hP hS hl
  unfold qf_X3_ahead at hf
  refine lv_iload_n F.1 F.2.1 dX3_ahead_0 rfl (lv_at hl 1 rfl) ?_
  refine lv_iconst (v := (nI 1)) F.1 F.2.1 dX3_ahead_1 (by decide) ?_
  refine lv_bipush (v := (nI 40)) F.1 F.2.1 dX3_ahead_2 (by decide) ?_
  obtain ⟨r1, k2, hf⟩ := qb1_x hf
  refine qr_cSi F G hP hS (qc_X3_in l G.2.1 k2) gX3_ahead_X3_in rfl ⟨rfl, rfl⟩ e_X3_in ⟨Nat.le_of_ble_eq_true rfl, Nat.le_of_ble_eq_true rfl⟩ rfl hl.1 rfl (Nat.le_of_ble_eq_true rfl) ⟨Nat.zero_le _, Nat.zero_le _⟩ dX3_ahead_4 (fun H locs hP hS => ?_)
  refine lv_if_eq (tgt := 19) F.1 F.2.1 dX3_ahead_7 (by decide) (fun c3 => ?_) (fun c3 => ?_)
  · replace hf := qi_t c3 hf
    refine lv_iconst (v := (-1 : Int32)) F.1 F.2.1 dX3_ahead_19 (by decide) ?_
    have e9 := qs1 hf
    subst e9
    exact hQ _ _ _ _ hP hS rfl dX3_ahead_20
  · replace hf := qi_f c3 hf
    refine lv_iload_n F.1 F.2.1 dX3_ahead_10 rfl (lv_at hl 2 rfl) ?_
    refine lv_iconst (v := (nI 0)) F.1 F.2.1 dX3_ahead_11 (by decide) ?_
    refine lv_iconst (v := (nI 1)) F.1 F.2.1 dX3_ahead_12 (by decide) ?_
    obtain ⟨r4, k5, hf⟩ := qb1_x hf
    refine qr_cSi F G hP hS (qc_X3_in l G.2.1 k5) gX3_ahead_X3_in rfl ⟨rfl, rfl⟩ e_X3_in ⟨Nat.le_of_ble_eq_true rfl, Nat.le_of_ble_eq_true rfl⟩ rfl hl.1 rfl (Nat.le_of_ble_eq_true rfl) ⟨Nat.zero_le _, Nat.zero_le _⟩ dX3_ahead_13 (fun H locs hP hS => ?_)
    refine lv_if_ne (tgt := 21) F.1 F.2.1 dX3_ahead_16 (by decide) (fun c6 => ?_) (fun c6 => ?_)
    · replace hf := qi_f c6 hf
      refine lv_aload_n F.1 F.2.1 dX3_ahead_21 rfl (lv_at hl 0 rfl) ?_
      refine qr_gMr F G hv (fun w h => F.2.2.2.2 w (List.mem_cons_of_mem _ (List.mem_append_right _ h))) hP 0 1 (by decide) (List.mem_of_getElem? (i := 1) rfl) dX3_ahead_22 ?_
      refine lv_iconst (v := (nI 0)) F.1 F.2.1 dX3_ahead_25 (by decide) ?_
      obtain ⟨z7, ez7, hf⟩ := qn_x hf
      refine qr_ald F G hP (qw_u1s _ _ _) (qw_I9 (c := 1) (n := 935) hv (by decide)) (by unfold vp_in; decide) (by decide) ez7 dX3_ahead_26 ?_
      refine lv_iload_n F.1 F.2.1 dX3_ahead_27 rfl (lv_at hl 1 rfl) ?_
      refine lv_icmp_ge (tgt := 34) F.1 F.2.1 dX3_ahead_28 (by decide) (fun c8 => ?_) (fun c8 => ?_)
      · replace hf := qi_t c8 hf
        refine lv_iconst (v := (nI 0)) F.1 F.2.1 dX3_ahead_34 (by decide) ?_
        refine lv_istore_n (lv' := [(3, .int (nI 0)), (0, .ref (qw_ad L 9 0)), (1, .int x1), (2, .int x2)]) F.1 F.2.1 dX3_ahead_35 rfl hl (by decide) rfl (fun ls hl => ?_)
        refine lv_iconst (v := (nI 0)) F.1 F.2.1 dX3_ahead_36 (by decide) ?_
        refine lv_istore (lv' := [(4, .int (nI 0)), (3, .int (nI 0)), (0, .ref (qw_ad L 9 0)), (1, .int x1), (2, .int x2)]) F.1 F.2.1 dX3_ahead_37 hl (by decide) rfl (fun ls hl => ?_)
        exact qb_X3_ahead_39 F G hv hQ _ _ _ _ _ _ _ _ hf hP hS (lv_sub hl [2, 3, 4, 1, 0] rfl)
      · replace hf := qi_f c8 hf
        refine lv_bipush (v := (-2 : Int32)) F.1 F.2.1 dX3_ahead_31 (by decide) ?_
        have e9 := qs1 hf
        subst e9
        exact hQ _ _ _ _ hP hS rfl dX3_ahead_33
    · replace hf := qi_t c6 hf
      refine lv_iconst (v := (-1 : Int32)) F.1 F.2.1 dX3_ahead_19 (by decide) ?_
      have e9 := qs1 hf
      subst e9
      exact hQ _ _ _ _ hP hS rfl dX3_ahead_20
set_option maxRecDepth 100000 in
set_option maxHeartbeats 4000000 in
theorem qc_X3_ahead (l : Launch) {L : wL} (hJ : qw_J L) {X : wM} {h : Nat → Nat} {m : wm} (hX : X 9 = m) {x1 x2 : Int32} {r : Int32} (hv : qw_9 L) (hf : qf_X3_ahead x1 x2 m = some r) : qw_MI l yX3_ahead wsX3_ahead rm_X3_ahead L (.ref (qw_ad L 9 0) :: [.int x1, .int x2]) X h r X h := by
  subst hX
  refine qw_MI_of (cc := cX3_ahead) (maxL := 5) (ty := .int) (by decide) rfl hJ (Nat.le_of_ble_eq_true rfl) ?_
  intro p e s mi below meth co Q ls F G hP hQ hl
  exact qb_X3_ahead F G hv (by rw [qw_u1i]; exact hQ) _ _ _ _ _ hf (by rw [qw_u1i]; exact hP) va_S.rf hl
def rm_X3_misses : Room := { frames := 1, cells := 0, slots := 0, locals := 22 }
theorem e_X3_misses : qw_hd yX3_misses RX3 1 := by decide +kernel
set_option maxRecDepth 100000 in
set_option maxHeartbeats 4000000 in
theorem qb_X3_misses_34 {p : Program} {l : Launch} {e : Env} {s : State} {mi : MethodId} {args : Array Value} {below : List Frame} {meth : Method} {co : Code} {Q : State → Prop} {L : wL} {M : wM} {h : Nat → Nat} {r : Int32} {m9 : wm} (F : CallFix p mi co cX3_misses 8 s args wsX3_misses RX3) (G : qw_G L (qw_A L) s) (hv : qw_9 L) (hQ : qw_RI p l e rm_X3_misses s mi args below meth co cX3_misses .int Q L r (qw_u1 M 9 m9) h) : ∀ (n : Nat) (x1 : Int32) (x2 : Int32) (x3 : Int32) (x4 : Int32) (x5 : Int32) (m : wm) (H : Heap) (locs : List Loc) (ls : Array Slot), qf_X3_misses_34 n x1 x2 x3 x4 x5 m = some (r, m9) → qw_P L (qw_u1 M 9 m) h H → va_S (qw_A L) s.heap H locs → lv_has ls 8 [(0, .ref (qw_ad L 9 0)), (1, .int x1), (2, .int x2), (3, .int x3), (4, .int x4), (5, .int x5)] → W p l e rm_X3_misses s mi args below meth co H locs 0 0 Q (F0 mi 34 ls []) := by
  intro n
  induction n with
  | zero =>
    intro x1 x2 x3 x4 x5 m H locs ls hf hP hS hl
    rw [qf_X3_misses_34] at hf
    cases hf
  | succ n ih =>
    intro x1 x2 x3 x4 x5 m H locs ls hf hP hS hl
    rw [qf_X3_misses_34] at hf
    refine lv_iload F.1 F.2.1 dX3_misses_34 (lv_at hl 5 rfl) ?_
    refine lv_aload_n F.1 F.2.1 dX3_misses_36 rfl (lv_at hl 0 rfl) ?_
    refine qr_gMr F G hv (fun w h => F.2.2.2.2 w (List.mem_cons_of_mem _ (List.mem_append_right _ h))) hP 0 1 (by decide) (List.mem_of_getElem? (i := 2) rfl) dX3_misses_37 ?_
    refine lv_iconst (v := (nI 1)) F.1 F.2.1 dX3_misses_40 (by decide) ?_
    obtain ⟨z1, ez1, hf⟩ := qn_x hf
    refine qr_ald F G hP (qw_u1s _ _ _) (qw_I9 (c := 1) (n := 935) hv (by decide)) (by unfold vp_in; decide) (by decide) ez1 dX3_misses_41 ?_
    refine lv_icmp_ge (tgt := 194) F.1 F.2.1 dX3_misses_42 (by decide) (fun c2 => ?_) (fun c2 => ?_)
    · replace hf := qi_t c2 hf
      refine lv_iload F.1 F.2.1 dX3_misses_194 (lv_at hl 4 rfl) ?_
      obtain ⟨e9, e8⟩ := qs2 hf
      subst e9
      subst e8
      exact hQ _ _ _ _ hP hS rfl dX3_misses_196
    · replace hf := qi_f c2 hf
      refine lv_aload_n F.1 F.2.1 dX3_misses_45 rfl (lv_at hl 0 rfl) ?_
      refine qr_gMr F G hv (fun w h => F.2.2.2.2 w (List.mem_cons_of_mem _ (List.mem_append_right _ h))) hP 0 1 (by decide) (List.mem_of_getElem? (i := 2) rfl) dX3_misses_46 ?_
      refine lv_sipush (v := (nI 335)) F.1 F.2.1 dX3_misses_49 (by decide) ?_
      refine lv_iconst (v := (nI 2)) F.1 F.2.1 dX3_misses_52 (by decide) ?_
      refine lv_iload F.1 F.2.1 dX3_misses_53 (lv_at hl 5 rfl) ?_
      obtain ⟨z3, ez3, hf⟩ := qn_x hf
      refine qr_imul F ez3 dX3_misses_55 ?_
      obtain ⟨z4, ez4, hf⟩ := qn_x hf
      refine qr_iadd F ez4 dX3_misses_56 ?_
      obtain ⟨g6, hf⟩ := qg_x hf
      obtain ⟨z5, ez5, hf⟩ := qn_x hf
      refine qr_ald F G hP (qw_u1s _ _ _) (qw_I9 (c := 1) (n := 935) hv (by decide)) g6 rfl ez5 dX3_misses_57 ?_
      refine lv_istore (lv' := [(6, .int z5), (0, .ref (qw_ad L 9 0)), (1, .int x1), (2, .int x2), (3, .int x3), (4, .int x4), (5, .int x5)]) F.1 F.2.1 dX3_misses_58 hl (by decide) rfl (fun ls hl => ?_)
      refine lv_aload_n F.1 F.2.1 dX3_misses_60 rfl (lv_at hl 1 rfl) ?_
      refine qr_gMr F G hv (fun w h => F.2.2.2.2 w (List.mem_cons_of_mem _ (List.mem_append_right _ h))) hP 0 1 (by decide) (List.mem_of_getElem? (i := 2) rfl) dX3_misses_61 ?_
      refine lv_sipush (v := (nI 335)) F.1 F.2.1 dX3_misses_64 (by decide) ?_
      refine lv_iconst (v := (nI 2)) F.1 F.2.1 dX3_misses_67 (by decide) ?_
      refine lv_iload F.1 F.2.1 dX3_misses_68 (lv_at hl 6 rfl) ?_
      obtain ⟨z7, ez7, hf⟩ := qn_x hf
      refine qr_imul F ez7 dX3_misses_70 ?_
      obtain ⟨z8, ez8, hf⟩ := qn_x hf
      refine qr_iadd F ez8 dX3_misses_71 ?_
      refine lv_iconst (v := (nI 1)) F.1 F.2.1 dX3_misses_72 (by decide) ?_
      obtain ⟨z9, ez9, hf⟩ := qn_x hf
      refine qr_iadd F ez9 dX3_misses_73 ?_
      obtain ⟨g11, hf⟩ := qg_x hf
      obtain ⟨z10, ez10, hf⟩ := qn_x hf
      refine qr_ald F G hP (qw_u1s _ _ _) (qw_I9 (c := 1) (n := 935) hv (by decide)) g11 rfl ez10 dX3_misses_74 ?_
      refine lv_istore (lv' := [(7, .int z10), (6, .int z5), (0, .ref (qw_ad L 9 0)), (1, .int x1), (2, .int x2), (3, .int x3), (4, .int x4), (5, .int x5)]) F.1 F.2.1 dX3_misses_75 hl (by decide) rfl (fun ls hl => ?_)
      refine lv_iload F.1 F.2.1 dX3_misses_77 (lv_at hl 1 rfl) ?_
      refine lv_if_ne (tgt := 110) F.1 F.2.1 dX3_misses_79 (by decide) (fun c12 => ?_) (fun c12 => ?_)
      · replace hf := qi_f c12 hf
        refine lv_iload F.1 F.2.1 dX3_misses_110 (lv_at hl 1 rfl) ?_
        refine lv_iconst (v := (nI 2)) F.1 F.2.1 dX3_misses_112 (by decide) ?_
        refine lv_icmp_ne (tgt := 154) F.1 F.2.1 dX3_misses_113 (by decide) (fun c13 => ?_) (fun c13 => ?_)
        · replace hf := qi_f c13 hf
          refine lv_iload F.1 F.2.1 dX3_misses_154 (lv_at hl 1 rfl) ?_
          refine lv_iconst (v := (nI 3)) F.1 F.2.1 dX3_misses_156 (by decide) ?_
          refine lv_icmp_ne (tgt := 188) F.1 F.2.1 dX3_misses_157 (by decide) (fun c14 => ?_) (fun c14 => ?_)
          · replace hf := qi_f c14 hf
            obtain ⟨z15, ez15, hf⟩ := qn_x hf
            refine lv_iinc (v := z15) (lv' := [(5, .int z15), (7, .int z10), (6, .int z5), (0, .ref (qw_ad L 9 0)), (1, .int x1), (2, .int x2), (3, .int x3), (4, .int x4)]) F.1 F.2.1 dX3_misses_188 hl (k := 7) rfl ((qw_ii1 _).trans ez15.symm) (by decide) rfl (fun ls hl => ?_)
            refine lv_goto (tgt := 34) F.1 F.2.1 dX3_misses_191 (by decide) ?_
            exact ih _ _ _ _ _ _ _ _ _ hf hP hS (lv_sub hl [3, 4, 5, 6, 7, 0] rfl)
          · replace hf := qi_t c14 hf
            refine lv_iload_n F.1 F.2.1 dX3_misses_160 rfl (lv_at hl 5 rfl) ?_
            refine lv_iload F.1 F.2.1 dX3_misses_161 (lv_at hl 0 rfl) ?_
            obtain ⟨z16, ez16, hf⟩ := qn_x hf
            refine qr_isub F ez16 dX3_misses_163 ?_
            refine lv_istore_n (lv' := [(3, .int z16), (7, .int z10), (6, .int z5), (0, .ref (qw_ad L 9 0)), (1, .int x1), (2, .int x2), (4, .int x4), (5, .int x5)]) F.1 F.2.1 dX3_misses_164 rfl hl (by decide) rfl (fun ls hl => ?_)
            refine lv_aload_n F.1 F.2.1 dX3_misses_165 rfl (lv_at hl 3 rfl) ?_
            refine qr_gMr F G hv (fun w h => F.2.2.2.2 w (List.mem_cons_of_mem _ (List.mem_append_right _ h))) hP 0 1 (by decide) (List.mem_of_getElem? (i := 2) rfl) dX3_misses_166 ?_
            refine lv_bipush (v := (nI 14)) F.1 F.2.1 dX3_misses_169 (by decide) ?_
            obtain ⟨z17, ez17, hf⟩ := qn_x hf
            refine qr_ald F G hP (qw_u1s _ _ _) (qw_I9 (c := 1) (n := 935) hv (by decide)) (by unfold vp_in; decide) (by decide) ez17 dX3_misses_171 ?_
            refine lv_iconst (v := (nI 1)) F.1 F.2.1 dX3_misses_172 (by decide) ?_
            refine lv_icmp_ne (tgt := 186) F.1 F.2.1 dX3_misses_173 (by decide) (fun c18 => ?_) (fun c18 => ?_)
            · replace hf := qi_f c18 hf
              refine lv_iload_n F.1 F.2.1 dX3_misses_186 rfl (lv_at hl 5 rfl) ?_
              refine lv_istore_n (lv' := [(2, .int x2), (3, .int z16), (7, .int z10), (6, .int z5), (0, .ref (qw_ad L 9 0)), (1, .int x1), (4, .int x4), (5, .int x5)]) F.1 F.2.1 dX3_misses_187 rfl hl (by decide) rfl (fun ls hl => ?_)
              obtain ⟨z19, ez19, hf⟩ := qn_x hf
              refine lv_iinc (v := z19) (lv' := [(5, .int z19), (2, .int x2), (3, .int z16), (7, .int z10), (6, .int z5), (0, .ref (qw_ad L 9 0)), (1, .int x1), (4, .int x4)]) F.1 F.2.1 dX3_misses_188 hl (k := 7) rfl ((qw_ii1 _).trans ez19.symm) (by decide) rfl (fun ls hl => ?_)
              refine lv_goto (tgt := 34) F.1 F.2.1 dX3_misses_191 (by decide) ?_
              exact ih _ _ _ _ _ _ _ _ _ hf hP hS (lv_sub hl [5, 6, 1, 2, 7, 0] rfl)
            · replace hf := qi_t c18 hf
              refine lv_iload_n F.1 F.2.1 dX3_misses_176 rfl (lv_at hl 5 rfl) ?_
              refine lv_iload F.1 F.2.1 dX3_misses_177 (lv_at hl 1 rfl) ?_
              refine lv_iload_n F.1 F.2.1 dX3_misses_179 rfl (lv_at hl 4 rfl) ?_
              obtain ⟨r20, k21, hf⟩ := qb1_x hf
              refine qr_cSi F G hP hS (qc_X3_back l G.2.1 k21) gX3_misses_X3_back rfl ⟨rfl, rfl⟩ e_X3_back ⟨Nat.le_of_ble_eq_true rfl, Nat.le_of_ble_eq_true rfl⟩ rfl hl.1 rfl (Nat.le_of_ble_eq_true rfl) ⟨Nat.zero_le _, Nat.zero_le _⟩ dX3_misses_180 (fun H locs hP hS => ?_)
              refine lv_goto (tgt := 187) F.1 F.2.1 dX3_misses_183 (by decide) ?_
              refine lv_istore_n (lv' := [(2, .int r20), (3, .int z16), (7, .int z10), (6, .int z5), (0, .ref (qw_ad L 9 0)), (1, .int x1), (4, .int x4), (5, .int x5)]) F.1 F.2.1 dX3_misses_187 rfl hl (by decide) rfl (fun ls hl => ?_)
              obtain ⟨z22, ez22, hf⟩ := qn_x hf
              refine lv_iinc (v := z22) (lv' := [(5, .int z22), (2, .int r20), (3, .int z16), (7, .int z10), (6, .int z5), (0, .ref (qw_ad L 9 0)), (1, .int x1), (4, .int x4)]) F.1 F.2.1 dX3_misses_188 hl (k := 7) rfl ((qw_ii1 _).trans ez22.symm) (by decide) rfl (fun ls hl => ?_)
              refine lv_goto (tgt := 34) F.1 F.2.1 dX3_misses_191 (by decide) ?_
              exact ih _ _ _ _ _ _ _ _ _ hf hP hS (lv_sub hl [5, 6, 1, 2, 7, 0] rfl)
        · replace hf := qi_t c13 hf
          obtain ⟨z23, ez23, hf⟩ := qn_x hf
          refine lv_iinc (v := z23) (lv' := [(3, .int z23), (7, .int z10), (6, .int z5), (0, .ref (qw_ad L 9 0)), (1, .int x1), (2, .int x2), (4, .int x4), (5, .int x5)]) F.1 F.2.1 dX3_misses_116 hl (k := 5) rfl ((qw_iim _).trans ez23.symm) (by decide) rfl (fun ls hl => ?_)
          refine lv_iload F.1 F.2.1 dX3_misses_119 (lv_at hl 6 rfl) ?_
          refine lv_aload_n F.1 F.2.1 dX3_misses_121 rfl (lv_at hl 3 rfl) ?_
          refine qr_gMr F G hv (fun w h => F.2.2.2.2 w (List.mem_cons_of_mem _ (List.mem_append_right _ h))) hP 9 5 (by decide) (List.mem_of_getElem? (i := 1) rfl) dX3_misses_122 ?_
          refine lv_iload_n F.1 F.2.1 dX3_misses_125 rfl (lv_at hl 5 rfl) ?_
          obtain ⟨g25, hf⟩ := qg_x hf
          obtain ⟨z24, ez24, hf⟩ := qn_x hf
          refine qr_ald F G hP (qw_u1s _ _ _) (qw_I9 (c := 5) (n := 16) hv (by decide)) g25 rfl ez24 dX3_misses_126 ?_
          refine lv_aload_n F.1 F.2.1 dX3_misses_127 rfl (lv_at hl 3 rfl) ?_
          refine qr_gMr F G hv (fun w h => F.2.2.2.2 w (List.mem_cons_of_mem _ (List.mem_append_right _ h))) hP 10 6 (by decide) (List.mem_of_getElem? (i := 3) rfl) dX3_misses_128 ?_
          refine lv_iload_n F.1 F.2.1 dX3_misses_131 rfl (lv_at hl 0 rfl) ?_
          obtain ⟨g27, hf⟩ := qg_x hf
          obtain ⟨z26, ez26, hf⟩ := qn_x hf
          refine qr_ald F G hP (qw_u1s _ _ _) (qw_I9 (c := 6) (n := 40) hv (by decide)) g27 rfl ez26 dX3_misses_132 ?_
          refine lv_icmp_ne (tgt := 140) F.1 F.2.1 dX3_misses_133 (by decide) (fun c28 => ?_) (fun c28 => ?_)
          · replace hf := qi_f c28 hf
            refine lv_iconst (v := (nI 1)) F.1 F.2.1 dX3_misses_140 (by decide) ?_
            obtain ⟨z29, ez29, hf⟩ := qn_x hf
            refine qr_iadd F ez29 dX3_misses_141 ?_
            refine lv_istore (lv' := [(4, .int z29), (3, .int z23), (7, .int z10), (6, .int z5), (0, .ref (qw_ad L 9 0)), (1, .int x1), (2, .int x2), (5, .int x5)]) F.1 F.2.1 dX3_misses_142 hl (by decide) rfl (fun ls hl => ?_)
            refine lv_iload_n F.1 F.2.1 dX3_misses_144 rfl (lv_at hl 6 rfl) ?_
            refine lv_iconst (v := (nI 1)) F.1 F.2.1 dX3_misses_145 (by decide) ?_
            refine lv_iload_n F.1 F.2.1 dX3_misses_146 rfl (lv_at hl 5 rfl) ?_
            obtain ⟨r30, k31, hf⟩ := qb1_x hf
            refine qr_cSi F G hP hS (qc_X3_back l G.2.1 k31) gX3_misses_X3_back rfl ⟨rfl, rfl⟩ e_X3_back ⟨Nat.le_of_ble_eq_true rfl, Nat.le_of_ble_eq_true rfl⟩ rfl hl.1 rfl (Nat.le_of_ble_eq_true rfl) ⟨Nat.zero_le _, Nat.zero_le _⟩ dX3_misses_147 (fun H locs hP hS => ?_)
            refine lv_istore_n (lv' := [(2, .int r30), (4, .int z29), (3, .int z23), (7, .int z10), (6, .int z5), (0, .ref (qw_ad L 9 0)), (1, .int x1), (5, .int x5)]) F.1 F.2.1 dX3_misses_150 rfl hl (by decide) rfl (fun ls hl => ?_)
            refine lv_goto (tgt := 188) F.1 F.2.1 dX3_misses_151 (by decide) ?_
            obtain ⟨z32, ez32, hf⟩ := qn_x hf
            refine lv_iinc (v := z32) (lv' := [(5, .int z32), (2, .int r30), (4, .int z29), (3, .int z23), (7, .int z10), (6, .int z5), (0, .ref (qw_ad L 9 0)), (1, .int x1)]) F.1 F.2.1 dX3_misses_188 hl (k := 7) rfl ((qw_ii1 _).trans ez32.symm) (by decide) rfl (fun ls hl => ?_)
            refine lv_goto (tgt := 34) F.1 F.2.1 dX3_misses_191 (by decide) ?_
            exact ih _ _ _ _ _ _ _ _ _ hf hP hS (lv_sub hl [6, 7, 1, 3, 2, 0] rfl)
          · replace hf := qi_t c28 hf
            refine lv_iconst (v := (nI 0)) F.1 F.2.1 dX3_misses_136 (by decide) ?_
            refine lv_goto (tgt := 141) F.1 F.2.1 dX3_misses_137 (by decide) ?_
            obtain ⟨z33, ez33, hf⟩ := qn_x hf
            refine qr_iadd F ez33 dX3_misses_141 ?_
            refine lv_istore (lv' := [(4, .int z33), (3, .int z23), (7, .int z10), (6, .int z5), (0, .ref (qw_ad L 9 0)), (1, .int x1), (2, .int x2), (5, .int x5)]) F.1 F.2.1 dX3_misses_142 hl (by decide) rfl (fun ls hl => ?_)
            refine lv_iload_n F.1 F.2.1 dX3_misses_144 rfl (lv_at hl 6 rfl) ?_
            refine lv_iconst (v := (nI 1)) F.1 F.2.1 dX3_misses_145 (by decide) ?_
            refine lv_iload_n F.1 F.2.1 dX3_misses_146 rfl (lv_at hl 5 rfl) ?_
            obtain ⟨r34, k35, hf⟩ := qb1_x hf
            refine qr_cSi F G hP hS (qc_X3_back l G.2.1 k35) gX3_misses_X3_back rfl ⟨rfl, rfl⟩ e_X3_back ⟨Nat.le_of_ble_eq_true rfl, Nat.le_of_ble_eq_true rfl⟩ rfl hl.1 rfl (Nat.le_of_ble_eq_true rfl) ⟨Nat.zero_le _, Nat.zero_le _⟩ dX3_misses_147 (fun H locs hP hS => ?_)
            refine lv_istore_n (lv' := [(2, .int r34), (4, .int z33), (3, .int z23), (7, .int z10), (6, .int z5), (0, .ref (qw_ad L 9 0)), (1, .int x1), (5, .int x5)]) F.1 F.2.1 dX3_misses_150 rfl hl (by decide) rfl (fun ls hl => ?_)
            refine lv_goto (tgt := 188) F.1 F.2.1 dX3_misses_151 (by decide) ?_
            obtain ⟨z36, ez36, hf⟩ := qn_x hf
            refine lv_iinc (v := z36) (lv' := [(5, .int z36), (2, .int r34), (4, .int z33), (3, .int z23), (7, .int z10), (6, .int z5), (0, .ref (qw_ad L 9 0)), (1, .int x1)]) F.1 F.2.1 dX3_misses_188 hl (k := 7) rfl ((qw_ii1 _).trans ez36.symm) (by decide) rfl (fun ls hl => ?_)
            refine lv_goto (tgt := 34) F.1 F.2.1 dX3_misses_191 (by decide) ?_
            exact ih _ _ _ _ _ _ _ _ _ hf hP hS (lv_sub hl [6, 7, 1, 3, 2, 0] rfl)
      · replace hf := qi_t c12 hf
        refine lv_iload_n F.1 F.2.1 dX3_misses_82 rfl (lv_at hl 4 rfl) ?_
        refine lv_iconst (v := (nI 1)) F.1 F.2.1 dX3_misses_83 (by decide) ?_
        obtain ⟨z37, ez37, hf⟩ := qn_x hf
        refine qr_iadd F ez37 dX3_misses_84 ?_
        refine lv_iload_n F.1 F.2.1 dX3_misses_85 rfl (lv_at hl 3 rfl) ?_
        obtain ⟨g39, hf⟩ := qg_x hf
        obtain ⟨z38, ez38, hf⟩ := qn_x hf
        refine qr_irem F g39 ez38 dX3_misses_86 ?_
        refine lv_istore_n (lv' := [(2, .int z38), (7, .int z10), (6, .int z5), (0, .ref (qw_ad L 9 0)), (1, .int x1), (3, .int x3), (4, .int x4), (5, .int x5)]) F.1 F.2.1 dX3_misses_87 rfl hl (by decide) rfl (fun ls hl => ?_)
        refine lv_aload_n F.1 F.2.1 dX3_misses_88 rfl (lv_at hl 3 rfl) ?_
        refine qr_gMr F G hv (fun w h => F.2.2.2.2 w (List.mem_cons_of_mem _ (List.mem_append_right _ h))) hP 9 5 (by decide) (List.mem_of_getElem? (i := 1) rfl) dX3_misses_89 ?_
        refine lv_iload_n F.1 F.2.1 dX3_misses_92 rfl (lv_at hl 0 rfl) ?_
        refine lv_iload F.1 F.2.1 dX3_misses_93 (lv_at hl 1 rfl) ?_
        obtain ⟨g40, hf⟩ := qg_x hf
        obtain ⟨m41, em41, hf⟩ := qn_x hf
        refine qr_ast F G hP hS (qw_u1s _ _ _) (qw_I9 (c := 5) (n := 16) hv (by decide)) g40 rfl (qw_fx em41) dX3_misses_95 (fun H locs hP hS => ?_)
        refine lv_aload_n F.1 F.2.1 dX3_misses_96 rfl (lv_at hl 3 rfl) ?_
        refine qr_gMr F G hv (fun w h => F.2.2.2.2 w (List.mem_cons_of_mem _ (List.mem_append_right _ h))) hP 10 6 (by decide) (List.mem_of_getElem? (i := 3) rfl) dX3_misses_97 ?_
        refine lv_iload_n F.1 F.2.1 dX3_misses_100 rfl (lv_at hl 5 rfl) ?_
        refine lv_iload F.1 F.2.1 dX3_misses_101 (lv_at hl 1 rfl) ?_
        obtain ⟨g42, hf⟩ := qg_x hf
        obtain ⟨m43, em43, hf⟩ := qn_x hf
        refine qr_ast F G hP hS (qw_u1s _ _ _) (qw_I9 (c := 6) (n := 40) hv (by decide)) g42 rfl (qw_fx em43) dX3_misses_103 (fun H locs hP hS => ?_)
        obtain ⟨z44, ez44, hf⟩ := qn_x hf
        refine lv_iinc (v := z44) (lv' := [(3, .int z44), (2, .int z38), (7, .int z10), (6, .int z5), (0, .ref (qw_ad L 9 0)), (1, .int x1), (4, .int x4), (5, .int x5)]) F.1 F.2.1 dX3_misses_104 hl (k := 5) rfl ((qw_ii1 _).trans ez44.symm) (by decide) rfl (fun ls hl => ?_)
        refine lv_goto (tgt := 188) F.1 F.2.1 dX3_misses_107 (by decide) ?_
        obtain ⟨z45, ez45, hf⟩ := qn_x hf
        refine lv_iinc (v := z45) (lv' := [(5, .int z45), (3, .int z44), (2, .int z38), (7, .int z10), (6, .int z5), (0, .ref (qw_ad L 9 0)), (1, .int x1), (4, .int x4)]) F.1 F.2.1 dX3_misses_188 hl (k := 7) rfl ((qw_ii1 _).trans ez45.symm) (by decide) rfl (fun ls hl => ?_)
        refine lv_goto (tgt := 34) F.1 F.2.1 dX3_misses_191 (by decide) ?_
        exact ih _ _ _ _ _ _ _ _ _ hf hP hS (lv_sub hl [5, 6, 2, 1, 7, 0] rfl)
set_option maxRecDepth 100000 in
set_option maxHeartbeats 4000000 in
theorem qb_X3_misses_22 {p : Program} {l : Launch} {e : Env} {s : State} {mi : MethodId} {args : Array Value} {below : List Frame} {meth : Method} {co : Code} {Q : State → Prop} {L : wL} {M : wM} {h : Nat → Nat} {r : Int32} {m9 : wm} (F : CallFix p mi co cX3_misses 8 s args wsX3_misses RX3) (G : qw_G L (qw_A L) s) (hv : qw_9 L) (hQ : qw_RI p l e rm_X3_misses s mi args below meth co cX3_misses .int Q L r (qw_u1 M 9 m9) h) : ∀ (x1 : Int32) (m : wm) (H : Heap) (locs : List Loc) (ls : Array Slot), qf_X3_misses_22 x1 m = some (r, m9) → qw_P L (qw_u1 M 9 m) h H → va_S (qw_A L) s.heap H locs → lv_has ls 8 [(0, .ref (qw_ad L 9 0)), (1, .int x1)] → W p l e rm_X3_misses s mi args below meth co H locs 0 0 Q (F0 mi 22 ls []) := by
  intro x1 m H locs ls hf hP hS hl
  unfold qf_X3_misses_22 at hf
  refine lv_iload_n F.1 F.2.1 dX3_misses_22 rfl (lv_at hl 1 rfl) ?_
  refine lv_iconst (v := (nI 1)) F.1 F.2.1 dX3_misses_23 (by decide) ?_
  obtain ⟨z1, ez1, hf⟩ := qn_x hf
  refine qr_isub F ez1 dX3_misses_24 ?_
  refine lv_istore_n (lv' := [(2, .int z1), (0, .ref (qw_ad L 9 0)), (1, .int x1)]) F.1 F.2.1 dX3_misses_25 rfl hl (by decide) rfl (fun ls hl => ?_)
  refine lv_iconst (v := (nI 0)) F.1 F.2.1 dX3_misses_26 (by decide) ?_
  refine lv_istore_n (lv' := [(3, .int (nI 0)), (2, .int z1), (0, .ref (qw_ad L 9 0)), (1, .int x1)]) F.1 F.2.1 dX3_misses_27 rfl hl (by decide) rfl (fun ls hl => ?_)
  refine lv_iconst (v := (nI 0)) F.1 F.2.1 dX3_misses_28 (by decide) ?_
  refine lv_istore (lv' := [(4, .int (nI 0)), (3, .int (nI 0)), (2, .int z1), (0, .ref (qw_ad L 9 0)), (1, .int x1)]) F.1 F.2.1 dX3_misses_29 hl (by decide) rfl (fun ls hl => ?_)
  refine lv_iconst (v := (nI 0)) F.1 F.2.1 dX3_misses_31 (by decide) ?_
  refine lv_istore (lv' := [(5, .int (nI 0)), (4, .int (nI 0)), (3, .int (nI 0)), (2, .int z1), (0, .ref (qw_ad L 9 0)), (1, .int x1)]) F.1 F.2.1 dX3_misses_32 hl (by decide) rfl (fun ls hl => ?_)
  exact qb_X3_misses_34 F G hv hQ _ _ _ _ _ _ _ _ _ _ hf hP hS (lv_sub hl [4, 5, 3, 2, 1, 0] rfl)
set_option maxRecDepth 100000 in
set_option maxHeartbeats 4000000 in
theorem qb_X3_misses_2 {p : Program} {l : Launch} {e : Env} {s : State} {mi : MethodId} {args : Array Value} {below : List Frame} {meth : Method} {co : Code} {Q : State → Prop} {L : wL} {M : wM} {h : Nat → Nat} {r : Int32} {m9 : wm} (F : CallFix p mi co cX3_misses 8 s args wsX3_misses RX3) (G : qw_G L (qw_A L) s) (hv : qw_9 L) (hQ : qw_RI p l e rm_X3_misses s mi args below meth co cX3_misses .int Q L r (qw_u1 M 9 m9) h) : ∀ (n : Nat) (x1 : Int32) (x2 : Int32) (m : wm) (H : Heap) (locs : List Loc) (ls : Array Slot), qf_X3_misses_2 n x1 x2 m = some (r, m9) → qw_P L (qw_u1 M 9 m) h H → va_S (qw_A L) s.heap H locs → lv_has ls 8 [(0, .ref (qw_ad L 9 0)), (1, .int x1), (2, .int x2)] → W p l e rm_X3_misses s mi args below meth co H locs 0 0 Q (F0 mi 2 ls []) := by
  intro n
  induction n with
  | zero =>
    intro x1 x2 m H locs ls hf hP hS hl
    rw [qf_X3_misses_2] at hf
    cases hf
  | succ n ih =>
    intro x1 x2 m H locs ls hf hP hS hl
    rw [qf_X3_misses_2] at hf
    refine lv_iload_n F.1 F.2.1 dX3_misses_2 rfl (lv_at hl 2 rfl) ?_
    refine lv_bipush (v := (nI 16)) F.1 F.2.1 dX3_misses_3 (by decide) ?_
    refine lv_icmp_ge (tgt := 22) F.1 F.2.1 dX3_misses_5 (by decide) (fun c1 => ?_) (fun c1 => ?_)
    · replace hf := qi_t c1 hf
      exact qb_X3_misses_22 F G hv hQ _ _ _ _ _ hf hP hS (lv_sub hl [0, 1] rfl)
    · replace hf := qi_f c1 hf
      refine lv_aload_n F.1 F.2.1 dX3_misses_8 rfl (lv_at hl 0 rfl) ?_
      refine qr_gMr F G hv (fun w h => F.2.2.2.2 w (List.mem_cons_of_mem _ (List.mem_append_right _ h))) hP 9 5 (by decide) (List.mem_of_getElem? (i := 1) rfl) dX3_misses_9 ?_
      refine lv_iload_n F.1 F.2.1 dX3_misses_12 rfl (lv_at hl 2 rfl) ?_
      refine lv_bipush (v := (-9 : Int32)) F.1 F.2.1 dX3_misses_13 (by decide) ?_
      obtain ⟨g2, hf⟩ := qg_x hf
      obtain ⟨m3, em3, hf⟩ := qn_x hf
      refine qr_ast F G hP hS (qw_u1s _ _ _) (qw_I9 (c := 5) (n := 16) hv (by decide)) g2 rfl (qw_fx em3) dX3_misses_15 (fun H locs hP hS => ?_)
      obtain ⟨z4, ez4, hf⟩ := qn_x hf
      refine lv_iinc (v := z4) (lv' := [(2, .int z4), (0, .ref (qw_ad L 9 0)), (1, .int x1)]) F.1 F.2.1 dX3_misses_16 hl (k := 2) rfl ((qw_ii1 _).trans ez4.symm) (by decide) rfl (fun ls hl => ?_)
      refine lv_goto (tgt := 2) F.1 F.2.1 dX3_misses_19 (by decide) ?_
      exact ih _ _ _ _ _ _ hf hP hS (lv_sub hl [1, 2, 0] rfl)
set_option maxRecDepth 100000 in
set_option maxHeartbeats 4000000 in
theorem qb_X3_misses {p : Program} {l : Launch} {e : Env} {s : State} {mi : MethodId} {args : Array Value} {below : List Frame} {meth : Method} {co : Code} {Q : State → Prop} {L : wL} {M : wM} {h : Nat → Nat} {r : Int32} {m9 : wm} (F : CallFix p mi co cX3_misses 8 s args wsX3_misses RX3) (G : qw_G L (qw_A L) s) (hv : qw_9 L) (hQ : qw_RI p l e rm_X3_misses s mi args below meth co cX3_misses .int Q L r (qw_u1 M 9 m9) h) : ∀ (x1 : Int32) (m : wm) (H : Heap) (locs : List Loc) (ls : Array Slot), qf_X3_misses x1 m = some (r, m9) → qw_P L (qw_u1 M 9 m) h H → va_S (qw_A L) s.heap H locs → lv_has ls 8 [(0, .ref (qw_ad L 9 0)), (1, .int x1)] → W p l e rm_X3_misses s mi args below meth co H locs 0 0 Q (F0 mi 0 ls []) := by
  intro x1 m H locs ls hf hP hS hl
  unfold qf_X3_misses at hf
  refine lv_iconst (v := (nI 0)) F.1 F.2.1 dX3_misses_0 (by decide) ?_
  refine lv_istore_n (lv' := [(2, .int (nI 0)), (0, .ref (qw_ad L 9 0)), (1, .int x1)]) F.1 F.2.1 dX3_misses_1 rfl hl (by decide) rfl (fun ls hl => ?_)
  exact qb_X3_misses_2 F G hv hQ _ _ _ _ _ _ _ hf hP hS (lv_sub hl [1, 2, 0] rfl)
set_option maxRecDepth 100000 in
set_option maxHeartbeats 4000000 in
theorem qc_X3_misses (l : Launch) {L : wL} (hJ : qw_J L) {X X9 : wM} {h : Nat → Nat} {m m9 : wm} (hX : X 9 = m) (hX9 : qw_u1 X 9 m9 = X9) {x1 : Int32} {r : Int32} (hv : qw_9 L) (hf : qf_X3_misses x1 m = some (r, m9)) : qw_MI l yX3_misses wsX3_misses rm_X3_misses L (.ref (qw_ad L 9 0) :: [.int x1]) X h r X9 h := by
  subst hX
  subst hX9
  refine qw_MI_of (cc := cX3_misses) (maxL := 8) (ty := .int) (by decide) rfl hJ (Nat.le_of_ble_eq_true rfl) ?_
  intro p e s mi below meth co Q ls F G hP hQ hl
  exact qb_X3_misses F G hv hQ _ _ _ _ _ hf (by rw [qw_u1i]; exact hP) va_S.rf hl
def rm_X3_missesWith : Room := { frames := 2, cells := 0, slots := 0, locals := 49 }
theorem e_X3_missesWith : qw_hd yX3_missesWith RX3 1 := by decide +kernel
set_option maxRecDepth 100000 in
set_option maxHeartbeats 4000000 in
theorem qb_X3_missesWith {p : Program} {l : Launch} {e : Env} {s : State} {mi : MethodId} {args : Array Value} {below : List Frame} {meth : Method} {co : Code} {Q : State → Prop} {L : wL} {M : wM} {h : Nat → Nat} {r : Int32} {m9 : wm} (F : CallFix p mi co cX3_missesWith 2 s args wsX3_missesWith RX3) (G : qw_G L (qw_A L) s) (hv : qw_9 L) (hQ : qw_RI p l e rm_X3_missesWith s mi args below meth co cX3_missesWith .int Q L r (qw_u1 M 9 m9) h) : ∀ (x1 : Int32) (m : wm) (H : Heap) (locs : List Loc) (ls : Array Slot), qf_X3_missesWith x1 m = some (r, m9) → qw_P L (qw_u1 M 9 m) h H → va_S (qw_A L) s.heap H locs → lv_has ls 2 [(0, .ref (qw_ad L 9 0)), (1, .int x1)] → W p l e rm_X3_missesWith s mi args below meth co H locs 0 0 Q (F0 mi 0 ls []) := by
  intro x1 m H locs ls hf hP hS hl
  unfold qf_X3_missesWith at hf
  refine lv_iload_n F.1 F.2.1 dX3_missesWith_0 rfl (lv_at hl 1 rfl) ?_
  refine lv_iconst (v := (nI 2)) F.1 F.2.1 dX3_missesWith_1 (by decide) ?_
  refine lv_bipush (v := (nI 16)) F.1 F.2.1 dX3_missesWith_2 (by decide) ?_
  obtain ⟨r1, k2, hf⟩ := qb1_x hf
  refine qr_cSi F G hP hS (qc_X3_in l G.2.1 k2) gX3_missesWith_X3_in rfl ⟨rfl, rfl⟩ e_X3_in ⟨Nat.le_of_ble_eq_true rfl, Nat.le_of_ble_eq_true rfl⟩ rfl hl.1 rfl (Nat.le_of_ble_eq_true rfl) ⟨Nat.zero_le _, Nat.zero_le _⟩ dX3_missesWith_4 (fun H locs hP hS => ?_)
  refine lv_if_eq (tgt := 18) F.1 F.2.1 dX3_missesWith_7 (by decide) (fun c3 => ?_) (fun c3 => ?_)
  · replace hf := qi_t c3 hf
    refine lv_iconst (v := (-1 : Int32)) F.1 F.2.1 dX3_missesWith_18 (by decide) ?_
    obtain ⟨e9, e8⟩ := qs2 hf
    subst e9
    subst e8
    exact hQ _ _ _ _ hP hS rfl dX3_missesWith_19
  · replace hf := qi_f c3 hf
    refine lv_aload_n F.1 F.2.1 dX3_missesWith_10 rfl (lv_at hl 0 rfl) ?_
    refine lv_iload_n F.1 F.2.1 dX3_missesWith_11 rfl (lv_at hl 1 rfl) ?_
    obtain ⟨r4, m6, k5, hf⟩ := qb2_x hf
    refine qr_cVi F G hP hS (qc_X3_misses l G.2.1 (qw_u1s _ _ _) (qw_fx rfl) hv k5) (qw_rcM hv) gX3_missesWith_X3_misses rfl ⟨rfl, rfl⟩ e_X3_misses ⟨Nat.le_of_ble_eq_true rfl, Nat.le_of_ble_eq_true rfl⟩ rfl hl.1 rfl (Nat.le_of_ble_eq_true rfl) ⟨Nat.zero_le _, Nat.zero_le _⟩ dX3_missesWith_12 (fun H locs hP hS => ?_)
    refine lv_goto (tgt := 19) F.1 F.2.1 dX3_missesWith_15 (by decide) ?_
    obtain ⟨e9, e8⟩ := qs2 hf
    subst e9
    subst e8
    exact hQ _ _ _ _ hP hS rfl dX3_missesWith_19
set_option maxRecDepth 100000 in
set_option maxHeartbeats 4000000 in
theorem qc_X3_missesWith (l : Launch) {L : wL} (hJ : qw_J L) {X X9 : wM} {h : Nat → Nat} {m m9 : wm} (hX : X 9 = m) (hX9 : qw_u1 X 9 m9 = X9) {x1 : Int32} {r : Int32} (hv : qw_9 L) (hf : qf_X3_missesWith x1 m = some (r, m9)) : qw_MI l yX3_missesWith wsX3_missesWith rm_X3_missesWith L (.ref (qw_ad L 9 0) :: [.int x1]) X h r X9 h := by
  subst hX
  subst hX9
  refine qw_MI_of (cc := cX3_missesWith) (maxL := 2) (ty := .int) (by decide) rfl hJ (Nat.le_of_ble_eq_true rfl) ?_
  intro p e s mi below meth co Q ls F G hP hQ hl
  exact qb_X3_missesWith F G hv hQ _ _ _ _ _ hf (by rw [qw_u1i]; exact hP) va_S.rf hl
def rm_X3_bestSize : Room := { frames := 2, cells := 0, slots := 0, locals := 49 }
theorem e_X3_bestSize : qw_hd yX3_bestSize RX3 0 := by decide +kernel
set_option maxRecDepth 100000 in
set_option maxHeartbeats 4000000 in
theorem qb_X3_bestSize_4 {p : Program} {l : Launch} {e : Env} {s : State} {mi : MethodId} {args : Array Value} {below : List Frame} {meth : Method} {co : Code} {Q : State → Prop} {L : wL} {M : wM} {h : Nat → Nat} {r : Int32} {m9 : wm} (F : CallFix p mi co cX3_bestSize 3 s args wsX3_bestSize RX3) (G : qw_G L (qw_A L) s) (hv : qw_9 L) (hQ : qw_RI p l e rm_X3_bestSize s mi args below meth co cX3_bestSize .int Q L r (qw_u1 M 9 m9) h) : ∀ (n : Nat) (x1 : Int32) (x2 : Int32) (m : wm) (H : Heap) (locs : List Loc) (ls : Array Slot), qf_X3_bestSize_4 n x1 x2 m = some (r, m9) → qw_P L (qw_u1 M 9 m) h H → va_S (qw_A L) s.heap H locs → lv_has ls 3 [(0, .ref (qw_ad L 9 0)), (1, .int x1), (2, .int x2)] → W p l e rm_X3_bestSize s mi args below meth co H locs 0 0 Q (F0 mi 4 ls []) := by
  intro n
  induction n with
  | zero =>
    intro x1 x2 m H locs ls hf hP hS hl
    rw [qf_X3_bestSize_4] at hf
    cases hf
  | succ n ih =>
    intro x1 x2 m H locs ls hf hP hS hl
    rw [qf_X3_bestSize_4] at hf
    refine lv_iload_n F.1 F.2.1 dX3_bestSize_4 rfl (lv_at hl 2 rfl) ?_
    refine lv_bipush (v := (nI 16)) F.1 F.2.1 dX3_bestSize_5 (by decide) ?_
    refine lv_icmp_gt (tgt := 35) F.1 F.2.1 dX3_bestSize_7 (by decide) (fun c1 => ?_) (fun c1 => ?_)
    · replace hf := qi_t c1 hf
      refine lv_iload_n F.1 F.2.1 dX3_bestSize_35 rfl (lv_at hl 1 rfl) ?_
      obtain ⟨e9, e8⟩ := qs2 hf
      subst e9
      subst e8
      exact hQ _ _ _ _ hP hS rfl dX3_bestSize_36
    · replace hf := qi_f c1 hf
      refine lv_aload_n F.1 F.2.1 dX3_bestSize_10 rfl (lv_at hl 0 rfl) ?_
      refine lv_iload_n F.1 F.2.1 dX3_bestSize_11 rfl (lv_at hl 2 rfl) ?_
      obtain ⟨r2, m4, k3, hf⟩ := qb2_x hf
      refine qr_cVi F G hP hS (qc_X3_misses l G.2.1 (qw_u1s _ _ _) (qw_fx rfl) hv k3) (qw_rcM hv) gX3_bestSize_X3_misses rfl ⟨rfl, rfl⟩ e_X3_misses ⟨Nat.le_of_ble_eq_true rfl, Nat.le_of_ble_eq_true rfl⟩ rfl hl.1 rfl (Nat.le_of_ble_eq_true rfl) ⟨Nat.zero_le _, Nat.zero_le _⟩ dX3_bestSize_12 (fun H locs hP hS => ?_)
      refine lv_aload_n F.1 F.2.1 dX3_bestSize_15 rfl (lv_at hl 0 rfl) ?_
      refine lv_iload_n F.1 F.2.1 dX3_bestSize_16 rfl (lv_at hl 1 rfl) ?_
      obtain ⟨r5, m7, k6, hf⟩ := qb2_x hf
      refine qr_cVi F G hP hS (qc_X3_misses l G.2.1 (qw_u1s _ _ _) (qw_fx rfl) hv k6) (qw_rcM hv) gX3_bestSize_X3_misses rfl ⟨rfl, rfl⟩ e_X3_misses ⟨Nat.le_of_ble_eq_true rfl, Nat.le_of_ble_eq_true rfl⟩ rfl hl.1 rfl (Nat.le_of_ble_eq_true rfl) ⟨Nat.zero_le _, Nat.zero_le _⟩ dX3_bestSize_17 (fun H locs hP hS => ?_)
      refine lv_icmp_ge (tgt := 27) F.1 F.2.1 dX3_bestSize_20 (by decide) (fun c8 => ?_) (fun c8 => ?_)
      · replace hf := qi_t c8 hf
        refine lv_iload_n F.1 F.2.1 dX3_bestSize_27 rfl (lv_at hl 1 rfl) ?_
        refine lv_istore_n (lv' := [(1, .int x1), (0, .ref (qw_ad L 9 0)), (2, .int x2)]) F.1 F.2.1 dX3_bestSize_28 rfl hl (by decide) rfl (fun ls hl => ?_)
        obtain ⟨z9, ez9, hf⟩ := qn_x hf
        refine lv_iinc (v := z9) (lv' := [(2, .int z9), (1, .int x1), (0, .ref (qw_ad L 9 0))]) F.1 F.2.1 dX3_bestSize_29 hl (k := 2) rfl ((qw_ii1 _).trans ez9.symm) (by decide) rfl (fun ls hl => ?_)
        refine lv_goto (tgt := 4) F.1 F.2.1 dX3_bestSize_32 (by decide) ?_
        exact ih _ _ _ _ _ _ hf hP hS (lv_sub hl [2, 1, 0] rfl)
      · replace hf := qi_f c8 hf
        refine lv_iload_n F.1 F.2.1 dX3_bestSize_23 rfl (lv_at hl 2 rfl) ?_
        refine lv_goto (tgt := 28) F.1 F.2.1 dX3_bestSize_24 (by decide) ?_
        refine lv_istore_n (lv' := [(1, .int x2), (0, .ref (qw_ad L 9 0)), (2, .int x2)]) F.1 F.2.1 dX3_bestSize_28 rfl hl (by decide) rfl (fun ls hl => ?_)
        obtain ⟨z10, ez10, hf⟩ := qn_x hf
        refine lv_iinc (v := z10) (lv' := [(2, .int z10), (1, .int x2), (0, .ref (qw_ad L 9 0))]) F.1 F.2.1 dX3_bestSize_29 hl (k := 2) rfl ((qw_ii1 _).trans ez10.symm) (by decide) rfl (fun ls hl => ?_)
        refine lv_goto (tgt := 4) F.1 F.2.1 dX3_bestSize_32 (by decide) ?_
        exact ih _ _ _ _ _ _ hf hP hS (lv_sub hl [2, 1, 0] rfl)
set_option maxRecDepth 100000 in
set_option maxHeartbeats 4000000 in
theorem qb_X3_bestSize {p : Program} {l : Launch} {e : Env} {s : State} {mi : MethodId} {args : Array Value} {below : List Frame} {meth : Method} {co : Code} {Q : State → Prop} {L : wL} {M : wM} {h : Nat → Nat} {r : Int32} {m9 : wm} (F : CallFix p mi co cX3_bestSize 3 s args wsX3_bestSize RX3) (G : qw_G L (qw_A L) s) (hv : qw_9 L) (hQ : qw_RI p l e rm_X3_bestSize s mi args below meth co cX3_bestSize .int Q L r (qw_u1 M 9 m9) h) : ∀ (m : wm) (H : Heap) (locs : List Loc) (ls : Array Slot), qf_X3_bestSize m = some (r, m9) → qw_P L (qw_u1 M 9 m) h H → va_S (qw_A L) s.heap H locs → lv_has ls 3 [(0, .ref (qw_ad L 9 0))] → W p l e rm_X3_bestSize s mi args below meth co H locs 0 0 Q (F0 mi 0 ls []) := by
  intro m H locs ls hf hP hS hl
  unfold qf_X3_bestSize at hf
  refine lv_iconst (v := (nI 2)) F.1 F.2.1 dX3_bestSize_0 (by decide) ?_
  refine lv_istore_n (lv' := [(1, .int (nI 2)), (0, .ref (qw_ad L 9 0))]) F.1 F.2.1 dX3_bestSize_1 rfl hl (by decide) rfl (fun ls hl => ?_)
  refine lv_iconst (v := (nI 3)) F.1 F.2.1 dX3_bestSize_2 (by decide) ?_
  refine lv_istore_n (lv' := [(2, .int (nI 3)), (1, .int (nI 2)), (0, .ref (qw_ad L 9 0))]) F.1 F.2.1 dX3_bestSize_3 rfl hl (by decide) rfl (fun ls hl => ?_)
  exact qb_X3_bestSize_4 F G hv hQ _ _ _ _ _ _ _ hf hP hS (lv_sub hl [2, 1, 0] rfl)
set_option maxRecDepth 100000 in
set_option maxHeartbeats 4000000 in
theorem qc_X3_bestSize (l : Launch) {L : wL} (hJ : qw_J L) {X X9 : wM} {h : Nat → Nat} {m m9 : wm} (hX : X 9 = m) (hX9 : qw_u1 X 9 m9 = X9) {r : Int32} (hv : qw_9 L) (hf : qf_X3_bestSize m = some (r, m9)) : qw_MI l yX3_bestSize wsX3_bestSize rm_X3_bestSize L (.ref (qw_ad L 9 0) :: []) X h r X9 h := by
  subst hX
  subst hX9
  refine qw_MI_of (cc := cX3_bestSize) (maxL := 3) (ty := .int) (by decide) rfl hJ (Nat.le_of_ble_eq_true rfl) ?_
  intro p e s mi below meth co Q ls F G hP hQ hl
  exact qb_X3_bestSize F G hv hQ _ _ _ _ hf (by rw [qw_u1i]; exact hP) va_S.rf hl
def rm_X3_callsUntil : Room := { frames := 1, cells := 0, slots := 0, locals := 22 }
theorem e_X3_callsUntil : qw_hd yX3_callsUntil RX3 1 := by decide +kernel
set_option maxRecDepth 100000 in
set_option maxHeartbeats 4000000 in
theorem qb_X3_callsUntil {p : Program} {l : Launch} {e : Env} {s : State} {mi : MethodId} {args : Array Value} {below : List Frame} {meth : Method} {co : Code} {Q : State → Prop} {L : wL} {M : wM} {h : Nat → Nat} {r : Int32} {m : wm} (F : CallFix p mi co cX3_callsUntil 4 s args wsX3_callsUntil RX3) (G : qw_G L (qw_A L) s) (hv : qw_9 L) (hQ : qw_RI p l e rm_X3_callsUntil s mi args below meth co cX3_callsUntil .int Q L r (qw_u1 M 9 m) h) : ∀ (x1 : Int32) (H : Heap) (locs : List Loc) (ls : Array Slot), qf_X3_callsUntil x1 m = some r → qw_P L (qw_u1 M 9 m) h H → va_S (qw_A L) s.heap H locs → lv_has ls 4 [(0, .ref (qw_ad L 9 0)), (1, .int x1)] → W p l e rm_X3_callsUntil s mi args below meth co H locs 0 0 Q (F0 mi 0 ls []) := by
  intro x1 H locs ls hf hP hS hl
  unfold qf_X3_callsUntil at hf
  refine lv_aload_n F.1 F.2.1 dX3_callsUntil_0 rfl (lv_at hl 0 rfl) ?_
  refine lv_iload_n F.1 F.2.1 dX3_callsUntil_1 rfl (lv_at hl 1 rfl) ?_
  obtain ⟨r1, k2, hf⟩ := qb1_x hf
  refine qr_cVi F G hP hS (qc_X3_isFrame l G.2.1 (qw_u1s _ _ _) hv k2) (qw_rcM hv) gX3_callsUntil_X3_isFrame rfl ⟨rfl, rfl⟩ e_X3_isFrame ⟨Nat.le_of_ble_eq_true rfl, Nat.le_of_ble_eq_true rfl⟩ rfl hl.1 rfl (Nat.le_of_ble_eq_true rfl) ⟨Nat.zero_le _, Nat.zero_le _⟩ dX3_callsUntil_2 (fun H locs hP hS => ?_)
  refine lv_if_ne (tgt := 10) F.1 F.2.1 dX3_callsUntil_5 (by decide) (fun c3 => ?_) (fun c3 => ?_)
  · replace hf := qi_f c3 hf
    refine lv_aload_n F.1 F.2.1 dX3_callsUntil_10 rfl (lv_at hl 0 rfl) ?_
    refine qr_gMr F G hv (fun w h => F.2.2.2.2 w (List.mem_cons_of_mem _ (List.mem_append_right _ h))) hP 0 1 (by decide) (List.mem_of_getElem? (i := 1) rfl) dX3_callsUntil_11 ?_
    refine lv_iconst (v := (nI 0)) F.1 F.2.1 dX3_callsUntil_14 (by decide) ?_
    obtain ⟨z4, ez4, hf⟩ := qn_x hf
    refine qr_ald F G hP (qw_u1s _ _ _) (qw_I9 (c := 1) (n := 935) hv (by decide)) (by unfold vp_in; decide) (by decide) ez4 dX3_callsUntil_15 ?_
    refine lv_iconst (v := (nI 1)) F.1 F.2.1 dX3_callsUntil_16 (by decide) ?_
    obtain ⟨z5, ez5, hf⟩ := qn_x hf
    refine qr_isub F ez5 dX3_callsUntil_17 ?_
    refine lv_iload_n F.1 F.2.1 dX3_callsUntil_18 rfl (lv_at hl 1 rfl) ?_
    obtain ⟨z6, ez6, hf⟩ := qn_x hf
    refine qr_isub F ez6 dX3_callsUntil_19 ?_
    refine lv_istore_n (lv' := [(2, .int z6), (0, .ref (qw_ad L 9 0)), (1, .int x1)]) F.1 F.2.1 dX3_callsUntil_20 rfl hl (by decide) rfl (fun ls hl => ?_)
    refine lv_aload_n F.1 F.2.1 dX3_callsUntil_21 rfl (lv_at hl 1 rfl) ?_
    refine lv_iload_n F.1 F.2.1 dX3_callsUntil_22 rfl (lv_at hl 0 rfl) ?_
    refine lv_iconst (v := (nI 4)) F.1 F.2.1 dX3_callsUntil_23 (by decide) ?_
    obtain ⟨r7, k8, hf⟩ := qb1_x hf
    refine qr_cVi F G hP hS (qc_X3_ofFrame l G.2.1 (qw_u1s _ _ _) hv k8) (qw_rcM hv) gX3_callsUntil_X3_ofFrame rfl ⟨rfl, rfl⟩ e_X3_ofFrame ⟨Nat.le_of_ble_eq_true rfl, Nat.le_of_ble_eq_true rfl⟩ rfl hl.1 rfl (Nat.le_of_ble_eq_true rfl) ⟨Nat.zero_le _, Nat.zero_le _⟩ dX3_callsUntil_24 (fun H locs hP hS => ?_)
    refine lv_bipush (v := (-9 : Int32)) F.1 F.2.1 dX3_callsUntil_27 (by decide) ?_
    refine lv_icmp_eq (tgt := 34) F.1 F.2.1 dX3_callsUntil_29 (by decide) (fun c9 => ?_) (fun c9 => ?_)
    · replace hf := qi_t c9 hf
      refine lv_aload_n F.1 F.2.1 dX3_callsUntil_34 rfl (lv_at hl 1 rfl) ?_
      refine lv_iload_n F.1 F.2.1 dX3_callsUntil_35 rfl (lv_at hl 0 rfl) ?_
      refine lv_iconst (v := (nI 3)) F.1 F.2.1 dX3_callsUntil_36 (by decide) ?_
      obtain ⟨r10, k11, hf⟩ := qb1_x hf
      refine qr_cVi F G hP hS (qc_X3_ofFrame l G.2.1 (qw_u1s _ _ _) hv k11) (qw_rcM hv) gX3_callsUntil_X3_ofFrame rfl ⟨rfl, rfl⟩ e_X3_ofFrame ⟨Nat.le_of_ble_eq_true rfl, Nat.le_of_ble_eq_true rfl⟩ rfl hl.1 rfl (Nat.le_of_ble_eq_true rfl) ⟨Nat.zero_le _, Nat.zero_le _⟩ dX3_callsUntil_37 (fun H locs hP hS => ?_)
      refine lv_aload_n F.1 F.2.1 dX3_callsUntil_40 rfl (lv_at hl 1 rfl) ?_
      refine qr_gMr F G hv (fun w h => F.2.2.2.2 w (List.mem_cons_of_mem _ (List.mem_append_right _ h))) hP 0 1 (by decide) (List.mem_of_getElem? (i := 1) rfl) dX3_callsUntil_41 ?_
      refine lv_bipush (v := (nI 12)) F.1 F.2.1 dX3_callsUntil_44 (by decide) ?_
      obtain ⟨z12, ez12, hf⟩ := qn_x hf
      refine qr_ald F G hP (qw_u1s _ _ _) (qw_I9 (c := 1) (n := 935) hv (by decide)) (by unfold vp_in; decide) (by decide) ez12 dX3_callsUntil_46 ?_
      obtain ⟨z13, ez13, hf⟩ := qn_x hf
      refine qr_isub F ez13 dX3_callsUntil_47 ?_
      refine lv_aload_n F.1 F.2.1 dX3_callsUntil_48 rfl (lv_at hl 1 rfl) ?_
      refine qr_gMr F G hv (fun w h => F.2.2.2.2 w (List.mem_cons_of_mem _ (List.mem_append_right _ h))) hP 0 1 (by decide) (List.mem_of_getElem? (i := 1) rfl) dX3_callsUntil_49 ?_
      refine lv_bipush (v := (nI 11)) F.1 F.2.1 dX3_callsUntil_52 (by decide) ?_
      obtain ⟨z14, ez14, hf⟩ := qn_x hf
      refine qr_ald F G hP (qw_u1s _ _ _) (qw_I9 (c := 1) (n := 935) hv (by decide)) (by unfold vp_in; decide) (by decide) ez14 dX3_callsUntil_54 ?_
      obtain ⟨z15, ez15, hf⟩ := qn_x hf
      refine qr_iadd F ez15 dX3_callsUntil_55 ?_
      refine lv_aload_n F.1 F.2.1 dX3_callsUntil_56 rfl (lv_at hl 1 rfl) ?_
      refine qr_gMr F G hv (fun w h => F.2.2.2.2 w (List.mem_cons_of_mem _ (List.mem_append_right _ h))) hP 0 1 (by decide) (List.mem_of_getElem? (i := 1) rfl) dX3_callsUntil_57 ?_
      refine lv_bipush (v := (nI 11)) F.1 F.2.1 dX3_callsUntil_60 (by decide) ?_
      obtain ⟨z16, ez16, hf⟩ := qn_x hf
      refine qr_ald F G hP (qw_u1s _ _ _) (qw_I9 (c := 1) (n := 935) hv (by decide)) (by unfold vp_in; decide) (by decide) ez16 dX3_callsUntil_62 ?_
      obtain ⟨g18, hf⟩ := qg_x hf
      obtain ⟨z17, ez17, hf⟩ := qn_x hf
      refine qr_irem F g18 ez17 dX3_callsUntil_63 ?_
      refine lv_istore_n (lv' := [(3, .int z17), (2, .int z6), (0, .ref (qw_ad L 9 0)), (1, .int x1)]) F.1 F.2.1 dX3_callsUntil_64 rfl hl (by decide) rfl (fun ls hl => ?_)
      refine lv_iload_n F.1 F.2.1 dX3_callsUntil_65 rfl (lv_at hl 0 rfl) ?_
      refine lv_if_ne (tgt := 79) F.1 F.2.1 dX3_callsUntil_66 (by decide) (fun c19 => ?_) (fun c19 => ?_)
      · replace hf := qi_f c19 hf
        refine lv_iload_n F.1 F.2.1 dX3_callsUntil_79 rfl (lv_at hl 0 rfl) ?_
        have e9 := qs1 hf
        subst e9
        exact hQ _ _ _ _ hP hS rfl dX3_callsUntil_80
      · replace hf := qi_t c19 hf
        refine lv_aload_n F.1 F.2.1 dX3_callsUntil_69 rfl (lv_at hl 2 rfl) ?_
        refine qr_gMr F G hv (fun w h => F.2.2.2.2 w (List.mem_cons_of_mem _ (List.mem_append_right _ h))) hP 0 1 (by decide) (List.mem_of_getElem? (i := 1) rfl) dX3_callsUntil_70 ?_
        refine lv_bipush (v := (nI 11)) F.1 F.2.1 dX3_callsUntil_73 (by decide) ?_
        obtain ⟨z20, ez20, hf⟩ := qn_x hf
        refine qr_ald F G hP (qw_u1s _ _ _) (qw_I9 (c := 1) (n := 935) hv (by decide)) (by unfold vp_in; decide) (by decide) ez20 dX3_callsUntil_75 ?_
        refine lv_goto (tgt := 80) F.1 F.2.1 dX3_callsUntil_76 (by decide) ?_
        have e9 := qs1 hf
        subst e9
        exact hQ _ _ _ _ hP hS rfl dX3_callsUntil_80
    · replace hf := qi_f c9 hf
      refine lv_iconst (v := (nI 0)) F.1 F.2.1 dX3_callsUntil_32 (by decide) ?_
      have e9 := qs1 hf
      subst e9
      exact hQ _ _ _ _ hP hS rfl dX3_callsUntil_33
  · replace hf := qi_t c3 hf
    refine lv_iconst (v := (-1 : Int32)) F.1 F.2.1 dX3_callsUntil_8 (by decide) ?_
    have e9 := qs1 hf
    subst e9
    exact hQ _ _ _ _ hP hS rfl dX3_callsUntil_9
set_option maxRecDepth 100000 in
set_option maxHeartbeats 4000000 in
theorem qc_X3_callsUntil (l : Launch) {L : wL} (hJ : qw_J L) {X : wM} {h : Nat → Nat} {m : wm} (hX : X 9 = m) {x1 : Int32} {r : Int32} (hv : qw_9 L) (hf : qf_X3_callsUntil x1 m = some r) : qw_MI l yX3_callsUntil wsX3_callsUntil rm_X3_callsUntil L (.ref (qw_ad L 9 0) :: [.int x1]) X h r X h := by
  subst hX
  refine qw_MI_of (cc := cX3_callsUntil) (maxL := 4) (ty := .int) (by decide) rfl hJ (Nat.le_of_ble_eq_true rfl) ?_
  intro p e s mi below meth co Q ls F G hP hQ hl
  exact qb_X3_callsUntil F G hv (by rw [qw_u1i]; exact hQ) _ _ _ _ hf (by rw [qw_u1i]; exact hP) va_S.rf hl
