def rm_L_low : Room := { frames := 0, cells := 0, slots := 0, locals := 0 }
theorem e_L_low : qw_hd yL_low RL 2 := by decide +kernel
set_option maxRecDepth 100000 in
set_option maxHeartbeats 4000000 in
theorem qb_L_low {p : Program} {l : Launch} {e : Env} {s : State} {mi : MethodId} {args : Array Value} {below : List Frame} {meth : Method} {co : Code} {Q : State → Prop} {L : wL} {X : wM} {h : Nat → Nat} {r : Int32} (F : CallFix p mi co cL_low 2 s args wsL_low RL) (G : qw_G L (qw_A L) s) (hQ : qw_RI p l e rm_L_low s mi args below meth co cL_low .int Q L r X h) : ∀ (x0 : Int32) (x1 : Int32) (H : Heap) (locs : List Loc) (ls : Array Slot), qf_L_low x0 x1 = some r → qw_P L X h H → va_S (qw_A L) s.heap H locs → lv_has ls 2 [(0, .int x0), (1, .int x1)] → W p l e rm_L_low s mi args below meth co H locs 0 0 Q (F0 mi 0 ls []) := by
  intro x0 x1 H locs ls hf hP hS hl
  unfold qf_L_low at hf
  refine lv_iload_n F.1 F.2.1 dL_low_0 rfl (lv_at hl 0 rfl) ?_
  refine qr_ldc F (v := (2147483647 : Int32)) (List.mem_of_getElem? (i := 1) rfl) dL_low_1 ?_
  obtain ⟨z1, ez1, hf⟩ := qn_x hf
  refine qr_iand F ez1 dL_low_3 ?_
  refine lv_iload_n F.1 F.2.1 dL_low_4 rfl (lv_at hl 1 rfl) ?_
  obtain ⟨g3, hf⟩ := qg_x hf
  obtain ⟨z2, ez2, hf⟩ := qn_x hf
  refine qr_irem F g3 ez2 dL_low_5 ?_
  have e9 := qs1 hf
  subst e9
  exact hQ _ _ _ _ hP hS rfl dL_low_6
set_option maxRecDepth 100000 in
set_option maxHeartbeats 4000000 in
theorem qc_L_low (l : Launch) {L : wL} (hJ : qw_J L) {X : wM} {h : Nat → Nat} {x0 : Int32} {x1 : Int32} {r : Int32} (hf : qf_L_low x0 x1 = some r) : qw_MI l yL_low wsL_low rm_L_low L [.int x0, .int x1] X h r X h := by
  refine qw_MI_of (cc := cL_low) (maxL := 2) (ty := .int) (by decide) rfl hJ (Nat.le_of_ble_eq_true rfl) ?_
  intro p e s mi below meth co Q ls F G hP hQ hl
  exact qb_L_low F G  hQ _ _ _ _ _ hf hP va_S.rf hl
def rm_L_by : Room := { frames := 0, cells := 0, slots := 0, locals := 0 }
theorem e_L_by : qw_hd yL_by RL 1 := by decide +kernel
set_option maxRecDepth 100000 in
set_option maxHeartbeats 4000000 in
theorem qb_L_by {p : Program} {l : Launch} {e : Env} {s : State} {mi : MethodId} {args : Array Value} {below : List Frame} {meth : Method} {co : Code} {Q : State → Prop} {L : wL} {X : wM} {h : Nat → Nat} {r : Int32} (F : CallFix p mi co cL_by 2 s args wsL_by RL) (G : qw_G L (qw_A L) s) (hQ : qw_RI p l e rm_L_by s mi args below meth co cL_by .int Q L r X h) : ∀ (x0 : Int64) (H : Heap) (locs : List Loc) (ls : Array Slot), qf_L_by x0 = some r → qw_P L X h H → va_S (qw_A L) s.heap H locs → lv_has ls 2 [(0, .long x0)] → W p l e rm_L_by s mi args below meth co H locs 0 0 Q (F0 mi 0 ls []) := by
  intro x0 H locs ls hf hP hS hl
  unfold qf_L_by at hf
  refine lv_lload_n F.1 F.2.1 dL_by_0 rfl (lv_at hl 0 rfl) ?_
  refine lv_bipush (v := (nI 26)) F.1 F.2.1 dL_by_1 (by decide) ?_
  obtain ⟨z1, ez1, hf⟩ := qn_x hf
  refine qr_lshr F ez1 dL_by_3 ?_
  obtain ⟨z2, ez2, hf⟩ := qn_x hf
  refine qr_l2i F ez2 dL_by_4 ?_
  refine lv_bipush (v := (nI 9)) F.1 F.2.1 dL_by_5 (by decide) ?_
  obtain ⟨z3, ez3, hf⟩ := qn_x hf
  refine qr_isub F ez3 dL_by_7 ?_
  have e9 := qs1 hf
  subst e9
  exact hQ _ _ _ _ hP hS rfl dL_by_8
set_option maxRecDepth 100000 in
set_option maxHeartbeats 4000000 in
theorem qc_L_by (l : Launch) {L : wL} (hJ : qw_J L) {X : wM} {h : Nat → Nat} {x0 : Int64} {r : Int32} (hf : qf_L_by x0 = some r) : qw_MI l yL_by wsL_by rm_L_by L [.long x0] X h r X h := by
  refine qw_MI_of (cc := cL_by) (maxL := 2) (ty := .int) (by decide) rfl hJ (Nat.le_of_ble_eq_true rfl) ?_
  intro p e s mi below meth co Q ls F G hP hQ hl
  exact qb_L_by F G  hQ _ _ _ _ hf hP va_S.rf hl
def rm_L_fresh : Room := { frames := 0, cells := 0, slots := 0, locals := 0 }
theorem e_L_fresh : qw_hd yL_fresh RL 3 := by decide +kernel
set_option maxRecDepth 100000 in
set_option maxHeartbeats 4000000 in
theorem qb_L_fresh_46 {p : Program} {l : Launch} {e : Env} {s : State} {mi : MethodId} {args : Array Value} {below : List Frame} {meth : Method} {co : Code} {Q : State → Prop} {L : wL} {M : wM} {h : Nat → Nat} {m9 : wm} (F : CallFix p mi co cL_fresh 5 s args wsL_fresh RL) (G : qw_G L (qw_A L) s) (hv : qw_9 L) (hQ : qw_RV p l e rm_L_fresh s mi args below meth co cL_fresh Q L (qw_u1 M 9 m9) h) : ∀ (n : Nat) (x4 : Int32) (m : wm) (H : Heap) (locs : List Loc) (ls : Array Slot), qf_L_fresh_46 n x4 m = some m9 → qw_P L (qw_u1 M 9 m) h H → va_S (qw_A L) s.heap H locs → lv_has ls 5 [(1, .ref (qw_ad L 9 3)), (4, .int x4)] → W p l e rm_L_fresh s mi args below meth co H locs 0 0 Q (F0 mi 46 ls []) := by
  intro n
  induction n with
  | zero =>
    intro x4 m H locs ls hf hP hS hl
    rw [qf_L_fresh_46] at hf
    cases hf
  | succ n ih =>
    intro x4 m H locs ls hf hP hS hl
    rw [qf_L_fresh_46] at hf
    refine lv_iload F.1 F.2.1 dL_fresh_46 (lv_at hl 1 rfl) ?_
    refine lv_bipush (v := (nI 48)) F.1 F.2.1 dL_fresh_48 (by decide) ?_
    refine lv_icmp_ge (tgt := 77) F.1 F.2.1 dL_fresh_50 (by decide) (fun c1 => ?_) (fun c1 => ?_)
    · replace hf := qi_t c1 hf
      have e8 := qs1 hf
      subst e8
      exact hQ _ _ _ _ hP hS dL_fresh_77
    · replace hf := qi_f c1 hf
      refine lv_aload_n F.1 F.2.1 dL_fresh_53 rfl (lv_at hl 0 rfl) ?_
      refine lv_iload F.1 F.2.1 dL_fresh_54 (lv_at hl 1 rfl) ?_
      refine lv_iload F.1 F.2.1 dL_fresh_56 (lv_at hl 1 rfl) ?_
      refine lv_iconst (v := (nI 3)) F.1 F.2.1 dL_fresh_58 (by decide) ?_
      obtain ⟨z2, ez2, hf⟩ := qn_x hf
      refine qr_irem F (by decide) ez2 dL_fresh_59 ?_
      refine lv_iconst (v := (nI 2)) F.1 F.2.1 dL_fresh_60 (by decide) ?_
      refine lv_icmp_ne (tgt := 68) F.1 F.2.1 dL_fresh_61 (by decide) (fun c3 => ?_) (fun c3 => ?_)
      · replace hf := qi_f c3 hf
        refine lv_bipush (v := (-9 : Int32)) F.1 F.2.1 dL_fresh_68 (by decide) ?_
        obtain ⟨g4, hf⟩ := qg_x hf
        obtain ⟨m5, em5, hf⟩ := qn_x hf
        refine qr_ast F G hP hS (qw_u1s _ _ _) (qw_I9 (c := 3) (n := 48) hv (by decide)) g4 rfl (qw_fx em5) dL_fresh_70 (fun H locs hP hS => ?_)
        obtain ⟨z6, ez6, hf⟩ := qn_x hf
        refine lv_iinc (v := z6) (lv' := [(4, .int z6), (1, .ref (qw_ad L 9 3))]) F.1 F.2.1 dL_fresh_71 hl (k := 1) rfl ((qw_ii1 _).trans ez6.symm) (by decide) rfl (fun ls hl => ?_)
        refine lv_goto (tgt := 46) F.1 F.2.1 dL_fresh_74 (by decide) ?_
        exact ih _ _ _ _ _ hf hP hS (lv_sub hl [1, 0] rfl)
      · replace hf := qi_t c3 hf
        refine lv_iconst (v := (nI 0)) F.1 F.2.1 dL_fresh_64 (by decide) ?_
        refine lv_goto (tgt := 70) F.1 F.2.1 dL_fresh_65 (by decide) ?_
        obtain ⟨g7, hf⟩ := qg_x hf
        obtain ⟨m8, em8, hf⟩ := qn_x hf
        refine qr_ast F G hP hS (qw_u1s _ _ _) (qw_I9 (c := 3) (n := 48) hv (by decide)) g7 rfl (qw_fx em8) dL_fresh_70 (fun H locs hP hS => ?_)
        obtain ⟨z9, ez9, hf⟩ := qn_x hf
        refine lv_iinc (v := z9) (lv' := [(4, .int z9), (1, .ref (qw_ad L 9 3))]) F.1 F.2.1 dL_fresh_71 hl (k := 1) rfl ((qw_ii1 _).trans ez9.symm) (by decide) rfl (fun ls hl => ?_)
        refine lv_goto (tgt := 46) F.1 F.2.1 dL_fresh_74 (by decide) ?_
        exact ih _ _ _ _ _ hf hP hS (lv_sub hl [1, 0] rfl)
set_option maxRecDepth 100000 in
set_option maxHeartbeats 4000000 in
theorem qb_L_fresh_26 {p : Program} {l : Launch} {e : Env} {s : State} {mi : MethodId} {args : Array Value} {below : List Frame} {meth : Method} {co : Code} {Q : State → Prop} {L : wL} {M : wM} {h : Nat → Nat} {m9 : wm} (F : CallFix p mi co cL_fresh 5 s args wsL_fresh RL) (G : qw_G L (qw_A L) s) (hv : qw_9 L) (hQ : qw_RV p l e rm_L_fresh s mi args below meth co cL_fresh Q L (qw_u1 M 9 m9) h) : ∀ (x2 : Int32) (x3 : Int32) (m : wm) (H : Heap) (locs : List Loc) (ls : Array Slot), qf_L_fresh_26 x2 x3 m = some m9 → qw_P L (qw_u1 M 9 m) h H → va_S (qw_A L) s.heap H locs → lv_has ls 5 [(0, .ref (qw_ad L 9 1)), (1, .ref (qw_ad L 9 3)), (2, .int x2), (3, .int x3)] → W p l e rm_L_fresh s mi args below meth co H locs 0 0 Q (F0 mi 26 ls []) := by
  intro x2 x3 m H locs ls hf hP hS hl
  unfold qf_L_fresh_26 at hf
  refine lv_aload_n F.1 F.2.1 dL_fresh_26 rfl (lv_at hl 0 rfl) ?_
  refine lv_bipush (v := (nI 14)) F.1 F.2.1 dL_fresh_27 (by decide) ?_
  refine lv_iload_n F.1 F.2.1 dL_fresh_29 rfl (lv_at hl 3 rfl) ?_
  obtain ⟨m1, em1, hf⟩ := qn_x hf
  refine qr_ast F G hP hS (qw_u1s _ _ _) (qw_I9 (c := 1) (n := 15) hv (by decide)) (by unfold vp_in; decide) (by decide) (qw_fx em1) dL_fresh_30 (fun H locs hP hS => ?_)
  refine lv_aload_n F.1 F.2.1 dL_fresh_31 rfl (lv_at hl 0 rfl) ?_
  refine lv_bipush (v := (nI 11)) F.1 F.2.1 dL_fresh_32 (by decide) ?_
  refine lv_iload_n F.1 F.2.1 dL_fresh_34 rfl (lv_at hl 2 rfl) ?_
  obtain ⟨m2, em2, hf⟩ := qn_x hf
  refine qr_ast F G hP hS (qw_u1s _ _ _) (qw_I9 (c := 1) (n := 15) hv (by decide)) (by unfold vp_in; decide) (by decide) (qw_fx em2) dL_fresh_35 (fun H locs hP hS => ?_)
  refine lv_aload_n F.1 F.2.1 dL_fresh_36 rfl (lv_at hl 0 rfl) ?_
  refine lv_bipush (v := (nI 12)) F.1 F.2.1 dL_fresh_37 (by decide) ?_
  refine lv_iload_n F.1 F.2.1 dL_fresh_39 rfl (lv_at hl 2 rfl) ?_
  refine lv_iconst (v := (nI 1)) F.1 F.2.1 dL_fresh_40 (by decide) ?_
  obtain ⟨z3, ez3, hf⟩ := qn_x hf
  refine qr_isub F ez3 dL_fresh_41 ?_
  obtain ⟨m4, em4, hf⟩ := qn_x hf
  refine qr_ast F G hP hS (qw_u1s _ _ _) (qw_I9 (c := 1) (n := 15) hv (by decide)) (by unfold vp_in; decide) (by decide) (qw_fx em4) dL_fresh_42 (fun H locs hP hS => ?_)
  refine lv_iconst (v := (nI 0)) F.1 F.2.1 dL_fresh_43 (by decide) ?_
  refine lv_istore (lv' := [(4, .int (nI 0)), (0, .ref (qw_ad L 9 1)), (1, .ref (qw_ad L 9 3)), (2, .int x2), (3, .int x3)]) F.1 F.2.1 dL_fresh_44 hl (by decide) rfl (fun ls hl => ?_)
  exact qb_L_fresh_46 F G hv hQ _ _ _ _ _ _ hf hP hS (lv_sub hl [2, 0] rfl)
set_option maxRecDepth 100000 in
set_option maxHeartbeats 4000000 in
theorem qb_L_fresh_8 {p : Program} {l : Launch} {e : Env} {s : State} {mi : MethodId} {args : Array Value} {below : List Frame} {meth : Method} {co : Code} {Q : State → Prop} {L : wL} {M : wM} {h : Nat → Nat} {m9 : wm} (F : CallFix p mi co cL_fresh 5 s args wsL_fresh RL) (G : qw_G L (qw_A L) s) (hv : qw_9 L) (hQ : qw_RV p l e rm_L_fresh s mi args below meth co cL_fresh Q L (qw_u1 M 9 m9) h) : ∀ (n : Nat) (x2 : Int32) (x3 : Int32) (x4 : Int32) (m : wm) (H : Heap) (locs : List Loc) (ls : Array Slot), qf_L_fresh_8 n x2 x3 x4 m = some m9 → qw_P L (qw_u1 M 9 m) h H → va_S (qw_A L) s.heap H locs → lv_has ls 5 [(0, .ref (qw_ad L 9 1)), (1, .ref (qw_ad L 9 3)), (2, .int x2), (3, .int x3), (4, .int x4)] → W p l e rm_L_fresh s mi args below meth co H locs 0 0 Q (F0 mi 8 ls []) := by
  intro n
  induction n with
  | zero =>
    intro x2 x3 x4 m H locs ls hf hP hS hl
    rw [qf_L_fresh_8] at hf
    cases hf
  | succ n ih =>
    intro x2 x3 x4 m H locs ls hf hP hS hl
    rw [qf_L_fresh_8] at hf
    refine lv_iload F.1 F.2.1 dL_fresh_8 (lv_at hl 4 rfl) ?_
    refine lv_bipush (v := (nI 15)) F.1 F.2.1 dL_fresh_10 (by decide) ?_
    refine lv_icmp_ge (tgt := 26) F.1 F.2.1 dL_fresh_12 (by decide) (fun c1 => ?_) (fun c1 => ?_)
    · replace hf := qi_t c1 hf
      exact qb_L_fresh_26 F G hv hQ _ _ _ _ _ _ hf hP hS (lv_sub hl [0, 1, 2, 3] rfl)
    · replace hf := qi_f c1 hf
      refine lv_aload_n F.1 F.2.1 dL_fresh_15 rfl (lv_at hl 0 rfl) ?_
      refine lv_iload F.1 F.2.1 dL_fresh_16 (lv_at hl 4 rfl) ?_
      refine lv_iconst (v := (nI 0)) F.1 F.2.1 dL_fresh_18 (by decide) ?_
      obtain ⟨g2, hf⟩ := qg_x hf
      obtain ⟨m3, em3, hf⟩ := qn_x hf
      refine qr_ast F G hP hS (qw_u1s _ _ _) (qw_I9 (c := 1) (n := 15) hv (by decide)) g2 rfl (qw_fx em3) dL_fresh_19 (fun H locs hP hS => ?_)
      obtain ⟨z4, ez4, hf⟩ := qn_x hf
      refine lv_iinc (v := z4) (lv' := [(4, .int z4), (0, .ref (qw_ad L 9 1)), (1, .ref (qw_ad L 9 3)), (2, .int x2), (3, .int x3)]) F.1 F.2.1 dL_fresh_20 hl (k := 4) rfl ((qw_ii1 _).trans ez4.symm) (by decide) rfl (fun ls hl => ?_)
      refine lv_goto (tgt := 8) F.1 F.2.1 dL_fresh_23 (by decide) ?_
      exact ih _ _ _ _ _ _ _ hf hP hS (lv_sub hl [1, 2, 3, 4, 0] rfl)
set_option maxRecDepth 100000 in
set_option maxHeartbeats 4000000 in
theorem qb_L_fresh {p : Program} {l : Launch} {e : Env} {s : State} {mi : MethodId} {args : Array Value} {below : List Frame} {meth : Method} {co : Code} {Q : State → Prop} {L : wL} {M : wM} {h : Nat → Nat} {m9 : wm} (F : CallFix p mi co cL_fresh 5 s args wsL_fresh RL) (G : qw_G L (qw_A L) s) (hv : qw_9 L) (hQ : qw_RV p l e rm_L_fresh s mi args below meth co cL_fresh Q L (qw_u1 M 9 m9) h) : ∀ (x2 : Int32) (m : wm) (H : Heap) (locs : List Loc) (ls : Array Slot), qf_L_fresh x2 m = some m9 → qw_P L (qw_u1 M 9 m) h H → va_S (qw_A L) s.heap H locs → lv_has ls 5 [(0, .ref (qw_ad L 9 1)), (1, .ref (qw_ad L 9 3)), (2, .int x2)] → W p l e rm_L_fresh s mi args below meth co H locs 0 0 Q (F0 mi 0 ls []) := by
  intro x2 m H locs ls hf hP hS hl
  unfold qf_L_fresh at hf
  refine lv_aload_n F.1 F.2.1 dL_fresh_0 rfl (lv_at hl 0 rfl) ?_
  refine lv_bipush (v := (nI 14)) F.1 F.2.1 dL_fresh_1 (by decide) ?_
  obtain ⟨z1, ez1, hf⟩ := qn_x hf
  refine qr_ald F G hP (qw_u1s _ _ _) (qw_I9 (c := 1) (n := 15) hv (by decide)) (by unfold vp_in; decide) (by decide) ez1 dL_fresh_3 ?_
  refine lv_istore_n (lv' := [(3, .int z1), (0, .ref (qw_ad L 9 1)), (1, .ref (qw_ad L 9 3)), (2, .int x2)]) F.1 F.2.1 dL_fresh_4 rfl hl (by decide) rfl (fun ls hl => ?_)
  refine lv_iconst (v := (nI 0)) F.1 F.2.1 dL_fresh_5 (by decide) ?_
  refine lv_istore (lv' := [(4, .int (nI 0)), (3, .int z1), (0, .ref (qw_ad L 9 1)), (1, .ref (qw_ad L 9 3)), (2, .int x2)]) F.1 F.2.1 dL_fresh_6 hl (by decide) rfl (fun ls hl => ?_)
  exact qb_L_fresh_8 F G hv hQ _ _ _ _ _ _ _ _ hf hP hS (lv_sub hl [2, 3, 4, 1, 0] rfl)
set_option maxRecDepth 100000 in
set_option maxHeartbeats 4000000 in
theorem qc_L_fresh (l : Launch) {L : wL} (hJ : qw_J L) {X X9 : wM} {h : Nat → Nat} {m m9 : wm} (hX : X 9 = m) (hX9 : qw_u1 X 9 m9 = X9) {x2 : Int32} (hv : qw_9 L) (hf : qf_L_fresh x2 m = some m9) : qw_MV l yL_fresh wsL_fresh rm_L_fresh L [.ref (qw_ad L 9 1), .ref (qw_ad L 9 3), .int x2] X h X9 h := by
  subst hX
  subst hX9
  refine qw_MV_of (cc := cL_fresh) (maxL := 5) (by decide) rfl hJ (Nat.le_of_ble_eq_true rfl) ?_
  intro p e s mi below meth co Q ls F G hP hQ hl
  exact qb_L_fresh F G hv hQ _ _ _ _ _ hf (by rw [qw_u1i]; exact hP) va_S.rf hl
def rm_L_steps : Room := { frames := 0, cells := 0, slots := 0, locals := 0 }
theorem e_L_steps : qw_hd yL_steps RL 4 := by decide +kernel
set_option maxRecDepth 100000 in
set_option maxHeartbeats 4000000 in
theorem qb_L_steps {p : Program} {l : Launch} {e : Env} {s : State} {mi : MethodId} {args : Array Value} {below : List Frame} {meth : Method} {co : Code} {Q : State → Prop} {L : wL} {M : wM} {h : Nat → Nat} {m9 : wm} (F : CallFix p mi co cL_steps 4 s args wsL_steps RL) (G : qw_G L (qw_A L) s) (hv : qw_9 L) (hQ : qw_RV p l e rm_L_steps s mi args below meth co cL_steps Q L (qw_u1 M 9 m9) h) : ∀ (x2 : Int32) (x3 : Int32) (m : wm) (H : Heap) (locs : List Loc) (ls : Array Slot), qf_L_steps x2 x3 m = some m9 → qw_P L (qw_u1 M 9 m) h H → va_S (qw_A L) s.heap H locs → lv_has ls 4 [(0, .ref (qw_ad L 9 1)), (1, .ref (qw_ad L 9 4)), (2, .int x2), (3, .int x3)] → W p l e rm_L_steps s mi args below meth co H locs 0 0 Q (F0 mi 0 ls []) := by
  intro x2 x3 m H locs ls hf hP hS hl
  unfold qf_L_steps at hf
  refine lv_aload_n F.1 F.2.1 dL_steps_0 rfl (lv_at hl 1 rfl) ?_
  refine lv_aload_n F.1 F.2.1 dL_steps_1 rfl (lv_at hl 0 rfl) ?_
  refine lv_iconst (v := (nI 1)) F.1 F.2.1 dL_steps_2 (by decide) ?_
  obtain ⟨z1, ez1, hf⟩ := qn_x hf
  refine qr_ald F G hP (qw_u1s _ _ _) (qw_I9 (c := 1) (n := 15) hv (by decide)) (by unfold vp_in; decide) (by decide) ez1 dL_steps_3 ?_
  refine lv_sipush (v := (nI 1000)) F.1 F.2.1 dL_steps_4 (by decide) ?_
  refine lv_iload_n F.1 F.2.1 dL_steps_7 rfl (lv_at hl 2 rfl) ?_
  obtain ⟨z2, ez2, hf⟩ := qn_x hf
  refine qr_imul F ez2 dL_steps_8 ?_
  refine lv_iload_n F.1 F.2.1 dL_steps_9 rfl (lv_at hl 3 rfl) ?_
  obtain ⟨z3, ez3, hf⟩ := qn_x hf
  refine qr_iadd F ez3 dL_steps_10 ?_
  obtain ⟨g4, hf⟩ := qg_x hf
  obtain ⟨m5, em5, hf⟩ := qn_x hf
  refine qr_ast F G hP hS (qw_u1s _ _ _) (qw_I9 (c := 4) (n := 64) hv (by decide)) g4 rfl (qw_fx em5) dL_steps_11 (fun H locs hP hS => ?_)
  refine lv_aload_n F.1 F.2.1 dL_steps_12 rfl (lv_at hl 0 rfl) ?_
  refine lv_iconst (v := (nI 1)) F.1 F.2.1 dL_steps_13 (by decide) ?_
  refine lv_dup2_11 F.1 F.2.1 dL_steps_14 rfl rfl ?_
  obtain ⟨z6, ez6, hf⟩ := qn_x hf
  refine qr_ald F G hP (qw_u1s _ _ _) (qw_I9 (c := 1) (n := 15) hv (by decide)) (by unfold vp_in; decide) (by decide) ez6 dL_steps_15 ?_
  refine lv_iconst (v := (nI 1)) F.1 F.2.1 dL_steps_16 (by decide) ?_
  obtain ⟨z7, ez7, hf⟩ := qn_x hf
  refine qr_iadd F ez7 dL_steps_17 ?_
  obtain ⟨m8, em8, hf⟩ := qn_x hf
  refine qr_ast F G hP hS (qw_u1s _ _ _) (qw_I9 (c := 1) (n := 15) hv (by decide)) (by unfold vp_in; decide) (by decide) (qw_fx em8) dL_steps_18 (fun H locs hP hS => ?_)
  refine lv_aload_n F.1 F.2.1 dL_steps_19 rfl (lv_at hl 0 rfl) ?_
  refine lv_iconst (v := (nI 2)) F.1 F.2.1 dL_steps_20 (by decide) ?_
  refine lv_iload_n F.1 F.2.1 dL_steps_21 rfl (lv_at hl 2 rfl) ?_
  obtain ⟨z9, ez9, hf⟩ := qn_x hf
  refine qr_iadd F ez9 dL_steps_22 ?_
  refine lv_dup2_11 F.1 F.2.1 dL_steps_23 rfl rfl ?_
  obtain ⟨g11, hf⟩ := qg_x hf
  obtain ⟨z10, ez10, hf⟩ := qn_x hf
  refine qr_ald F G hP (qw_u1s _ _ _) (qw_I9 (c := 1) (n := 15) hv (by decide)) g11 rfl ez10 dL_steps_24 ?_
  refine lv_iconst (v := (nI 1)) F.1 F.2.1 dL_steps_25 (by decide) ?_
  obtain ⟨z12, ez12, hf⟩ := qn_x hf
  refine qr_iadd F ez12 dL_steps_26 ?_
  obtain ⟨g13, hf⟩ := qg_x hf
  obtain ⟨m14, em14, hf⟩ := qn_x hf
  refine qr_ast F G hP hS (qw_u1s _ _ _) (qw_I9 (c := 1) (n := 15) hv (by decide)) g13 rfl (qw_fx em14) dL_steps_27 (fun H locs hP hS => ?_)
  have e8 := qs1 hf
  subst e8
  exact hQ _ _ _ _ hP hS dL_steps_28
set_option maxRecDepth 100000 in
set_option maxHeartbeats 4000000 in
theorem qc_L_steps (l : Launch) {L : wL} (hJ : qw_J L) {X X9 : wM} {h : Nat → Nat} {m m9 : wm} (hX : X 9 = m) (hX9 : qw_u1 X 9 m9 = X9) {x2 : Int32} {x3 : Int32} (hv : qw_9 L) (hf : qf_L_steps x2 x3 m = some m9) : qw_MV l yL_steps wsL_steps rm_L_steps L [.ref (qw_ad L 9 1), .ref (qw_ad L 9 4), .int x2, .int x3] X h X9 h := by
  subst hX
  subst hX9
  refine qw_MV_of (cc := cL_steps) (maxL := 4) (by decide) rfl hJ (Nat.le_of_ble_eq_true rfl) ?_
  intro p e s mi below meth co Q ls F G hP hQ hl
  exact qb_L_steps F G hv hQ _ _ _ _ _ _ hf (by rw [qw_u1i]; exact hP) va_S.rf hl
def rm_L_called : Room := { frames := 1, cells := 0, slots := 0, locals := 23 }
theorem e_L_called : qw_hd yL_called RL 7 := by decide +kernel
set_option maxRecDepth 100000 in
set_option maxHeartbeats 4000000 in
theorem qb_L_called_209 {p : Program} {l : Launch} {e : Env} {s : State} {mi : MethodId} {args : Array Value} {below : List Frame} {meth : Method} {co : Code} {Q : State → Prop} {L : wL} {M : wM} {h : Nat → Nat} {r : Int32} {m9 : wm} (F : CallFix p mi co cL_called 10 s args wsL_called RL) (G : qw_G L (qw_A L) s) (hv : qw_9 L) (hQ : qw_RI p l e rm_L_called s mi args below meth co cL_called .int Q L r (qw_u1 M 9 m9) h) : ∀ (x6 : Int32) (x7 : Int32) (y0 : Int32) (y1 : Int32) (m : wm) (H : Heap) (locs : List Loc) (ls : Array Slot), qf_L_called_209 x6 x7 y0 y1 m = some (r, m9) → qw_P L (qw_u1 M 9 m) h H → va_S (qw_A L) s.heap H locs → lv_has ls 10 [(0, .ref (qw_ad L 9 1)), (3, .ref (qw_ad L 9 4)), (4, .ref (qw_ad L 9 6)), (6, .int x6), (7, .int x7)] → W p l e rm_L_called s mi args below meth co H locs 0 0 Q (F0 mi 209 ls [.int y0, .int y1, .ref (qw_ad L 9 1)]) := by
  intro x6 x7 y0 y1 m H locs ls hf hP hS hl
  unfold qf_L_called_209 at hf
  obtain ⟨g1, hf⟩ := qg_x hf
  obtain ⟨m2, em2, hf⟩ := qn_x hf
  refine qr_ast F G hP hS (qw_u1s _ _ _) (qw_I9 (c := 1) (n := 15) hv (by decide)) g1 rfl (qw_fx em2) dL_called_209 (fun H locs hP hS => ?_)
  refine lv_aload F.1 F.2.1 dL_called_210 (lv_at hl 2 rfl) ?_
  refine lv_iload F.1 F.2.1 dL_called_212 (lv_at hl 4 rfl) ?_
  refine lv_iconst (v := (nI 0)) F.1 F.2.1 dL_called_214 (by decide) ?_
  obtain ⟨g3, hf⟩ := qg_x hf
  obtain ⟨m4, em4, hf⟩ := qn_x hf
  refine qr_ast F G hP hS (qw_u1s _ _ _) (qw_I9 (c := 6) (n := 64) hv (by decide)) g3 rfl (qw_fx em4) dL_called_215 (fun H locs hP hS => ?_)
  refine lv_aload_n F.1 F.2.1 dL_called_216 rfl (lv_at hl 0 rfl) ?_
  refine lv_aload_n F.1 F.2.1 dL_called_217 rfl (lv_at hl 1 rfl) ?_
  refine lv_iconst (v := (nI 0)) F.1 F.2.1 dL_called_218 (by decide) ?_
  refine lv_iload F.1 F.2.1 dL_called_219 (lv_at hl 3 rfl) ?_
  obtain ⟨m6, k5, hf⟩ := qb1_x hf
  refine qr_cSv F G hP hS (qc_L_steps l G.2.1 (qw_u1s _ _ _) (qw_fx rfl) hv k5) gL_called_L_steps rfl ⟨rfl, rfl⟩ e_L_steps ⟨Nat.le_of_ble_eq_true rfl, Nat.le_of_ble_eq_true rfl⟩ rfl hl.1 rfl (Nat.le_of_ble_eq_true rfl) ⟨Nat.zero_le _, Nat.zero_le _⟩ dL_called_221 (fun H locs hP hS => ?_)
  refine lv_iload F.1 F.2.1 dL_called_224 (lv_at hl 4 rfl) ?_
  obtain ⟨e9, e8⟩ := qs2 hf
  subst e9
  subst e8
  exact hQ _ _ _ _ hP hS rfl dL_called_226
set_option maxRecDepth 100000 in
set_option maxHeartbeats 4000000 in
theorem qb_L_called_112 {p : Program} {l : Launch} {e : Env} {s : State} {mi : MethodId} {args : Array Value} {below : List Frame} {meth : Method} {co : Code} {Q : State → Prop} {L : wL} {M : wM} {h : Nat → Nat} {r : Int32} {m9 : wm} (F : CallFix p mi co cL_called 10 s args wsL_called RL) (G : qw_G L (qw_A L) s) (hv : qw_9 L) (hQ : qw_RI p l e rm_L_called s mi args below meth co cL_called .int Q L r (qw_u1 M 9 m9) h) : ∀ (x5 : Int32) (x6 : Int32) (x7 : Int32) (m : wm) (H : Heap) (locs : List Loc) (ls : Array Slot), qf_L_called_112 x5 x6 x7 m = some (r, m9) → qw_P L (qw_u1 M 9 m) h H → va_S (qw_A L) s.heap H locs → lv_has ls 10 [(0, .ref (qw_ad L 9 1)), (1, .ref (qw_ad L 9 2)), (2, .ref (qw_ad L 9 3)), (3, .ref (qw_ad L 9 4)), (4, .ref (qw_ad L 9 6)), (5, .int x5), (6, .int x6), (7, .int x7)] → W p l e rm_L_called s mi args below meth co H locs 0 0 Q (F0 mi 112 ls []) := by
  intro x5 x6 x7 m H locs ls hf hP hS hl
  unfold qf_L_called_112 at hf
  refine lv_aload_n F.1 F.2.1 dL_called_112 rfl (lv_at hl 2 rfl) ?_
  refine lv_iconst (v := (nI 3)) F.1 F.2.1 dL_called_113 (by decide) ?_
  refine lv_aload_n F.1 F.2.1 dL_called_114 rfl (lv_at hl 0 rfl) ?_
  refine lv_bipush (v := (nI 12)) F.1 F.2.1 dL_called_115 (by decide) ?_
  obtain ⟨z1, ez1, hf⟩ := qn_x hf
  refine qr_ald F G hP (qw_u1s _ _ _) (qw_I9 (c := 1) (n := 15) hv (by decide)) (by unfold vp_in; decide) (by decide) ez1 dL_called_117 ?_
  obtain ⟨z2, ez2, hf⟩ := qn_x hf
  refine qr_imul F ez2 dL_called_118 ?_
  refine lv_iload F.1 F.2.1 dL_called_119 (lv_at hl 7 rfl) ?_
  obtain ⟨g3, hf⟩ := qg_x hf
  obtain ⟨m4, em4, hf⟩ := qn_x hf
  refine qr_ast F G hP hS (qw_u1s _ _ _) (qw_I9 (c := 3) (n := 48) hv (by decide)) g3 rfl (qw_fx em4) dL_called_121 (fun H locs hP hS => ?_)
  refine lv_aload_n F.1 F.2.1 dL_called_122 rfl (lv_at hl 2 rfl) ?_
  refine lv_iconst (v := (nI 3)) F.1 F.2.1 dL_called_123 (by decide) ?_
  refine lv_aload_n F.1 F.2.1 dL_called_124 rfl (lv_at hl 0 rfl) ?_
  refine lv_bipush (v := (nI 12)) F.1 F.2.1 dL_called_125 (by decide) ?_
  obtain ⟨z5, ez5, hf⟩ := qn_x hf
  refine qr_ald F G hP (qw_u1s _ _ _) (qw_I9 (c := 1) (n := 15) hv (by decide)) (by unfold vp_in; decide) (by decide) ez5 dL_called_127 ?_
  obtain ⟨z6, ez6, hf⟩ := qn_x hf
  refine qr_imul F ez6 dL_called_128 ?_
  refine lv_iconst (v := (nI 1)) F.1 F.2.1 dL_called_129 (by decide) ?_
  obtain ⟨z7, ez7, hf⟩ := qn_x hf
  refine qr_iadd F ez7 dL_called_130 ?_
  refine lv_iload F.1 F.2.1 dL_called_131 (lv_at hl 6 rfl) ?_
  obtain ⟨g8, hf⟩ := qg_x hf
  obtain ⟨m9, em9, hf⟩ := qn_x hf
  refine qr_ast F G hP hS (qw_u1s _ _ _) (qw_I9 (c := 3) (n := 48) hv (by decide)) g8 rfl (qw_fx em9) dL_called_133 (fun H locs hP hS => ?_)
  refine lv_aload_n F.1 F.2.1 dL_called_134 rfl (lv_at hl 2 rfl) ?_
  refine lv_iconst (v := (nI 3)) F.1 F.2.1 dL_called_135 (by decide) ?_
  refine lv_aload_n F.1 F.2.1 dL_called_136 rfl (lv_at hl 0 rfl) ?_
  refine lv_bipush (v := (nI 12)) F.1 F.2.1 dL_called_137 (by decide) ?_
  obtain ⟨z10, ez10, hf⟩ := qn_x hf
  refine qr_ald F G hP (qw_u1s _ _ _) (qw_I9 (c := 1) (n := 15) hv (by decide)) (by unfold vp_in; decide) (by decide) ez10 dL_called_139 ?_
  obtain ⟨z11, ez11, hf⟩ := qn_x hf
  refine qr_imul F ez11 dL_called_140 ?_
  refine lv_iconst (v := (nI 2)) F.1 F.2.1 dL_called_141 (by decide) ?_
  obtain ⟨z12, ez12, hf⟩ := qn_x hf
  refine qr_iadd F ez12 dL_called_142 ?_
  refine lv_dup2_11 F.1 F.2.1 dL_called_143 rfl rfl ?_
  obtain ⟨g14, hf⟩ := qg_x hf
  obtain ⟨z13, ez13, hf⟩ := qn_x hf
  refine qr_ald F G hP (qw_u1s _ _ _) (qw_I9 (c := 3) (n := 48) hv (by decide)) g14 rfl ez13 dL_called_144 ?_
  refine lv_iconst (v := (nI 1)) F.1 F.2.1 dL_called_145 (by decide) ?_
  obtain ⟨z15, ez15, hf⟩ := qn_x hf
  refine qr_iadd F ez15 dL_called_146 ?_
  obtain ⟨g16, hf⟩ := qg_x hf
  obtain ⟨m17, em17, hf⟩ := qn_x hf
  refine qr_ast F G hP hS (qw_u1s _ _ _) (qw_I9 (c := 3) (n := 48) hv (by decide)) g16 rfl (qw_fx em17) dL_called_147 (fun H locs hP hS => ?_)
  refine lv_aload_n F.1 F.2.1 dL_called_148 rfl (lv_at hl 1 rfl) ?_
  refine lv_aload_n F.1 F.2.1 dL_called_149 rfl (lv_at hl 0 rfl) ?_
  refine lv_iconst (v := (nI 0)) F.1 F.2.1 dL_called_150 (by decide) ?_
  obtain ⟨z18, ez18, hf⟩ := qn_x hf
  refine qr_ald F G hP (qw_u1s _ _ _) (qw_I9 (c := 1) (n := 15) hv (by decide)) (by unfold vp_in; decide) (by decide) ez18 dL_called_151 ?_
  refine lv_iload F.1 F.2.1 dL_called_152 (lv_at hl 7 rfl) ?_
  obtain ⟨z19, ez19, hf⟩ := qn_x hf
  refine qr_i2l F ez19 dL_called_154 ?_
  refine lv_iload F.1 F.2.1 dL_called_155 (lv_at hl 5 rfl) ?_
  obtain ⟨z20, ez20, hf⟩ := qn_x hf
  refine qr_i2l F ez20 dL_called_157 ?_
  refine lv_bipush (v := (nI 8)) F.1 F.2.1 dL_called_158 (by decide) ?_
  obtain ⟨z21, ez21, hf⟩ := qn_x hf
  refine qr_lshl F ez21 dL_called_160 ?_
  obtain ⟨z22, ez22, hf⟩ := qn_x hf
  refine qr_lor F ez22 dL_called_161 ?_
  refine lv_iload F.1 F.2.1 dL_called_162 (lv_at hl 6 rfl) ?_
  obtain ⟨z23, ez23, hf⟩ := qn_x hf
  refine qr_i2l F ez23 dL_called_164 ?_
  refine lv_bipush (v := (nI 12)) F.1 F.2.1 dL_called_165 (by decide) ?_
  obtain ⟨z24, ez24, hf⟩ := qn_x hf
  refine qr_lshl F ez24 dL_called_167 ?_
  obtain ⟨z25, ez25, hf⟩ := qn_x hf
  refine qr_lor F ez25 dL_called_168 ?_
  refine lv_aload_n F.1 F.2.1 dL_called_169 rfl (lv_at hl 0 rfl) ?_
  refine lv_bipush (v := (nI 12)) F.1 F.2.1 dL_called_170 (by decide) ?_
  obtain ⟨z26, ez26, hf⟩ := qn_x hf
  refine qr_ald F G hP (qw_u1s _ _ _) (qw_I9 (c := 1) (n := 15) hv (by decide)) (by unfold vp_in; decide) (by decide) ez26 dL_called_172 ?_
  obtain ⟨z27, ez27, hf⟩ := qn_x hf
  refine qr_i2l F ez27 dL_called_173 ?_
  refine lv_bipush (v := (nI 22)) F.1 F.2.1 dL_called_174 (by decide) ?_
  obtain ⟨z28, ez28, hf⟩ := qn_x hf
  refine qr_lshl F ez28 dL_called_176 ?_
  obtain ⟨z29, ez29, hf⟩ := qn_x hf
  refine qr_lor F ez29 dL_called_177 ?_
  obtain ⟨g30, hf⟩ := qg_x hf
  obtain ⟨m31, em31, hf⟩ := qn_x hf
  refine qr_stL F G hP hS (qw_u1s _ _ _) (qw_IL9 (c := 2) (n := 40) hv (by decide)) g30 rfl (qw_fx em31) dL_called_178 (fun H locs hP hS => ?_)
  refine lv_aload_n F.1 F.2.1 dL_called_179 rfl (lv_at hl 0 rfl) ?_
  refine lv_iconst (v := (nI 0)) F.1 F.2.1 dL_called_180 (by decide) ?_
  refine lv_dup2_11 F.1 F.2.1 dL_called_181 rfl rfl ?_
  obtain ⟨z32, ez32, hf⟩ := qn_x hf
  refine qr_ald F G hP (qw_u1s _ _ _) (qw_I9 (c := 1) (n := 15) hv (by decide)) (by unfold vp_in; decide) (by decide) ez32 dL_called_182 ?_
  refine lv_iconst (v := (nI 1)) F.1 F.2.1 dL_called_183 (by decide) ?_
  obtain ⟨z33, ez33, hf⟩ := qn_x hf
  refine qr_iadd F ez33 dL_called_184 ?_
  obtain ⟨m34, em34, hf⟩ := qn_x hf
  refine qr_ast F G hP hS (qw_u1s _ _ _) (qw_I9 (c := 1) (n := 15) hv (by decide)) (by unfold vp_in; decide) (by decide) (qw_fx em34) dL_called_185 (fun H locs hP hS => ?_)
  refine lv_aload_n F.1 F.2.1 dL_called_186 rfl (lv_at hl 0 rfl) ?_
  refine lv_bipush (v := (nI 13)) F.1 F.2.1 dL_called_187 (by decide) ?_
  refine lv_aload_n F.1 F.2.1 dL_called_189 rfl (lv_at hl 0 rfl) ?_
  refine lv_iconst (v := (nI 0)) F.1 F.2.1 dL_called_190 (by decide) ?_
  obtain ⟨z35, ez35, hf⟩ := qn_x hf
  refine qr_ald F G hP (qw_u1s _ _ _) (qw_I9 (c := 1) (n := 15) hv (by decide)) (by unfold vp_in; decide) (by decide) ez35 dL_called_191 ?_
  refine lv_aload_n F.1 F.2.1 dL_called_192 rfl (lv_at hl 0 rfl) ?_
  refine lv_bipush (v := (nI 13)) F.1 F.2.1 dL_called_193 (by decide) ?_
  obtain ⟨z36, ez36, hf⟩ := qn_x hf
  refine qr_ald F G hP (qw_u1s _ _ _) (qw_I9 (c := 1) (n := 15) hv (by decide)) (by unfold vp_in; decide) (by decide) ez36 dL_called_195 ?_
  refine lv_icmp_le (tgt := 205) F.1 F.2.1 dL_called_196 (by decide) (fun c37 => ?_) (fun c37 => ?_)
  · replace hf := qi_t c37 hf
    refine lv_aload_n F.1 F.2.1 dL_called_205 rfl (lv_at hl 0 rfl) ?_
    refine lv_bipush (v := (nI 13)) F.1 F.2.1 dL_called_206 (by decide) ?_
    obtain ⟨z38, ez38, hf⟩ := qn_x hf
    refine qr_ald F G hP (qw_u1s _ _ _) (qw_I9 (c := 1) (n := 15) hv (by decide)) (by unfold vp_in; decide) (by decide) ez38 dL_called_208 ?_
    exact qb_L_called_209 F G hv hQ _ _ _ _ _ _ _ _ hf hP hS (lv_sub hl [0, 3, 4, 6, 7] rfl)
  · replace hf := qi_f c37 hf
    refine lv_aload_n F.1 F.2.1 dL_called_199 rfl (lv_at hl 0 rfl) ?_
    refine lv_iconst (v := (nI 0)) F.1 F.2.1 dL_called_200 (by decide) ?_
    obtain ⟨z39, ez39, hf⟩ := qn_x hf
    refine qr_ald F G hP (qw_u1s _ _ _) (qw_I9 (c := 1) (n := 15) hv (by decide)) (by unfold vp_in; decide) (by decide) ez39 dL_called_201 ?_
    refine lv_goto (tgt := 209) F.1 F.2.1 dL_called_202 (by decide) ?_
    exact qb_L_called_209 F G hv hQ _ _ _ _ _ _ _ _ hf hP hS (lv_sub hl [0, 3, 4, 6, 7] rfl)
set_option maxRecDepth 100000 in
set_option maxHeartbeats 4000000 in
theorem qb_L_called_35 {p : Program} {l : Launch} {e : Env} {s : State} {mi : MethodId} {args : Array Value} {below : List Frame} {meth : Method} {co : Code} {Q : State → Prop} {L : wL} {M : wM} {h : Nat → Nat} {r : Int32} {m9 : wm} (F : CallFix p mi co cL_called 10 s args wsL_called RL) (G : qw_G L (qw_A L) s) (hv : qw_9 L) (hQ : qw_RI p l e rm_L_called s mi args below meth co cL_called .int Q L r (qw_u1 M 9 m9) h) : ∀ (n : Nat) (x5 : Int32) (x6 : Int32) (x7 : Int32) (x8 : Int32) (m : wm) (H : Heap) (locs : List Loc) (ls : Array Slot), qf_L_called_35 n x5 x6 x7 x8 m = some (r, m9) → qw_P L (qw_u1 M 9 m) h H → va_S (qw_A L) s.heap H locs → lv_has ls 10 [(0, .ref (qw_ad L 9 1)), (1, .ref (qw_ad L 9 2)), (2, .ref (qw_ad L 9 3)), (3, .ref (qw_ad L 9 4)), (4, .ref (qw_ad L 9 6)), (5, .int x5), (6, .int x6), (7, .int x7), (8, .int x8)] → W p l e rm_L_called s mi args below meth co H locs 0 0 Q (F0 mi 35 ls []) := by
  intro n
  induction n with
  | zero =>
    intro x5 x6 x7 x8 m H locs ls hf hP hS hl
    rw [qf_L_called_35] at hf
    cases hf
  | succ n ih =>
    intro x5 x6 x7 x8 m H locs ls hf hP hS hl
    rw [qf_L_called_35] at hf
    refine lv_iload F.1 F.2.1 dL_called_35 (lv_at hl 8 rfl) ?_
    refine lv_aload_n F.1 F.2.1 dL_called_37 rfl (lv_at hl 0 rfl) ?_
    refine lv_iconst (v := (nI 0)) F.1 F.2.1 dL_called_38 (by decide) ?_
    obtain ⟨z1, ez1, hf⟩ := qn_x hf
    refine qr_ald F G hP (qw_u1s _ _ _) (qw_I9 (c := 1) (n := 15) hv (by decide)) (by unfold vp_in; decide) (by decide) ez1 dL_called_39 ?_
    refine lv_icmp_ge (tgt := 112) F.1 F.2.1 dL_called_40 (by decide) (fun c2 => ?_) (fun c2 => ?_)
    · replace hf := qi_t c2 hf
      exact qb_L_called_112 F G hv hQ _ _ _ _ _ _ _ hf hP hS (lv_sub hl [0, 1, 2, 3, 4, 5, 6, 7] rfl)
    · replace hf := qi_f c2 hf
      refine lv_aload_n F.1 F.2.1 dL_called_43 rfl (lv_at hl 1 rfl) ?_
      refine lv_iload F.1 F.2.1 dL_called_44 (lv_at hl 8 rfl) ?_
      obtain ⟨g4, hf⟩ := qg_x hf
      obtain ⟨z3, ez3, hf⟩ := qn_x hf
      refine qr_ldL F G hP (qw_u1s _ _ _) (qw_IL9 (c := 2) (n := 40) hv (by decide)) g4 rfl ez3 dL_called_46 ?_
      refine lv_bipush (v := (nI 22)) F.1 F.2.1 dL_called_47 (by decide) ?_
      obtain ⟨z5, ez5, hf⟩ := qn_x hf
      refine qr_lshr F ez5 dL_called_49 ?_
      refine qr_ldc2 F (v := (15 : Int64)) (List.mem_of_getElem? (i := 1) rfl) dL_called_50 ?_
      obtain ⟨z6, ez6, hf⟩ := qn_x hf
      refine qr_land F ez6 dL_called_53 ?_
      refine lv_aload_n F.1 F.2.1 dL_called_54 rfl (lv_at hl 0 rfl) ?_
      refine lv_bipush (v := (nI 12)) F.1 F.2.1 dL_called_55 (by decide) ?_
      obtain ⟨z7, ez7, hf⟩ := qn_x hf
      refine qr_ald F G hP (qw_u1s _ _ _) (qw_I9 (c := 1) (n := 15) hv (by decide)) (by unfold vp_in; decide) (by decide) ez7 dL_called_57 ?_
      obtain ⟨z8, ez8, hf⟩ := qn_x hf
      refine qr_i2l F ez8 dL_called_58 ?_
      obtain ⟨z9, ez9, hf⟩ := qn_x hf
      refine qr_lcmp F ez9 dL_called_59 ?_
      refine lv_if_ne (tgt := 77) F.1 F.2.1 dL_called_60 (by decide) (fun c10 => ?_) (fun c10 => ?_)
      · replace hf := qi_f c10 hf
        refine lv_iconst (v := (nI 0)) F.1 F.2.1 dL_called_77 (by decide) ?_
        refine lv_istore (lv' := [(9, .int (nI 0)), (0, .ref (qw_ad L 9 1)), (1, .ref (qw_ad L 9 2)), (2, .ref (qw_ad L 9 3)), (3, .ref (qw_ad L 9 4)), (4, .ref (qw_ad L 9 6)), (5, .int x5), (6, .int x6), (7, .int x7), (8, .int x8)]) F.1 F.2.1 dL_called_78 hl (by decide) rfl (fun ls hl => ?_)
        refine lv_aload_n F.1 F.2.1 dL_called_80 rfl (lv_at hl 2 rfl) ?_
        refine lv_iload F.1 F.2.1 dL_called_81 (lv_at hl 9 rfl) ?_
        refine lv_dup2_11 F.1 F.2.1 dL_called_83 rfl rfl ?_
        obtain ⟨g12, hf⟩ := qg_x hf
        obtain ⟨z11, ez11, hf⟩ := qn_x hf
        refine qr_ldL F G hP (qw_u1s _ _ _) (qw_IL9 (c := 2) (n := 40) hv (by decide)) g12 rfl ez11 dL_called_84 ?_
        refine lv_iload F.1 F.2.1 dL_called_85 (lv_at hl 0 rfl) ?_
        refine lv_if_eq (tgt := 103) F.1 F.2.1 dL_called_87 (by decide) (fun _ => ?_) (fun c13 => absurd c13 (by decide))
        refine lv_lconst (v := (lN 0)) F.1 F.2.1 dL_called_103 rfl ?_
        obtain ⟨z14, ez14, hf⟩ := qn_x hf
        refine qr_ladd F ez14 dL_called_104 ?_
        obtain ⟨g15, hf⟩ := qg_x hf
        obtain ⟨m16, em16, hf⟩ := qn_x hf
        refine qr_stL F G hP hS (qw_u1s _ _ _) (qw_IL9 (c := 2) (n := 40) hv (by decide)) g15 rfl (qw_fx em16) dL_called_105 (fun H locs hP hS => ?_)
        obtain ⟨z17, ez17, hf⟩ := qn_x hf
        refine lv_iinc (v := z17) (lv' := [(8, .int z17), (9, .int (nI 0)), (0, .ref (qw_ad L 9 1)), (1, .ref (qw_ad L 9 2)), (2, .ref (qw_ad L 9 3)), (3, .ref (qw_ad L 9 4)), (4, .ref (qw_ad L 9 6)), (5, .int x5), (6, .int x6), (7, .int x7)]) F.1 F.2.1 dL_called_106 hl (k := 9) rfl ((qw_ii1 _).trans ez17.symm) (by decide) rfl (fun ls hl => ?_)
        refine lv_goto (tgt := 35) F.1 F.2.1 dL_called_109 (by decide) ?_
        exact ih _ _ _ _ _ _ _ _ hf hP hS (lv_sub hl [2, 3, 4, 5, 6, 7, 8, 9, 0] rfl)
      · replace hf := qi_t c10 hf
        refine lv_aload_n F.1 F.2.1 dL_called_63 rfl (lv_at hl 1 rfl) ?_
        refine lv_iload F.1 F.2.1 dL_called_64 (lv_at hl 8 rfl) ?_
        obtain ⟨g19, hf⟩ := qg_x hf
        obtain ⟨z18, ez18, hf⟩ := qn_x hf
        refine qr_ldL F G hP (qw_u1s _ _ _) (qw_IL9 (c := 2) (n := 40) hv (by decide)) g19 rfl ez18 dL_called_66 ?_
        obtain ⟨r20, k21, hf⟩ := qb1_x hf
        refine qr_cSi F G hP hS (qc_L_by l G.2.1 k21) gL_called_L_by rfl ⟨rfl, rfl⟩ e_L_by ⟨Nat.le_of_ble_eq_true rfl, Nat.le_of_ble_eq_true rfl⟩ rfl hl.1 rfl (Nat.le_of_ble_eq_true rfl) ⟨Nat.zero_le _, Nat.zero_le _⟩ dL_called_67 (fun H locs hP hS => ?_)
        refine lv_if_ge (tgt := 77) F.1 F.2.1 dL_called_70 (by decide) (fun c22 => ?_) (fun c22 => ?_)
        · replace hf := qi_t c22 hf
          refine lv_iconst (v := (nI 0)) F.1 F.2.1 dL_called_77 (by decide) ?_
          refine lv_istore (lv' := [(9, .int (nI 0)), (0, .ref (qw_ad L 9 1)), (1, .ref (qw_ad L 9 2)), (2, .ref (qw_ad L 9 3)), (3, .ref (qw_ad L 9 4)), (4, .ref (qw_ad L 9 6)), (5, .int x5), (6, .int x6), (7, .int x7), (8, .int x8)]) F.1 F.2.1 dL_called_78 hl (by decide) rfl (fun ls hl => ?_)
          refine lv_aload_n F.1 F.2.1 dL_called_80 rfl (lv_at hl 2 rfl) ?_
          refine lv_iload F.1 F.2.1 dL_called_81 (lv_at hl 9 rfl) ?_
          refine lv_dup2_11 F.1 F.2.1 dL_called_83 rfl rfl ?_
          obtain ⟨g24, hf⟩ := qg_x hf
          obtain ⟨z23, ez23, hf⟩ := qn_x hf
          refine qr_ldL F G hP (qw_u1s _ _ _) (qw_IL9 (c := 2) (n := 40) hv (by decide)) g24 rfl ez23 dL_called_84 ?_
          refine lv_iload F.1 F.2.1 dL_called_85 (lv_at hl 0 rfl) ?_
          refine lv_if_eq (tgt := 103) F.1 F.2.1 dL_called_87 (by decide) (fun _ => ?_) (fun c25 => absurd c25 (by decide))
          refine lv_lconst (v := (lN 0)) F.1 F.2.1 dL_called_103 rfl ?_
          obtain ⟨z26, ez26, hf⟩ := qn_x hf
          refine qr_ladd F ez26 dL_called_104 ?_
          obtain ⟨g27, hf⟩ := qg_x hf
          obtain ⟨m28, em28, hf⟩ := qn_x hf
          refine qr_stL F G hP hS (qw_u1s _ _ _) (qw_IL9 (c := 2) (n := 40) hv (by decide)) g27 rfl (qw_fx em28) dL_called_105 (fun H locs hP hS => ?_)
          obtain ⟨z29, ez29, hf⟩ := qn_x hf
          refine lv_iinc (v := z29) (lv' := [(8, .int z29), (9, .int (nI 0)), (0, .ref (qw_ad L 9 1)), (1, .ref (qw_ad L 9 2)), (2, .ref (qw_ad L 9 3)), (3, .ref (qw_ad L 9 4)), (4, .ref (qw_ad L 9 6)), (5, .int x5), (6, .int x6), (7, .int x7)]) F.1 F.2.1 dL_called_106 hl (k := 9) rfl ((qw_ii1 _).trans ez29.symm) (by decide) rfl (fun ls hl => ?_)
          refine lv_goto (tgt := 35) F.1 F.2.1 dL_called_109 (by decide) ?_
          exact ih _ _ _ _ _ _ _ _ hf hP hS (lv_sub hl [2, 3, 4, 5, 6, 7, 8, 9, 0] rfl)
        · replace hf := qi_f c22 hf
          refine lv_iconst (v := (nI 1)) F.1 F.2.1 dL_called_73 (by decide) ?_
          refine lv_goto (tgt := 78) F.1 F.2.1 dL_called_74 (by decide) ?_
          refine lv_istore (lv' := [(9, .int (nI 1)), (0, .ref (qw_ad L 9 1)), (1, .ref (qw_ad L 9 2)), (2, .ref (qw_ad L 9 3)), (3, .ref (qw_ad L 9 4)), (4, .ref (qw_ad L 9 6)), (5, .int x5), (6, .int x6), (7, .int x7), (8, .int x8)]) F.1 F.2.1 dL_called_78 hl (by decide) rfl (fun ls hl => ?_)
          refine lv_aload_n F.1 F.2.1 dL_called_80 rfl (lv_at hl 2 rfl) ?_
          refine lv_iload F.1 F.2.1 dL_called_81 (lv_at hl 9 rfl) ?_
          refine lv_dup2_11 F.1 F.2.1 dL_called_83 rfl rfl ?_
          obtain ⟨g31, hf⟩ := qg_x hf
          obtain ⟨z30, ez30, hf⟩ := qn_x hf
          refine qr_ldL F G hP (qw_u1s _ _ _) (qw_IL9 (c := 2) (n := 40) hv (by decide)) g31 rfl ez30 dL_called_84 ?_
          refine lv_iload F.1 F.2.1 dL_called_85 (lv_at hl 0 rfl) ?_
          refine lv_if_eq (tgt := 103) F.1 F.2.1 dL_called_87 (by decide) (fun c32 => absurd c32 (by decide)) (fun _ => ?_)
          refine lv_iload F.1 F.2.1 dL_called_90 (lv_at hl 8 rfl) ?_
          obtain ⟨z33, ez33, hf⟩ := qn_x hf
          refine qr_i2l F ez33 dL_called_92 ?_
          refine qr_ldc2 F (v := (9 : Int64)) (List.mem_of_getElem? (i := 2) rfl) dL_called_93 ?_
          obtain ⟨z34, ez34, hf⟩ := qn_x hf
          refine qr_ladd F ez34 dL_called_96 ?_
          refine lv_bipush (v := (nI 26)) F.1 F.2.1 dL_called_97 (by decide) ?_
          obtain ⟨z35, ez35, hf⟩ := qn_x hf
          refine qr_lshl F ez35 dL_called_99 ?_
          refine lv_goto (tgt := 104) F.1 F.2.1 dL_called_100 (by decide) ?_
          obtain ⟨z36, ez36, hf⟩ := qn_x hf
          refine qr_ladd F ez36 dL_called_104 ?_
          obtain ⟨g37, hf⟩ := qg_x hf
          obtain ⟨m38, em38, hf⟩ := qn_x hf
          refine qr_stL F G hP hS (qw_u1s _ _ _) (qw_IL9 (c := 2) (n := 40) hv (by decide)) g37 rfl (qw_fx em38) dL_called_105 (fun H locs hP hS => ?_)
          obtain ⟨z39, ez39, hf⟩ := qn_x hf
          refine lv_iinc (v := z39) (lv' := [(8, .int z39), (9, .int (nI 1)), (0, .ref (qw_ad L 9 1)), (1, .ref (qw_ad L 9 2)), (2, .ref (qw_ad L 9 3)), (3, .ref (qw_ad L 9 4)), (4, .ref (qw_ad L 9 6)), (5, .int x5), (6, .int x6), (7, .int x7)]) F.1 F.2.1 dL_called_106 hl (k := 9) rfl ((qw_ii1 _).trans ez39.symm) (by decide) rfl (fun ls hl => ?_)
          refine lv_goto (tgt := 35) F.1 F.2.1 dL_called_109 (by decide) ?_
          exact ih _ _ _ _ _ _ _ _ hf hP hS (lv_sub hl [2, 3, 4, 5, 6, 7, 8, 9, 0] rfl)
set_option maxRecDepth 100000 in
set_option maxHeartbeats 4000000 in
theorem qb_L_called_31 {p : Program} {l : Launch} {e : Env} {s : State} {mi : MethodId} {args : Array Value} {below : List Frame} {meth : Method} {co : Code} {Q : State → Prop} {L : wL} {M : wM} {h : Nat → Nat} {r : Int32} {m9 : wm} (F : CallFix p mi co cL_called 10 s args wsL_called RL) (G : qw_G L (qw_A L) s) (hv : qw_9 L) (hQ : qw_RI p l e rm_L_called s mi args below meth co cL_called .int Q L r (qw_u1 M 9 m9) h) : ∀ (x5 : Int32) (x6 : Int32) (x7 : Int32) (y0 : Int32) (y1 : Int32) (m : wm) (H : Heap) (locs : List Loc) (ls : Array Slot), qf_L_called_31 x5 x6 x7 y0 y1 m = some (r, m9) → qw_P L (qw_u1 M 9 m) h H → va_S (qw_A L) s.heap H locs → lv_has ls 10 [(0, .ref (qw_ad L 9 1)), (1, .ref (qw_ad L 9 2)), (2, .ref (qw_ad L 9 3)), (3, .ref (qw_ad L 9 4)), (4, .ref (qw_ad L 9 6)), (5, .int x5), (6, .int x6), (7, .int x7)] → W p l e rm_L_called s mi args below meth co H locs 0 0 Q (F0 mi 31 ls [.int y0, .int y1, .ref (qw_ad L 9 1)]) := by
  intro x5 x6 x7 y0 y1 m H locs ls hf hP hS hl
  unfold qf_L_called_31 at hf
  obtain ⟨g1, hf⟩ := qg_x hf
  obtain ⟨m2, em2, hf⟩ := qn_x hf
  refine qr_ast F G hP hS (qw_u1s _ _ _) (qw_I9 (c := 1) (n := 15) hv (by decide)) g1 rfl (qw_fx em2) dL_called_31 (fun H locs hP hS => ?_)
  refine lv_iconst (v := (nI 0)) F.1 F.2.1 dL_called_32 (by decide) ?_
  refine lv_istore (lv' := [(8, .int (nI 0)), (0, .ref (qw_ad L 9 1)), (1, .ref (qw_ad L 9 2)), (2, .ref (qw_ad L 9 3)), (3, .ref (qw_ad L 9 4)), (4, .ref (qw_ad L 9 6)), (5, .int x5), (6, .int x6), (7, .int x7)]) F.1 F.2.1 dL_called_33 hl (by decide) rfl (fun ls hl => ?_)
  exact qb_L_called_35 F G hv hQ _ _ _ _ _ _ _ _ _ hf hP hS (lv_sub hl [1, 2, 3, 4, 5, 6, 7, 8, 0] rfl)
set_option maxRecDepth 100000 in
set_option maxHeartbeats 4000000 in
theorem qb_L_called {p : Program} {l : Launch} {e : Env} {s : State} {mi : MethodId} {args : Array Value} {below : List Frame} {meth : Method} {co : Code} {Q : State → Prop} {L : wL} {M : wM} {h : Nat → Nat} {r : Int32} {m9 : wm} (F : CallFix p mi co cL_called 10 s args wsL_called RL) (G : qw_G L (qw_A L) s) (hv : qw_9 L) (hQ : qw_RI p l e rm_L_called s mi args below meth co cL_called .int Q L r (qw_u1 M 9 m9) h) : ∀ (x5 : Int32) (x6 : Int32) (m : wm) (H : Heap) (locs : List Loc) (ls : Array Slot), qf_L_called x5 x6 m = some (r, m9) → qw_P L (qw_u1 M 9 m) h H → va_S (qw_A L) s.heap H locs → lv_has ls 10 [(0, .ref (qw_ad L 9 1)), (1, .ref (qw_ad L 9 2)), (2, .ref (qw_ad L 9 3)), (3, .ref (qw_ad L 9 4)), (4, .ref (qw_ad L 9 6)), (5, .int x5), (6, .int x6)] → W p l e rm_L_called s mi args below meth co H locs 0 0 Q (F0 mi 0 ls []) := by
  intro x5 x6 m H locs ls hf hP hS hl
  unfold qf_L_called at hf
  refine lv_aload_n F.1 F.2.1 dL_called_0 rfl (lv_at hl 0 rfl) ?_
  refine lv_iconst (v := (nI 2)) F.1 F.2.1 dL_called_1 (by decide) ?_
  obtain ⟨z1, ez1, hf⟩ := qn_x hf
  refine qr_ald F G hP (qw_u1s _ _ _) (qw_I9 (c := 1) (n := 15) hv (by decide)) (by unfold vp_in; decide) (by decide) ez1 dL_called_2 ?_
  refine lv_istore (lv' := [(7, .int z1), (0, .ref (qw_ad L 9 1)), (1, .ref (qw_ad L 9 2)), (2, .ref (qw_ad L 9 3)), (3, .ref (qw_ad L 9 4)), (4, .ref (qw_ad L 9 6)), (5, .int x5), (6, .int x6)]) F.1 F.2.1 dL_called_3 hl (by decide) rfl (fun ls hl => ?_)
  refine lv_aload_n F.1 F.2.1 dL_called_5 rfl (lv_at hl 1 rfl) ?_
  refine lv_bipush (v := (nI 12)) F.1 F.2.1 dL_called_6 (by decide) ?_
  refine lv_aload_n F.1 F.2.1 dL_called_8 rfl (lv_at hl 1 rfl) ?_
  refine lv_bipush (v := (nI 12)) F.1 F.2.1 dL_called_9 (by decide) ?_
  obtain ⟨z2, ez2, hf⟩ := qn_x hf
  refine qr_ald F G hP (qw_u1s _ _ _) (qw_I9 (c := 1) (n := 15) hv (by decide)) (by unfold vp_in; decide) (by decide) ez2 dL_called_11 ?_
  refine lv_iconst (v := (nI 1)) F.1 F.2.1 dL_called_12 (by decide) ?_
  obtain ⟨z3, ez3, hf⟩ := qn_x hf
  refine qr_iadd F ez3 dL_called_13 ?_
  refine lv_aload_n F.1 F.2.1 dL_called_14 rfl (lv_at hl 1 rfl) ?_
  refine lv_bipush (v := (nI 11)) F.1 F.2.1 dL_called_15 (by decide) ?_
  obtain ⟨z4, ez4, hf⟩ := qn_x hf
  refine qr_ald F G hP (qw_u1s _ _ _) (qw_I9 (c := 1) (n := 15) hv (by decide)) (by unfold vp_in; decide) (by decide) ez4 dL_called_17 ?_
  refine lv_icmp_ne (tgt := 25) F.1 F.2.1 dL_called_18 (by decide) (fun c5 => ?_) (fun c5 => ?_)
  · replace hf := qi_f c5 hf
    refine lv_aload_n F.1 F.2.1 dL_called_25 rfl (lv_at hl 1 rfl) ?_
    refine lv_bipush (v := (nI 12)) F.1 F.2.1 dL_called_26 (by decide) ?_
    obtain ⟨z6, ez6, hf⟩ := qn_x hf
    refine qr_ald F G hP (qw_u1s _ _ _) (qw_I9 (c := 1) (n := 15) hv (by decide)) (by unfold vp_in; decide) (by decide) ez6 dL_called_28 ?_
    refine lv_iconst (v := (nI 1)) F.1 F.2.1 dL_called_29 (by decide) ?_
    obtain ⟨z7, ez7, hf⟩ := qn_x hf
    refine qr_iadd F ez7 dL_called_30 ?_
    exact qb_L_called_31 F G hv hQ _ _ _ _ _ _ _ _ _ hf hP hS (lv_sub hl [1, 2, 3, 4, 5, 6, 7, 0] rfl)
  · replace hf := qi_t c5 hf
    refine lv_iconst (v := (nI 0)) F.1 F.2.1 dL_called_21 (by decide) ?_
    refine lv_goto (tgt := 31) F.1 F.2.1 dL_called_22 (by decide) ?_
    exact qb_L_called_31 F G hv hQ _ _ _ _ _ _ _ _ _ hf hP hS (lv_sub hl [1, 2, 3, 4, 5, 6, 7, 0] rfl)
set_option maxRecDepth 100000 in
set_option maxHeartbeats 4000000 in
theorem qc_L_called (l : Launch) {L : wL} (hJ : qw_J L) {X X9 : wM} {h : Nat → Nat} {m m9 : wm} (hX : X 9 = m) (hX9 : qw_u1 X 9 m9 = X9) {x5 : Int32} {x6 : Int32} {r : Int32} (hv : qw_9 L) (hf : qf_L_called x5 x6 m = some (r, m9)) : qw_MI l yL_called wsL_called rm_L_called L [.ref (qw_ad L 9 1), .ref (qw_ad L 9 2), .ref (qw_ad L 9 3), .ref (qw_ad L 9 4), .ref (qw_ad L 9 6), .int x5, .int x6] X h r X9 h := by
  subst hX
  subst hX9
  refine qw_MI_of (cc := cL_called) (maxL := 10) (ty := .int) (by decide) rfl hJ (Nat.le_of_ble_eq_true rfl) ?_
  intro p e s mi below meth co Q ls F G hP hQ hl
  exact qb_L_called F G hv hQ _ _ _ _ _ _ hf (by rw [qw_u1i]; exact hP) va_S.rf hl
def rm_L_returned : Room := { frames := 1, cells := 0, slots := 0, locals := 23 }
theorem e_L_returned : qw_hd yL_returned RL 6 := by decide +kernel
set_option maxRecDepth 100000 in
set_option maxHeartbeats 4000000 in
theorem qb_L_returned_294 {p : Program} {l : Launch} {e : Env} {s : State} {mi : MethodId} {args : Array Value} {below : List Frame} {meth : Method} {co : Code} {Q : State → Prop} {L : wL} {M : wM} {h : Nat → Nat} {r : Int32} {m9 : wm} (F : CallFix p mi co cL_returned 14 s args wsL_returned RL) (G : qw_G L (qw_A L) s) (hv : qw_9 L) (hQ : qw_RI p l e rm_L_returned s mi args below meth co cL_returned .int Q L r (qw_u1 M 9 m9) h) : ∀ (x12 : Int32) (y0 : Int32) (y1 : Int32) (m : wm) (H : Heap) (locs : List Loc) (ls : Array Slot), qf_L_returned_294 x12 y0 y1 m = some (r, m9) → qw_P L (qw_u1 M 9 m) h H → va_S (qw_A L) s.heap H locs → lv_has ls 14 [(0, .ref (qw_ad L 9 1)), (3, .ref (qw_ad L 9 4)), (12, .int x12)] → W p l e rm_L_returned s mi args below meth co H locs 0 0 Q (F0 mi 294 ls [.int y0, .int y1, .ref (qw_ad L 9 1)]) := by
  intro x12 y0 y1 m H locs ls hf hP hS hl
  unfold qf_L_returned_294 at hf
  obtain ⟨g1, hf⟩ := qg_x hf
  obtain ⟨m2, em2, hf⟩ := qn_x hf
  refine qr_ast F G hP hS (qw_u1s _ _ _) (qw_I9 (c := 1) (n := 15) hv (by decide)) g1 rfl (qw_fx em2) dL_returned_294 (fun H locs hP hS => ?_)
  refine lv_aload_n F.1 F.2.1 dL_returned_295 rfl (lv_at hl 0 rfl) ?_
  refine lv_aload_n F.1 F.2.1 dL_returned_296 rfl (lv_at hl 1 rfl) ?_
  refine lv_iconst (v := (nI 2)) F.1 F.2.1 dL_returned_297 (by decide) ?_
  refine lv_iconst (v := (nI 0)) F.1 F.2.1 dL_returned_298 (by decide) ?_
  obtain ⟨m4, k3, hf⟩ := qb1_x hf
  refine qr_cSv F G hP hS (qc_L_steps l G.2.1 (qw_u1s _ _ _) (qw_fx rfl) hv k3) gL_returned_L_steps rfl ⟨rfl, rfl⟩ e_L_steps ⟨Nat.le_of_ble_eq_true rfl, Nat.le_of_ble_eq_true rfl⟩ rfl hl.1 rfl (Nat.le_of_ble_eq_true rfl) ⟨Nat.zero_le _, Nat.zero_le _⟩ dL_returned_299 (fun H locs hP hS => ?_)
  refine lv_iload F.1 F.2.1 dL_returned_302 (lv_at hl 2 rfl) ?_
  obtain ⟨e9, e8⟩ := qs2 hf
  subst e9
  subst e8
  exact hQ _ _ _ _ hP hS rfl dL_returned_304
set_option maxRecDepth 100000 in
set_option maxHeartbeats 4000000 in
theorem qb_L_returned_262 {p : Program} {l : Launch} {e : Env} {s : State} {mi : MethodId} {args : Array Value} {below : List Frame} {meth : Method} {co : Code} {Q : State → Prop} {L : wL} {M : wM} {h : Nat → Nat} {r : Int32} {m9 : wm} (F : CallFix p mi co cL_returned 14 s args wsL_returned RL) (G : qw_G L (qw_A L) s) (hv : qw_9 L) (hQ : qw_RI p l e rm_L_returned s mi args below meth co cL_returned .int Q L r (qw_u1 M 9 m9) h) : ∀ (x12 : Int32) (m : wm) (H : Heap) (locs : List Loc) (ls : Array Slot), qf_L_returned_262 x12 m = some (r, m9) → qw_P L (qw_u1 M 9 m) h H → va_S (qw_A L) s.heap H locs → lv_has ls 14 [(0, .ref (qw_ad L 9 1)), (3, .ref (qw_ad L 9 4)), (12, .int x12)] → W p l e rm_L_returned s mi args below meth co H locs 0 0 Q (F0 mi 262 ls []) := by
  intro x12 m H locs ls hf hP hS hl
  unfold qf_L_returned_262 at hf
  refine lv_aload_n F.1 F.2.1 dL_returned_262 rfl (lv_at hl 0 rfl) ?_
  refine lv_iconst (v := (nI 0)) F.1 F.2.1 dL_returned_263 (by decide) ?_
  refine lv_dup2_11 F.1 F.2.1 dL_returned_264 rfl rfl ?_
  obtain ⟨z1, ez1, hf⟩ := qn_x hf
  refine qr_ald F G hP (qw_u1s _ _ _) (qw_I9 (c := 1) (n := 15) hv (by decide)) (by unfold vp_in; decide) (by decide) ez1 dL_returned_265 ?_
  refine lv_iconst (v := (nI 1)) F.1 F.2.1 dL_returned_266 (by decide) ?_
  obtain ⟨z2, ez2, hf⟩ := qn_x hf
  refine qr_isub F ez2 dL_returned_267 ?_
  obtain ⟨m3, em3, hf⟩ := qn_x hf
  refine qr_ast F G hP hS (qw_u1s _ _ _) (qw_I9 (c := 1) (n := 15) hv (by decide)) (by unfold vp_in; decide) (by decide) (qw_fx em3) dL_returned_268 (fun H locs hP hS => ?_)
  refine lv_aload_n F.1 F.2.1 dL_returned_269 rfl (lv_at hl 0 rfl) ?_
  refine lv_bipush (v := (nI 12)) F.1 F.2.1 dL_returned_270 (by decide) ?_
  refine lv_aload_n F.1 F.2.1 dL_returned_272 rfl (lv_at hl 0 rfl) ?_
  refine lv_bipush (v := (nI 12)) F.1 F.2.1 dL_returned_273 (by decide) ?_
  obtain ⟨z4, ez4, hf⟩ := qn_x hf
  refine qr_ald F G hP (qw_u1s _ _ _) (qw_I9 (c := 1) (n := 15) hv (by decide)) (by unfold vp_in; decide) (by decide) ez4 dL_returned_275 ?_
  refine lv_if_ne (tgt := 288) F.1 F.2.1 dL_returned_276 (by decide) (fun c5 => ?_) (fun c5 => ?_)
  · replace hf := qi_f c5 hf
    refine lv_aload_n F.1 F.2.1 dL_returned_288 rfl (lv_at hl 0 rfl) ?_
    refine lv_bipush (v := (nI 12)) F.1 F.2.1 dL_returned_289 (by decide) ?_
    obtain ⟨z6, ez6, hf⟩ := qn_x hf
    refine qr_ald F G hP (qw_u1s _ _ _) (qw_I9 (c := 1) (n := 15) hv (by decide)) (by unfold vp_in; decide) (by decide) ez6 dL_returned_291 ?_
    refine lv_iconst (v := (nI 1)) F.1 F.2.1 dL_returned_292 (by decide) ?_
    obtain ⟨z7, ez7, hf⟩ := qn_x hf
    refine qr_isub F ez7 dL_returned_293 ?_
    exact qb_L_returned_294 F G hv hQ _ _ _ _ _ _ _ hf hP hS (lv_sub hl [0, 1, 2] rfl)
  · replace hf := qi_t c5 hf
    refine lv_aload_n F.1 F.2.1 dL_returned_279 rfl (lv_at hl 0 rfl) ?_
    refine lv_bipush (v := (nI 11)) F.1 F.2.1 dL_returned_280 (by decide) ?_
    obtain ⟨z8, ez8, hf⟩ := qn_x hf
    refine qr_ald F G hP (qw_u1s _ _ _) (qw_I9 (c := 1) (n := 15) hv (by decide)) (by unfold vp_in; decide) (by decide) ez8 dL_returned_282 ?_
    refine lv_iconst (v := (nI 1)) F.1 F.2.1 dL_returned_283 (by decide) ?_
    obtain ⟨z9, ez9, hf⟩ := qn_x hf
    refine qr_isub F ez9 dL_returned_284 ?_
    refine lv_goto (tgt := 294) F.1 F.2.1 dL_returned_285 (by decide) ?_
    exact qb_L_returned_294 F G hv hQ _ _ _ _ _ _ _ hf hP hS (lv_sub hl [0, 1, 2] rfl)
set_option maxRecDepth 100000 in
set_option maxHeartbeats 4000000 in
theorem qb_L_returned_183 {p : Program} {l : Launch} {e : Env} {s : State} {mi : MethodId} {args : Array Value} {below : List Frame} {meth : Method} {co : Code} {Q : State → Prop} {L : wL} {M : wM} {h : Nat → Nat} {r : Int32} {m9 : wm} (F : CallFix p mi co cL_returned 14 s args wsL_returned RL) (G : qw_G L (qw_A L) s) (hv : qw_9 L) (hQ : qw_RI p l e rm_L_returned s mi args below meth co cL_returned .int Q L r (qw_u1 M 9 m9) h) : ∀ (x9 : Int32) (x10 : Int32) (x11 : Int32) (x12 : Int32) (y0 : Int32) (m : wm) (H : Heap) (locs : List Loc) (ls : Array Slot), qf_L_returned_183 x9 x10 x11 x12 y0 m = some (r, m9) → qw_P L (qw_u1 M 9 m) h H → va_S (qw_A L) s.heap H locs → lv_has ls 14 [(0, .ref (qw_ad L 9 1)), (3, .ref (qw_ad L 9 4)), (4, .ref (qw_ad L 9 5)), (5, .ref (qw_ad L 9 6)), (9, .int x9), (10, .int x10), (11, .int x11), (12, .int x12)] → W p l e rm_L_returned s mi args below meth co H locs 0 0 Q (F0 mi 183 ls [.int y0]) := by
  intro x9 x10 x11 x12 y0 m H locs ls hf hP hS hl
  unfold qf_L_returned_183 at hf
  refine lv_istore (lv' := [(13, .int y0), (0, .ref (qw_ad L 9 1)), (3, .ref (qw_ad L 9 4)), (4, .ref (qw_ad L 9 5)), (5, .ref (qw_ad L 9 6)), (9, .int x9), (10, .int x10), (11, .int x11), (12, .int x12)]) F.1 F.2.1 dL_returned_183 hl (by decide) rfl (fun ls hl => ?_)
  refine lv_aload F.1 F.2.1 dL_returned_185 (lv_at hl 3 rfl) ?_
  refine lv_aload_n F.1 F.2.1 dL_returned_187 rfl (lv_at hl 1 rfl) ?_
  refine lv_bipush (v := (nI 10)) F.1 F.2.1 dL_returned_188 (by decide) ?_
  obtain ⟨z1, ez1, hf⟩ := qn_x hf
  refine qr_ald F G hP (qw_u1s _ _ _) (qw_I9 (c := 1) (n := 15) hv (by decide)) (by unfold vp_in; decide) (by decide) ez1 dL_returned_190 ?_
  refine lv_iload F.1 F.2.1 dL_returned_191 (lv_at hl 8 rfl) ?_
  obtain ⟨z2, ez2, hf⟩ := qn_x hf
  refine qr_i2l F ez2 dL_returned_193 ?_
  refine lv_lconst (v := (lN 1)) F.1 F.2.1 dL_returned_194 rfl ?_
  obtain ⟨z3, ez3, hf⟩ := qn_x hf
  refine qr_lsub F ez3 dL_returned_195 ?_
  refine lv_iload F.1 F.2.1 dL_returned_196 (lv_at hl 0 rfl) ?_
  obtain ⟨z4, ez4, hf⟩ := qn_x hf
  refine qr_i2l F ez4 dL_returned_198 ?_
  refine qr_ldc2 F (v := (9 : Int64)) (List.mem_of_getElem? (i := 3) rfl) dL_returned_199 ?_
  obtain ⟨z5, ez5, hf⟩ := qn_x hf
  refine qr_ladd F ez5 dL_returned_202 ?_
  refine lv_iconst (v := (nI 2)) F.1 F.2.1 dL_returned_203 (by decide) ?_
  obtain ⟨z6, ez6, hf⟩ := qn_x hf
  refine qr_lshl F ez6 dL_returned_204 ?_
  obtain ⟨z7, ez7, hf⟩ := qn_x hf
  refine qr_lor F ez7 dL_returned_205 ?_
  refine lv_iload F.1 F.2.1 dL_returned_206 (lv_at hl 7 rfl) ?_
  obtain ⟨z8, ez8, hf⟩ := qn_x hf
  refine qr_i2l F ez8 dL_returned_208 ?_
  refine lv_bipush (v := (nI 10)) F.1 F.2.1 dL_returned_209 (by decide) ?_
  obtain ⟨z9, ez9, hf⟩ := qn_x hf
  refine qr_lshl F ez9 dL_returned_211 ?_
  obtain ⟨z10, ez10, hf⟩ := qn_x hf
  refine qr_lor F ez10 dL_returned_212 ?_
  refine lv_iload F.1 F.2.1 dL_returned_213 (lv_at hl 5 rfl) ?_
  obtain ⟨z11, ez11, hf⟩ := qn_x hf
  refine qr_i2l F ez11 dL_returned_215 ?_
  refine qr_ldc2 F (v := (9 : Int64)) (List.mem_of_getElem? (i := 3) rfl) dL_returned_216 ?_
  obtain ⟨z12, ez12, hf⟩ := qn_x hf
  refine qr_ladd F ez12 dL_returned_219 ?_
  refine lv_bipush (v := (nI 18)) F.1 F.2.1 dL_returned_220 (by decide) ?_
  obtain ⟨z13, ez13, hf⟩ := qn_x hf
  refine qr_lshl F ez13 dL_returned_222 ?_
  obtain ⟨z14, ez14, hf⟩ := qn_x hf
  refine qr_lor F ez14 dL_returned_223 ?_
  refine lv_iload F.1 F.2.1 dL_returned_224 (lv_at hl 6 rfl) ?_
  obtain ⟨z15, ez15, hf⟩ := qn_x hf
  refine qr_i2l F ez15 dL_returned_226 ?_
  refine lv_bipush (v := (nI 28)) F.1 F.2.1 dL_returned_227 (by decide) ?_
  obtain ⟨z16, ez16, hf⟩ := qn_x hf
  refine qr_lshl F ez16 dL_returned_229 ?_
  obtain ⟨z17, ez17, hf⟩ := qn_x hf
  refine qr_lor F ez17 dL_returned_230 ?_
  refine lv_aload_n F.1 F.2.1 dL_returned_231 rfl (lv_at hl 1 rfl) ?_
  refine lv_iconst (v := (nI 1)) F.1 F.2.1 dL_returned_232 (by decide) ?_
  obtain ⟨z18, ez18, hf⟩ := qn_x hf
  refine qr_ald F G hP (qw_u1s _ _ _) (qw_I9 (c := 1) (n := 15) hv (by decide)) (by unfold vp_in; decide) (by decide) ez18 dL_returned_233 ?_
  obtain ⟨z19, ez19, hf⟩ := qn_x hf
  refine qr_i2l F ez19 dL_returned_234 ?_
  refine lv_bipush (v := (nI 38)) F.1 F.2.1 dL_returned_235 (by decide) ?_
  obtain ⟨z20, ez20, hf⟩ := qn_x hf
  refine qr_lshl F ez20 dL_returned_237 ?_
  obtain ⟨z21, ez21, hf⟩ := qn_x hf
  refine qr_lor F ez21 dL_returned_238 ?_
  obtain ⟨g22, hf⟩ := qg_x hf
  obtain ⟨m23, em23, hf⟩ := qn_x hf
  refine qr_stL F G hP hS (qw_u1s _ _ _) (qw_IL9 (c := 5) (n := 64) hv (by decide)) g22 rfl (qw_fx em23) dL_returned_239 (fun H locs hP hS => ?_)
  refine lv_aload_n F.1 F.2.1 dL_returned_240 rfl (lv_at hl 1 rfl) ?_
  refine lv_bipush (v := (nI 10)) F.1 F.2.1 dL_returned_241 (by decide) ?_
  refine lv_dup2_11 F.1 F.2.1 dL_returned_243 rfl rfl ?_
  obtain ⟨z24, ez24, hf⟩ := qn_x hf
  refine qr_ald F G hP (qw_u1s _ _ _) (qw_I9 (c := 1) (n := 15) hv (by decide)) (by unfold vp_in; decide) (by decide) ez24 dL_returned_244 ?_
  refine lv_iconst (v := (nI 1)) F.1 F.2.1 dL_returned_245 (by decide) ?_
  obtain ⟨z25, ez25, hf⟩ := qn_x hf
  refine qr_iadd F ez25 dL_returned_246 ?_
  obtain ⟨m26, em26, hf⟩ := qn_x hf
  refine qr_ast F G hP hS (qw_u1s _ _ _) (qw_I9 (c := 1) (n := 15) hv (by decide)) (by unfold vp_in; decide) (by decide) (qw_fx em26) dL_returned_247 (fun H locs hP hS => ?_)
  refine lv_iload F.1 F.2.1 dL_returned_248 (lv_at hl 0 rfl) ?_
  refine lv_if_lt (tgt := 262) F.1 F.2.1 dL_returned_250 (by decide) (fun c27 => ?_) (fun c27 => ?_)
  · replace hf := qi_t c27 hf
    exact qb_L_returned_262 F G hv hQ _ _ _ _ _ hf hP hS (lv_sub hl [1, 2, 8] rfl)
  · replace hf := qi_f c27 hf
    refine lv_aload F.1 F.2.1 dL_returned_253 (lv_at hl 4 rfl) ?_
    refine lv_iload F.1 F.2.1 dL_returned_255 (lv_at hl 0 rfl) ?_
    refine lv_dup2_11 F.1 F.2.1 dL_returned_257 rfl rfl ?_
    obtain ⟨g29, hf⟩ := qg_x hf
    obtain ⟨z28, ez28, hf⟩ := qn_x hf
    refine qr_ald F G hP (qw_u1s _ _ _) (qw_I9 (c := 6) (n := 64) hv (by decide)) g29 rfl ez28 dL_returned_258 ?_
    refine lv_iconst (v := (nI 1)) F.1 F.2.1 dL_returned_259 (by decide) ?_
    obtain ⟨z30, ez30, hf⟩ := qn_x hf
    refine qr_iadd F ez30 dL_returned_260 ?_
    obtain ⟨g31, hf⟩ := qg_x hf
    obtain ⟨m32, em32, hf⟩ := qn_x hf
    refine qr_ast F G hP hS (qw_u1s _ _ _) (qw_I9 (c := 6) (n := 64) hv (by decide)) g31 rfl (qw_fx em32) dL_returned_261 (fun H locs hP hS => ?_)
    exact qb_L_returned_262 F G hv hQ _ _ _ _ _ hf hP hS (lv_sub hl [1, 2, 8] rfl)
set_option maxRecDepth 100000 in
set_option maxHeartbeats 4000000 in
theorem qb_L_returned_159 {p : Program} {l : Launch} {e : Env} {s : State} {mi : MethodId} {args : Array Value} {below : List Frame} {meth : Method} {co : Code} {Q : State → Prop} {L : wL} {M : wM} {h : Nat → Nat} {r : Int32} {m9 : wm} (F : CallFix p mi co cL_returned 14 s args wsL_returned RL) (G : qw_G L (qw_A L) s) (hv : qw_9 L) (hQ : qw_RI p l e rm_L_returned s mi args below meth co cL_returned .int Q L r (qw_u1 M 9 m9) h) : ∀ (x6 : Int64) (x8 : Int32) (x9 : Int32) (x10 : Int32) (x11 : Int32) (x12 : Int32) (y0 : Int32) (y1 : Int32) (y2 : Int32) (m : wm) (H : Heap) (locs : List Loc) (ls : Array Slot), qf_L_returned_159 x6 x8 x9 x10 x11 x12 y0 y1 y2 m = some (r, m9) → qw_P L (qw_u1 M 9 m) h H → va_S (qw_A L) s.heap H locs → lv_has ls 14 [(0, .ref (qw_ad L 9 1)), (3, .ref (qw_ad L 9 4)), (4, .ref (qw_ad L 9 5)), (5, .ref (qw_ad L 9 6)), (6, .long x6), (8, .int x8), (9, .int x9), (10, .int x10), (11, .int x11), (12, .int x12)] → W p l e rm_L_returned s mi args below meth co H locs 0 0 Q (F0 mi 159 ls [.int y0, .int y1, .int y2, .ref (qw_ad L 9 1)]) := by
  intro x6 x8 x9 x10 x11 x12 y0 y1 y2 m H locs ls hf hP hS hl
  unfold qf_L_returned_159 at hf
  obtain ⟨z1, ez1, hf⟩ := qn_x hf
  refine qr_iadd F ez1 dL_returned_159 ?_
  obtain ⟨g2, hf⟩ := qg_x hf
  obtain ⟨m3, em3, hf⟩ := qn_x hf
  refine qr_ast F G hP hS (qw_u1s _ _ _) (qw_I9 (c := 1) (n := 15) hv (by decide)) g2 rfl (qw_fx em3) dL_returned_160 (fun H locs hP hS => ?_)
  refine lv_iload F.1 F.2.1 dL_returned_161 (lv_at hl 9 rfl) ?_
  refine lv_iconst (v := (nI 1)) F.1 F.2.1 dL_returned_163 (by decide) ?_
  refine lv_icmp_le (tgt := 262) F.1 F.2.1 dL_returned_164 (by decide) (fun c4 => ?_) (fun c4 => ?_)
  · replace hf := qi_t c4 hf
    exact qb_L_returned_262 F G hv hQ _ _ _ _ _ hf hP hS (lv_sub hl [0, 1, 9] rfl)
  · replace hf := qi_f c4 hf
    refine lv_iload F.1 F.2.1 dL_returned_167 (lv_at hl 9 rfl) ?_
    refine lv_iconst (v := (nI 2)) F.1 F.2.1 dL_returned_169 (by decide) ?_
    refine lv_icmp_ne (tgt := 181) F.1 F.2.1 dL_returned_170 (by decide) (fun c5 => ?_) (fun c5 => ?_)
    · replace hf := qi_f c5 hf
      refine lv_iload F.1 F.2.1 dL_returned_181 (lv_at hl 5 rfl) ?_
      exact qb_L_returned_183 F G hv hQ _ _ _ _ _ _ _ _ _ hf hP hS (lv_sub hl [0, 1, 2, 3, 6, 7, 8, 9] rfl)
    · replace hf := qi_t c5 hf
      refine lv_lload F.1 F.2.1 dL_returned_173 (lv_at hl 4 rfl) ?_
      obtain ⟨r6, k7, hf⟩ := qb1_x hf
      refine qr_cSi F G hP hS (qc_L_by l G.2.1 k7) gL_returned_L_by rfl ⟨rfl, rfl⟩ e_L_by ⟨Nat.le_of_ble_eq_true rfl, Nat.le_of_ble_eq_true rfl⟩ rfl hl.1 rfl (Nat.le_of_ble_eq_true rfl) ⟨Nat.zero_le _, Nat.zero_le _⟩ dL_returned_175 (fun H locs hP hS => ?_)
      refine lv_goto (tgt := 183) F.1 F.2.1 dL_returned_178 (by decide) ?_
      exact qb_L_returned_183 F G hv hQ _ _ _ _ _ _ _ _ _ hf hP hS (lv_sub hl [0, 1, 2, 3, 6, 7, 8, 9] rfl)
set_option maxRecDepth 100000 in
set_option maxHeartbeats 4000000 in
theorem qb_L_returned_141 {p : Program} {l : Launch} {e : Env} {s : State} {mi : MethodId} {args : Array Value} {below : List Frame} {meth : Method} {co : Code} {Q : State → Prop} {L : wL} {M : wM} {h : Nat → Nat} {r : Int32} {m9 : wm} (F : CallFix p mi co cL_returned 14 s args wsL_returned RL) (G : qw_G L (qw_A L) s) (hv : qw_9 L) (hQ : qw_RI p l e rm_L_returned s mi args below meth co cL_returned .int Q L r (qw_u1 M 9 m9) h) : ∀ (x6 : Int64) (x8 : Int32) (x9 : Int32) (x10 : Int32) (x11 : Int32) (x12 : Int32) (y0 : Int32) (y1 : Int32) (y2 : Int32) (m : wm) (H : Heap) (locs : List Loc) (ls : Array Slot), qf_L_returned_141 x6 x8 x9 x10 x11 x12 y0 y1 y2 m = some (r, m9) → qw_P L (qw_u1 M 9 m) h H → va_S (qw_A L) s.heap H locs → lv_has ls 14 [(0, .ref (qw_ad L 9 1)), (3, .ref (qw_ad L 9 4)), (4, .ref (qw_ad L 9 5)), (5, .ref (qw_ad L 9 6)), (6, .long x6), (8, .int x8), (9, .int x9), (10, .int x10), (11, .int x11), (12, .int x12)] → W p l e rm_L_returned s mi args below meth co H locs 0 0 Q (F0 mi 141 ls [.int y0, .int y1, .int y2, .ref (qw_ad L 9 1)]) := by
  intro x6 x8 x9 x10 x11 x12 y0 y1 y2 m H locs ls hf hP hS hl
  unfold qf_L_returned_141 at hf
  obtain ⟨z1, ez1, hf⟩ := qn_x hf
  refine qr_iadd F ez1 dL_returned_141 ?_
  obtain ⟨g2, hf⟩ := qg_x hf
  obtain ⟨m3, em3, hf⟩ := qn_x hf
  refine qr_ast F G hP hS (qw_u1s _ _ _) (qw_I9 (c := 1) (n := 15) hv (by decide)) g2 rfl (qw_fx em3) dL_returned_142 (fun H locs hP hS => ?_)
  refine lv_aload_n F.1 F.2.1 dL_returned_143 rfl (lv_at hl 0 rfl) ?_
  refine lv_bipush (v := (nI 9)) F.1 F.2.1 dL_returned_144 (by decide) ?_
  refine lv_dup2_11 F.1 F.2.1 dL_returned_146 rfl rfl ?_
  obtain ⟨z4, ez4, hf⟩ := qn_x hf
  refine qr_ald F G hP (qw_u1s _ _ _) (qw_I9 (c := 1) (n := 15) hv (by decide)) (by unfold vp_in; decide) (by decide) ez4 dL_returned_147 ?_
  refine lv_iload F.1 F.2.1 dL_returned_148 (lv_at hl 9 rfl) ?_
  refine lv_iconst (v := (nI 3)) F.1 F.2.1 dL_returned_150 (by decide) ?_
  refine lv_icmp_ne (tgt := 158) F.1 F.2.1 dL_returned_151 (by decide) (fun c5 => ?_) (fun c5 => ?_)
  · replace hf := qi_f c5 hf
    refine lv_iconst (v := (nI 0)) F.1 F.2.1 dL_returned_158 (by decide) ?_
    exact qb_L_returned_159 F G hv hQ _ _ _ _ _ _ _ _ _ _ _ _ _ hf hP hS (lv_sub hl [0, 1, 2, 3, 4, 5, 6, 7, 8, 9] rfl)
  · replace hf := qi_t c5 hf
    refine lv_iconst (v := (nI 1)) F.1 F.2.1 dL_returned_154 (by decide) ?_
    refine lv_goto (tgt := 159) F.1 F.2.1 dL_returned_155 (by decide) ?_
    exact qb_L_returned_159 F G hv hQ _ _ _ _ _ _ _ _ _ _ _ _ _ hf hP hS (lv_sub hl [0, 1, 2, 3, 4, 5, 6, 7, 8, 9] rfl)
set_option maxRecDepth 100000 in
set_option maxHeartbeats 4000000 in
theorem qb_L_returned_123 {p : Program} {l : Launch} {e : Env} {s : State} {mi : MethodId} {args : Array Value} {below : List Frame} {meth : Method} {co : Code} {Q : State → Prop} {L : wL} {M : wM} {h : Nat → Nat} {r : Int32} {m9 : wm} (F : CallFix p mi co cL_returned 14 s args wsL_returned RL) (G : qw_G L (qw_A L) s) (hv : qw_9 L) (hQ : qw_RI p l e rm_L_returned s mi args below meth co cL_returned .int Q L r (qw_u1 M 9 m9) h) : ∀ (x6 : Int64) (x8 : Int32) (x9 : Int32) (x10 : Int32) (x11 : Int32) (x12 : Int32) (y0 : Int32) (y1 : Int32) (y2 : Int32) (m : wm) (H : Heap) (locs : List Loc) (ls : Array Slot), qf_L_returned_123 x6 x8 x9 x10 x11 x12 y0 y1 y2 m = some (r, m9) → qw_P L (qw_u1 M 9 m) h H → va_S (qw_A L) s.heap H locs → lv_has ls 14 [(0, .ref (qw_ad L 9 1)), (3, .ref (qw_ad L 9 4)), (4, .ref (qw_ad L 9 5)), (5, .ref (qw_ad L 9 6)), (6, .long x6), (8, .int x8), (9, .int x9), (10, .int x10), (11, .int x11), (12, .int x12)] → W p l e rm_L_returned s mi args below meth co H locs 0 0 Q (F0 mi 123 ls [.int y0, .int y1, .int y2, .ref (qw_ad L 9 1)]) := by
  intro x6 x8 x9 x10 x11 x12 y0 y1 y2 m H locs ls hf hP hS hl
  unfold qf_L_returned_123 at hf
  obtain ⟨z1, ez1, hf⟩ := qn_x hf
  refine qr_iadd F ez1 dL_returned_123 ?_
  obtain ⟨g2, hf⟩ := qg_x hf
  obtain ⟨m3, em3, hf⟩ := qn_x hf
  refine qr_ast F G hP hS (qw_u1s _ _ _) (qw_I9 (c := 1) (n := 15) hv (by decide)) g2 rfl (qw_fx em3) dL_returned_124 (fun H locs hP hS => ?_)
  refine lv_aload_n F.1 F.2.1 dL_returned_125 rfl (lv_at hl 0 rfl) ?_
  refine lv_bipush (v := (nI 8)) F.1 F.2.1 dL_returned_126 (by decide) ?_
  refine lv_dup2_11 F.1 F.2.1 dL_returned_128 rfl rfl ?_
  obtain ⟨z4, ez4, hf⟩ := qn_x hf
  refine qr_ald F G hP (qw_u1s _ _ _) (qw_I9 (c := 1) (n := 15) hv (by decide)) (by unfold vp_in; decide) (by decide) ez4 dL_returned_129 ?_
  refine lv_iload F.1 F.2.1 dL_returned_130 (lv_at hl 9 rfl) ?_
  refine lv_iconst (v := (nI 2)) F.1 F.2.1 dL_returned_132 (by decide) ?_
  refine lv_icmp_ne (tgt := 140) F.1 F.2.1 dL_returned_133 (by decide) (fun c5 => ?_) (fun c5 => ?_)
  · replace hf := qi_f c5 hf
    refine lv_iconst (v := (nI 0)) F.1 F.2.1 dL_returned_140 (by decide) ?_
    exact qb_L_returned_141 F G hv hQ _ _ _ _ _ _ _ _ _ _ _ _ _ hf hP hS (lv_sub hl [0, 1, 2, 3, 4, 5, 6, 7, 8, 9] rfl)
  · replace hf := qi_t c5 hf
    refine lv_iconst (v := (nI 1)) F.1 F.2.1 dL_returned_136 (by decide) ?_
    refine lv_goto (tgt := 141) F.1 F.2.1 dL_returned_137 (by decide) ?_
    exact qb_L_returned_141 F G hv hQ _ _ _ _ _ _ _ _ _ _ _ _ _ hf hP hS (lv_sub hl [0, 1, 2, 3, 4, 5, 6, 7, 8, 9] rfl)
set_option maxRecDepth 100000 in
set_option maxHeartbeats 4000000 in
theorem qb_L_returned_105 {p : Program} {l : Launch} {e : Env} {s : State} {mi : MethodId} {args : Array Value} {below : List Frame} {meth : Method} {co : Code} {Q : State → Prop} {L : wL} {M : wM} {h : Nat → Nat} {r : Int32} {m9 : wm} (F : CallFix p mi co cL_returned 14 s args wsL_returned RL) (G : qw_G L (qw_A L) s) (hv : qw_9 L) (hQ : qw_RI p l e rm_L_returned s mi args below meth co cL_returned .int Q L r (qw_u1 M 9 m9) h) : ∀ (x6 : Int64) (x8 : Int32) (x9 : Int32) (x10 : Int32) (x11 : Int32) (x12 : Int32) (y0 : Int32) (y1 : Int32) (y2 : Int32) (m : wm) (H : Heap) (locs : List Loc) (ls : Array Slot), qf_L_returned_105 x6 x8 x9 x10 x11 x12 y0 y1 y2 m = some (r, m9) → qw_P L (qw_u1 M 9 m) h H → va_S (qw_A L) s.heap H locs → lv_has ls 14 [(0, .ref (qw_ad L 9 1)), (3, .ref (qw_ad L 9 4)), (4, .ref (qw_ad L 9 5)), (5, .ref (qw_ad L 9 6)), (6, .long x6), (8, .int x8), (9, .int x9), (10, .int x10), (11, .int x11), (12, .int x12)] → W p l e rm_L_returned s mi args below meth co H locs 0 0 Q (F0 mi 105 ls [.int y0, .int y1, .int y2, .ref (qw_ad L 9 1)]) := by
  intro x6 x8 x9 x10 x11 x12 y0 y1 y2 m H locs ls hf hP hS hl
  unfold qf_L_returned_105 at hf
  obtain ⟨z1, ez1, hf⟩ := qn_x hf
  refine qr_iadd F ez1 dL_returned_105 ?_
  obtain ⟨g2, hf⟩ := qg_x hf
  obtain ⟨m3, em3, hf⟩ := qn_x hf
  refine qr_ast F G hP hS (qw_u1s _ _ _) (qw_I9 (c := 1) (n := 15) hv (by decide)) g2 rfl (qw_fx em3) dL_returned_106 (fun H locs hP hS => ?_)
  refine lv_aload_n F.1 F.2.1 dL_returned_107 rfl (lv_at hl 0 rfl) ?_
  refine lv_bipush (v := (nI 7)) F.1 F.2.1 dL_returned_108 (by decide) ?_
  refine lv_dup2_11 F.1 F.2.1 dL_returned_110 rfl rfl ?_
  obtain ⟨z4, ez4, hf⟩ := qn_x hf
  refine qr_ald F G hP (qw_u1s _ _ _) (qw_I9 (c := 1) (n := 15) hv (by decide)) (by unfold vp_in; decide) (by decide) ez4 dL_returned_111 ?_
  refine lv_iload F.1 F.2.1 dL_returned_112 (lv_at hl 9 rfl) ?_
  refine lv_iconst (v := (nI 1)) F.1 F.2.1 dL_returned_114 (by decide) ?_
  refine lv_icmp_ne (tgt := 122) F.1 F.2.1 dL_returned_115 (by decide) (fun c5 => ?_) (fun c5 => ?_)
  · replace hf := qi_f c5 hf
    refine lv_iconst (v := (nI 0)) F.1 F.2.1 dL_returned_122 (by decide) ?_
    exact qb_L_returned_123 F G hv hQ _ _ _ _ _ _ _ _ _ _ _ _ _ hf hP hS (lv_sub hl [0, 1, 2, 3, 4, 5, 6, 7, 8, 9] rfl)
  · replace hf := qi_t c5 hf
    refine lv_iconst (v := (nI 1)) F.1 F.2.1 dL_returned_118 (by decide) ?_
    refine lv_goto (tgt := 123) F.1 F.2.1 dL_returned_119 (by decide) ?_
    exact qb_L_returned_123 F G hv hQ _ _ _ _ _ _ _ _ _ _ _ _ _ hf hP hS (lv_sub hl [0, 1, 2, 3, 4, 5, 6, 7, 8, 9] rfl)
set_option maxRecDepth 100000 in
set_option maxHeartbeats 4000000 in
theorem qb_L_returned_87 {p : Program} {l : Launch} {e : Env} {s : State} {mi : MethodId} {args : Array Value} {below : List Frame} {meth : Method} {co : Code} {Q : State → Prop} {L : wL} {M : wM} {h : Nat → Nat} {r : Int32} {m9 : wm} (F : CallFix p mi co cL_returned 14 s args wsL_returned RL) (G : qw_G L (qw_A L) s) (hv : qw_9 L) (hQ : qw_RI p l e rm_L_returned s mi args below meth co cL_returned .int Q L r (qw_u1 M 9 m9) h) : ∀ (x6 : Int64) (x8 : Int32) (x9 : Int32) (x10 : Int32) (x11 : Int32) (y0 : Int32) (m : wm) (H : Heap) (locs : List Loc) (ls : Array Slot), qf_L_returned_87 x6 x8 x9 x10 x11 y0 m = some (r, m9) → qw_P L (qw_u1 M 9 m) h H → va_S (qw_A L) s.heap H locs → lv_has ls 14 [(0, .ref (qw_ad L 9 1)), (3, .ref (qw_ad L 9 4)), (4, .ref (qw_ad L 9 5)), (5, .ref (qw_ad L 9 6)), (6, .long x6), (8, .int x8), (9, .int x9), (10, .int x10), (11, .int x11)] → W p l e rm_L_returned s mi args below meth co H locs 0 0 Q (F0 mi 87 ls [.int y0]) := by
  intro x6 x8 x9 x10 x11 y0 m H locs ls hf hP hS hl
  unfold qf_L_returned_87 at hf
  refine lv_istore (lv' := [(12, .int y0), (0, .ref (qw_ad L 9 1)), (3, .ref (qw_ad L 9 4)), (4, .ref (qw_ad L 9 5)), (5, .ref (qw_ad L 9 6)), (6, .long x6), (8, .int x8), (9, .int x9), (10, .int x10), (11, .int x11)]) F.1 F.2.1 dL_returned_87 hl (by decide) rfl (fun ls hl => ?_)
  refine lv_aload_n F.1 F.2.1 dL_returned_89 rfl (lv_at hl 1 rfl) ?_
  refine lv_bipush (v := (nI 6)) F.1 F.2.1 dL_returned_90 (by decide) ?_
  refine lv_dup2_11 F.1 F.2.1 dL_returned_92 rfl rfl ?_
  obtain ⟨z1, ez1, hf⟩ := qn_x hf
  refine qr_ald F G hP (qw_u1s _ _ _) (qw_I9 (c := 1) (n := 15) hv (by decide)) (by unfold vp_in; decide) (by decide) ez1 dL_returned_93 ?_
  refine lv_iload F.1 F.2.1 dL_returned_94 (lv_at hl 0 rfl) ?_
  refine lv_iconst (v := (nI 2)) F.1 F.2.1 dL_returned_96 (by decide) ?_
  refine lv_icmp_ge (tgt := 104) F.1 F.2.1 dL_returned_97 (by decide) (fun c2 => ?_) (fun c2 => ?_)
  · replace hf := qi_t c2 hf
    refine lv_iconst (v := (nI 0)) F.1 F.2.1 dL_returned_104 (by decide) ?_
    exact qb_L_returned_105 F G hv hQ _ _ _ _ _ _ _ _ _ _ _ _ _ hf hP hS (lv_sub hl [1, 2, 3, 4, 5, 6, 7, 8, 9, 0] rfl)
  · replace hf := qi_f c2 hf
    refine lv_iconst (v := (nI 1)) F.1 F.2.1 dL_returned_100 (by decide) ?_
    refine lv_goto (tgt := 105) F.1 F.2.1 dL_returned_101 (by decide) ?_
    exact qb_L_returned_105 F G hv hQ _ _ _ _ _ _ _ _ _ _ _ _ _ hf hP hS (lv_sub hl [1, 2, 3, 4, 5, 6, 7, 8, 9, 0] rfl)
set_option maxRecDepth 100000 in
set_option maxHeartbeats 4000000 in
theorem qb_L_returned {p : Program} {l : Launch} {e : Env} {s : State} {mi : MethodId} {args : Array Value} {below : List Frame} {meth : Method} {co : Code} {Q : State → Prop} {L : wL} {M : wM} {h : Nat → Nat} {r : Int32} {m9 : wm} (F : CallFix p mi co cL_returned 14 s args wsL_returned RL) (G : qw_G L (qw_A L) s) (hv : qw_9 L) (hQ : qw_RI p l e rm_L_returned s mi args below meth co cL_returned .int Q L r (qw_u1 M 9 m9) h) : ∀ (m : wm) (H : Heap) (locs : List Loc) (ls : Array Slot), qf_L_returned m = some (r, m9) → qw_P L (qw_u1 M 9 m) h H → va_S (qw_A L) s.heap H locs → lv_has ls 14 [(0, .ref (qw_ad L 9 1)), (1, .ref (qw_ad L 9 2)), (2, .ref (qw_ad L 9 3)), (3, .ref (qw_ad L 9 4)), (4, .ref (qw_ad L 9 5)), (5, .ref (qw_ad L 9 6))] → W p l e rm_L_returned s mi args below meth co H locs 0 0 Q (F0 mi 0 ls []) := by
  intro m H locs ls hf hP hS hl
  unfold qf_L_returned at hf
  refine lv_aload_n F.1 F.2.1 dL_returned_0 rfl (lv_at hl 1 rfl) ?_
  refine lv_aload_n F.1 F.2.1 dL_returned_1 rfl (lv_at hl 0 rfl) ?_
  refine lv_iconst (v := (nI 0)) F.1 F.2.1 dL_returned_2 (by decide) ?_
  obtain ⟨z1, ez1, hf⟩ := qn_x hf
  refine qr_ald F G hP (qw_u1s _ _ _) (qw_I9 (c := 1) (n := 15) hv (by decide)) (by unfold vp_in; decide) (by decide) ez1 dL_returned_3 ?_
  refine lv_iconst (v := (nI 1)) F.1 F.2.1 dL_returned_4 (by decide) ?_
  obtain ⟨z2, ez2, hf⟩ := qn_x hf
  refine qr_isub F ez2 dL_returned_5 ?_
  obtain ⟨g4, hf⟩ := qg_x hf
  obtain ⟨z3, ez3, hf⟩ := qn_x hf
  refine qr_ldL F G hP (qw_u1s _ _ _) (qw_IL9 (c := 2) (n := 40) hv (by decide)) g4 rfl ez3 dL_returned_6 ?_
  refine lv_lstore (lv' := [(6, .long z3), (0, .ref (qw_ad L 9 1)), (1, .ref (qw_ad L 9 2)), (2, .ref (qw_ad L 9 3)), (3, .ref (qw_ad L 9 4)), (4, .ref (qw_ad L 9 5)), (5, .ref (qw_ad L 9 6))]) F.1 F.2.1 dL_returned_7 hl (by decide) rfl (fun ls hl => ?_)
  refine lv_aload_n F.1 F.2.1 dL_returned_9 rfl (lv_at hl 3 rfl) ?_
  refine lv_iconst (v := (nI 3)) F.1 F.2.1 dL_returned_10 (by decide) ?_
  refine lv_aload_n F.1 F.2.1 dL_returned_11 rfl (lv_at hl 1 rfl) ?_
  refine lv_bipush (v := (nI 12)) F.1 F.2.1 dL_returned_12 (by decide) ?_
  obtain ⟨z5, ez5, hf⟩ := qn_x hf
  refine qr_ald F G hP (qw_u1s _ _ _) (qw_I9 (c := 1) (n := 15) hv (by decide)) (by unfold vp_in; decide) (by decide) ez5 dL_returned_14 ?_
  obtain ⟨z6, ez6, hf⟩ := qn_x hf
  refine qr_imul F ez6 dL_returned_15 ?_
  obtain ⟨g8, hf⟩ := qg_x hf
  obtain ⟨z7, ez7, hf⟩ := qn_x hf
  refine qr_ald F G hP (qw_u1s _ _ _) (qw_I9 (c := 3) (n := 48) hv (by decide)) g8 rfl ez7 dL_returned_16 ?_
  refine lv_istore (lv' := [(8, .int z7), (6, .long z3), (0, .ref (qw_ad L 9 1)), (1, .ref (qw_ad L 9 2)), (2, .ref (qw_ad L 9 3)), (3, .ref (qw_ad L 9 4)), (4, .ref (qw_ad L 9 5)), (5, .ref (qw_ad L 9 6))]) F.1 F.2.1 dL_returned_17 hl (by decide) rfl (fun ls hl => ?_)
  refine lv_aload_n F.1 F.2.1 dL_returned_19 rfl (lv_at hl 4 rfl) ?_
  refine lv_iconst (v := (nI 3)) F.1 F.2.1 dL_returned_20 (by decide) ?_
  refine lv_aload_n F.1 F.2.1 dL_returned_21 rfl (lv_at hl 2 rfl) ?_
  refine lv_bipush (v := (nI 12)) F.1 F.2.1 dL_returned_22 (by decide) ?_
  obtain ⟨z9, ez9, hf⟩ := qn_x hf
  refine qr_ald F G hP (qw_u1s _ _ _) (qw_I9 (c := 1) (n := 15) hv (by decide)) (by unfold vp_in; decide) (by decide) ez9 dL_returned_24 ?_
  obtain ⟨z10, ez10, hf⟩ := qn_x hf
  refine qr_imul F ez10 dL_returned_25 ?_
  refine lv_iconst (v := (nI 1)) F.1 F.2.1 dL_returned_26 (by decide) ?_
  obtain ⟨z11, ez11, hf⟩ := qn_x hf
  refine qr_iadd F ez11 dL_returned_27 ?_
  obtain ⟨g13, hf⟩ := qg_x hf
  obtain ⟨z12, ez12, hf⟩ := qn_x hf
  refine qr_ald F G hP (qw_u1s _ _ _) (qw_I9 (c := 3) (n := 48) hv (by decide)) g13 rfl ez12 dL_returned_28 ?_
  refine lv_istore (lv' := [(9, .int z12), (8, .int z7), (6, .long z3), (0, .ref (qw_ad L 9 1)), (1, .ref (qw_ad L 9 2)), (2, .ref (qw_ad L 9 3)), (3, .ref (qw_ad L 9 4)), (4, .ref (qw_ad L 9 5)), (5, .ref (qw_ad L 9 6))]) F.1 F.2.1 dL_returned_29 hl (by decide) rfl (fun ls hl => ?_)
  refine lv_lload F.1 F.2.1 dL_returned_31 (lv_at hl 2 rfl) ?_
  refine lv_bipush (v := (nI 12)) F.1 F.2.1 dL_returned_33 (by decide) ?_
  obtain ⟨z14, ez14, hf⟩ := qn_x hf
  refine qr_lshr F ez14 dL_returned_35 ?_
  refine qr_ldc2 F (v := (1023 : Int64)) (List.mem_of_getElem? (i := 1) rfl) dL_returned_36 ?_
  obtain ⟨z15, ez15, hf⟩ := qn_x hf
  refine qr_land F ez15 dL_returned_39 ?_
  obtain ⟨z16, ez16, hf⟩ := qn_x hf
  refine qr_l2i F ez16 dL_returned_40 ?_
  refine lv_istore (lv' := [(10, .int z16), (9, .int z12), (8, .int z7), (6, .long z3), (0, .ref (qw_ad L 9 1)), (1, .ref (qw_ad L 9 2)), (2, .ref (qw_ad L 9 3)), (3, .ref (qw_ad L 9 4)), (4, .ref (qw_ad L 9 5)), (5, .ref (qw_ad L 9 6))]) F.1 F.2.1 dL_returned_41 hl (by decide) rfl (fun ls hl => ?_)
  refine lv_lload F.1 F.2.1 dL_returned_43 (lv_at hl 3 rfl) ?_
  refine qr_ldc2 F (v := (255 : Int64)) (List.mem_of_getElem? (i := 2) rfl) dL_returned_45 ?_
  obtain ⟨z17, ez17, hf⟩ := qn_x hf
  refine qr_land F ez17 dL_returned_48 ?_
  obtain ⟨z18, ez18, hf⟩ := qn_x hf
  refine qr_l2i F ez18 dL_returned_49 ?_
  refine lv_istore (lv' := [(11, .int z18), (10, .int z16), (9, .int z12), (8, .int z7), (6, .long z3), (0, .ref (qw_ad L 9 1)), (1, .ref (qw_ad L 9 2)), (2, .ref (qw_ad L 9 3)), (3, .ref (qw_ad L 9 4)), (4, .ref (qw_ad L 9 5)), (5, .ref (qw_ad L 9 6))]) F.1 F.2.1 dL_returned_50 hl (by decide) rfl (fun ls hl => ?_)
  refine lv_iload F.1 F.2.1 dL_returned_52 (lv_at hl 2 rfl) ?_
  refine lv_iload F.1 F.2.1 dL_returned_54 (lv_at hl 1 rfl) ?_
  refine lv_icmp_ne (tgt := 74) F.1 F.2.1 dL_returned_56 (by decide) (fun c19 => ?_) (fun c19 => ?_)
  · replace hf := qi_f c19 hf
    refine lv_lload F.1 F.2.1 dL_returned_74 (lv_at hl 4 rfl) ?_
    obtain ⟨r20, k21, hf⟩ := qb1_x hf
    refine qr_cSi F G hP hS (qc_L_by l G.2.1 k21) gL_returned_L_by rfl ⟨rfl, rfl⟩ e_L_by ⟨Nat.le_of_ble_eq_true rfl, Nat.le_of_ble_eq_true rfl⟩ rfl hl.1 rfl (Nat.le_of_ble_eq_true rfl) ⟨Nat.zero_le _, Nat.zero_le _⟩ dL_returned_76 (fun H locs hP hS => ?_)
    refine lv_if_lt (tgt := 86) F.1 F.2.1 dL_returned_79 (by decide) (fun c22 => ?_) (fun c22 => ?_)
    · replace hf := qi_t c22 hf
      refine lv_iconst (v := (nI 3)) F.1 F.2.1 dL_returned_86 (by decide) ?_
      exact qb_L_returned_87 F G hv hQ _ _ _ _ _ _ _ _ _ _ hf hP hS (lv_sub hl [5, 8, 9, 10, 4, 3, 2, 1, 0] rfl)
    · replace hf := qi_f c22 hf
      refine lv_iconst (v := (nI 2)) F.1 F.2.1 dL_returned_82 (by decide) ?_
      refine lv_goto (tgt := 87) F.1 F.2.1 dL_returned_83 (by decide) ?_
      exact qb_L_returned_87 F G hv hQ _ _ _ _ _ _ _ _ _ _ hf hP hS (lv_sub hl [5, 8, 9, 10, 4, 3, 2, 1, 0] rfl)
  · replace hf := qi_t c19 hf
    refine lv_iload F.1 F.2.1 dL_returned_59 (lv_at hl 3 rfl) ?_
    refine lv_iload F.1 F.2.1 dL_returned_61 (lv_at hl 0 rfl) ?_
    refine lv_icmp_ne (tgt := 70) F.1 F.2.1 dL_returned_63 (by decide) (fun c23 => ?_) (fun c23 => ?_)
    · replace hf := qi_f c23 hf
      refine lv_iconst (v := (nI 1)) F.1 F.2.1 dL_returned_70 (by decide) ?_
      refine lv_goto (tgt := 87) F.1 F.2.1 dL_returned_71 (by decide) ?_
      exact qb_L_returned_87 F G hv hQ _ _ _ _ _ _ _ _ _ _ hf hP hS (lv_sub hl [5, 8, 9, 10, 4, 3, 2, 1, 0] rfl)
    · replace hf := qi_t c23 hf
      refine lv_iconst (v := (nI 0)) F.1 F.2.1 dL_returned_66 (by decide) ?_
      refine lv_goto (tgt := 87) F.1 F.2.1 dL_returned_67 (by decide) ?_
      exact qb_L_returned_87 F G hv hQ _ _ _ _ _ _ _ _ _ _ hf hP hS (lv_sub hl [5, 8, 9, 10, 4, 3, 2, 1, 0] rfl)
set_option maxRecDepth 100000 in
set_option maxHeartbeats 4000000 in
theorem qc_L_returned (l : Launch) {L : wL} (hJ : qw_J L) {X X9 : wM} {h : Nat → Nat} {m m9 : wm} (hX : X 9 = m) (hX9 : qw_u1 X 9 m9 = X9) {r : Int32} (hv : qw_9 L) (hf : qf_L_returned m = some (r, m9)) : qw_MI l yL_returned wsL_returned rm_L_returned L [.ref (qw_ad L 9 1), .ref (qw_ad L 9 2), .ref (qw_ad L 9 3), .ref (qw_ad L 9 4), .ref (qw_ad L 9 5), .ref (qw_ad L 9 6)] X h r X9 h := by
  subst hX
  subst hX9
  refine qw_MI_of (cc := cL_returned) (maxL := 14) (ty := .int) (by decide) rfl hJ (Nat.le_of_ble_eq_true rfl) ?_
  intro p e s mi below meth co Q ls F G hP hQ hl
  exact qb_L_returned F G hv hQ _ _ _ _ hf (by rw [qw_u1i]; exact hP) va_S.rf hl
def rm_L_acts : Room := { frames := 6, cells := 0, slots := 0, locals := 157 }
theorem e_L_acts : qw_hd yL_acts RL 8 := by decide +kernel
set_option maxRecDepth 100000 in
set_option maxHeartbeats 4000000 in
theorem qb_L_acts_58 {p : Program} {l : Launch} {e : Env} {s : State} {mi : MethodId} {args : Array Value} {below : List Frame} {meth : Method} {co : Code} {Q : State → Prop} {L : wL} {M9 : wM} {h9 : Nat → Nat} {r : Int32} (F : CallFix p mi co cL_acts 12 s args wsL_acts RL) (G : qw_G L (qw_A L) s) (hv : qw_R L) (hv9 : qw_9 L) (hQ : qw_RI p l e rm_L_acts s mi args below meth co cL_acts .boolean Q L r M9 h9) : ∀ (x8 : Int32) (y0 : Int32) (M : wM) (h : (Nat → Nat)) (H : Heap) (locs : List Loc) (ls : Array Slot), qf_L_acts_58 x8 y0 M h = some (r, M9, h9) → qw_P L M h H → va_S (qw_A L) s.heap H locs → lv_has ls 12 [(0, .ref (qw_ad L 8 0)), (1, .ref (qw_ad L 9 1)), (2, .ref (qw_ad L 9 2)), (3, .ref (qw_ad L 9 3)), (4, .ref (qw_ad L 9 4)), (6, .ref (qw_ad L 9 6)), (8, .int x8)] → W p l e rm_L_acts s mi args below meth co H locs 0 0 Q (F0 mi 58 ls [.int y0]) := by
  intro x8 y0 M h H locs ls hf hP hS hl
  unfold qf_L_acts_58 at hf
  refine lv_istore (lv' := [(10, .int y0), (0, .ref (qw_ad L 8 0)), (1, .ref (qw_ad L 9 1)), (2, .ref (qw_ad L 9 2)), (3, .ref (qw_ad L 9 3)), (4, .ref (qw_ad L 9 4)), (6, .ref (qw_ad L 9 6)), (8, .int x8)]) F.1 F.2.1 dL_acts_58 hl (by decide) rfl (fun ls hl => ?_)
  refine lv_aload_n F.1 F.2.1 dL_acts_60 rfl (lv_at hl 2 rfl) ?_
  refine lv_iconst (v := (nI 0)) F.1 F.2.1 dL_acts_61 (by decide) ?_
  obtain ⟨z1, ez1, hf⟩ := qn_x hf
  refine qr_ald F G hP rfl (qw_I9 (c := 1) (n := 15) hv9 (by decide)) (by unfold vp_in; decide) (by decide) ez1 dL_acts_62 ?_
  refine lv_bipush (v := (nI 40)) F.1 F.2.1 dL_acts_63 (by decide) ?_
  refine lv_icmp_ne (tgt := 90) F.1 F.2.1 dL_acts_65 (by decide) (fun c2 => ?_) (fun c2 => ?_)
  · replace hf := qi_f c2 hf
    refine lv_aload_n F.1 F.2.1 dL_acts_90 rfl (lv_at hl 1 rfl) ?_
    refine lv_iload F.1 F.2.1 dL_acts_91 (lv_at hl 7 rfl) ?_
    refine lv_bipush (v := (nI 16)) F.1 F.2.1 dL_acts_93 (by decide) ?_
    obtain ⟨z3, ez3, hf⟩ := qn_x hf
    refine qr_irem F (by decide) ez3 dL_acts_95 ?_
    refine lv_iload F.1 F.2.1 dL_acts_96 (lv_at hl 0 rfl) ?_
    obtain ⟨r4, M6, h7, k5, hf⟩ := qb3_x hf
    refine qr_cVi F G hP hS (qc_X2_call l G.2.1 hv k5) (qw_rcR hv.1) gL_acts_X2_call rfl ⟨rfl, rfl⟩ e_X2_call ⟨Nat.le_of_ble_eq_true rfl, Nat.le_of_ble_eq_true rfl⟩ rfl hl.1 rfl (Nat.le_of_ble_eq_true rfl) ⟨Nat.zero_le _, Nat.zero_le _⟩ dL_acts_98 (fun H locs hP hS => ?_)
    refine lv_aload_n F.1 F.2.1 dL_acts_101 rfl (lv_at hl 2 rfl) ?_
    refine lv_aload_n F.1 F.2.1 dL_acts_102 rfl (lv_at hl 3 rfl) ?_
    refine lv_aload_n F.1 F.2.1 dL_acts_103 rfl (lv_at hl 4 rfl) ?_
    refine lv_aload F.1 F.2.1 dL_acts_104 (lv_at hl 5 rfl) ?_
    refine lv_aload F.1 F.2.1 dL_acts_106 (lv_at hl 6 rfl) ?_
    refine lv_iload F.1 F.2.1 dL_acts_108 (lv_at hl 7 rfl) ?_
    refine lv_bipush (v := (nI 16)) F.1 F.2.1 dL_acts_110 (by decide) ?_
    obtain ⟨z8, ez8, hf⟩ := qn_x hf
    refine qr_irem F (by decide) ez8 dL_acts_112 ?_
    refine lv_iload F.1 F.2.1 dL_acts_113 (lv_at hl 0 rfl) ?_
    obtain ⟨r9, m11, k10, hf⟩ := qb2_x hf
    obtain ⟨M12, eM12, hf⟩ := qn_x hf
    refine qr_cSi F G hP hS (qc_L_called l G.2.1 rfl eM12.symm hv9 k10) gL_acts_L_called rfl ⟨rfl, rfl⟩ e_L_called ⟨Nat.le_of_ble_eq_true rfl, Nat.le_of_ble_eq_true rfl⟩ rfl hl.1 rfl (Nat.le_of_ble_eq_true rfl) ⟨Nat.zero_le _, Nat.zero_le _⟩ dL_acts_115 (fun H locs hP hS => ?_)
    refine lv_icmp_ne (tgt := 125) F.1 F.2.1 dL_acts_118 (by decide) (fun c13 => ?_) (fun c13 => ?_)
    · replace hf := qi_f c13 hf
      refine lv_iconst (v := (nI 0)) F.1 F.2.1 dL_acts_125 (by decide) ?_
      obtain ⟨e9, e8, e7⟩ := qs3 hf
      subst e9
      subst e8
      subst e7
      exact hQ _ _ _ _ hP hS rfl dL_acts_126
    · replace hf := qi_t c13 hf
      refine lv_iconst (v := (nI 1)) F.1 F.2.1 dL_acts_121 (by decide) ?_
      refine lv_goto (tgt := 126) F.1 F.2.1 dL_acts_122 (by decide) ?_
      obtain ⟨e9, e8, e7⟩ := qs3 hf
      subst e9
      subst e8
      subst e7
      exact hQ _ _ _ _ hP hS rfl dL_acts_126
  · replace hf := qi_t c2 hf
    refine lv_aload_n F.1 F.2.1 dL_acts_68 rfl (lv_at hl 1 rfl) ?_
    refine lv_iload F.1 F.2.1 dL_acts_69 (lv_at hl 7 rfl) ?_
    refine lv_bipush (v := (nI 16)) F.1 F.2.1 dL_acts_71 (by decide) ?_
    obtain ⟨z14, ez14, hf⟩ := qn_x hf
    refine qr_irem F (by decide) ez14 dL_acts_73 ?_
    refine lv_iload F.1 F.2.1 dL_acts_74 (lv_at hl 0 rfl) ?_
    obtain ⟨r15, M17, h18, k16, hf⟩ := qb3_x hf
    refine qr_cVi F G hP hS (qc_X2_call l G.2.1 hv k16) (qw_rcR hv.1) gL_acts_X2_call rfl ⟨rfl, rfl⟩ e_X2_call ⟨Nat.le_of_ble_eq_true rfl, Nat.le_of_ble_eq_true rfl⟩ rfl hl.1 rfl (Nat.le_of_ble_eq_true rfl) ⟨Nat.zero_le _, Nat.zero_le _⟩ dL_acts_76 (fun H locs hP hS => ?_)
    refine lv_bipush (v := (-3 : Int32)) F.1 F.2.1 dL_acts_79 (by decide) ?_
    refine lv_icmp_ne (tgt := 88) F.1 F.2.1 dL_acts_81 (by decide) (fun c19 => ?_) (fun c19 => ?_)
    · replace hf := qi_f c19 hf
      refine lv_iconst (v := (nI 0)) F.1 F.2.1 dL_acts_88 (by decide) ?_
      obtain ⟨e9, e8, e7⟩ := qs3 hf
      subst e9
      subst e8
      subst e7
      exact hQ _ _ _ _ hP hS rfl dL_acts_89
    · replace hf := qi_t c19 hf
      refine lv_iconst (v := (nI 1)) F.1 F.2.1 dL_acts_84 (by decide) ?_
      refine lv_goto (tgt := 89) F.1 F.2.1 dL_acts_85 (by decide) ?_
      obtain ⟨e9, e8, e7⟩ := qs3 hf
      subst e9
      subst e8
      subst e7
      exact hQ _ _ _ _ hP hS rfl dL_acts_89
set_option maxRecDepth 100000 in
set_option maxHeartbeats 4000000 in
theorem qb_L_acts_34 {p : Program} {l : Launch} {e : Env} {s : State} {mi : MethodId} {args : Array Value} {below : List Frame} {meth : Method} {co : Code} {Q : State → Prop} {L : wL} {M9 : wM} {h9 : Nat → Nat} {r : Int32} (F : CallFix p mi co cL_acts 12 s args wsL_acts RL) (G : qw_G L (qw_A L) s) (hv : qw_R L) (hv9 : qw_9 L) (hQ : qw_RI p l e rm_L_acts s mi args below meth co cL_acts .boolean Q L r M9 h9) : ∀ (x8 : Int32) (M : wM) (h : (Nat → Nat)) (H : Heap) (locs : List Loc) (ls : Array Slot), qf_L_acts_34 x8 M h = some (r, M9, h9) → qw_P L M h H → va_S (qw_A L) s.heap H locs → lv_has ls 12 [(0, .ref (qw_ad L 8 0)), (1, .ref (qw_ad L 9 1)), (2, .ref (qw_ad L 9 2)), (3, .ref (qw_ad L 9 3)), (4, .ref (qw_ad L 9 4)), (6, .ref (qw_ad L 9 6)), (8, .int x8)] → W p l e rm_L_acts s mi args below meth co H locs 0 0 Q (F0 mi 34 ls []) := by
  intro x8 M h H locs ls hf hP hS hl
  unfold qf_L_acts_34 at hf
  refine lv_iload F.1 F.2.1 dL_acts_34 (lv_at hl 6 rfl) ?_
  refine lv_iconst (v := (nI 4)) F.1 F.2.1 dL_acts_36 (by decide) ?_
  obtain ⟨z1, ez1, hf⟩ := qn_x hf
  refine qr_irem F (by decide) ez1 dL_acts_37 ?_
  refine lv_if_ne (tgt := 52) F.1 F.2.1 dL_acts_38 (by decide) (fun c2 => ?_) (fun c2 => ?_)
  · replace hf := qi_f c2 hf
    refine lv_iload F.1 F.2.1 dL_acts_52 (lv_at hl 6 rfl) ?_
    refine lv_iconst (v := (nI 4)) F.1 F.2.1 dL_acts_54 (by decide) ?_
    obtain ⟨z3, ez3, hf⟩ := qn_x hf
    refine qr_idiv F (by decide) ez3 dL_acts_55 ?_
    refine lv_iconst (v := (nI 4)) F.1 F.2.1 dL_acts_56 (by decide) ?_
    obtain ⟨z4, ez4, hf⟩ := qn_x hf
    refine qr_irem F (by decide) ez4 dL_acts_57 ?_
    exact qb_L_acts_58 F G hv hv9 hQ _ _ _ _ _ _ _ hf hP hS (lv_sub hl [0, 1, 2, 3, 4, 5, 6] rfl)
  · replace hf := qi_t c2 hf
    refine lv_iload F.1 F.2.1 dL_acts_41 (lv_at hl 6 rfl) ?_
    refine lv_iconst (v := (nI 4)) F.1 F.2.1 dL_acts_43 (by decide) ?_
    obtain ⟨z5, ez5, hf⟩ := qn_x hf
    refine qr_idiv F (by decide) ez5 dL_acts_44 ?_
    refine lv_sipush (v := (nI 1000)) F.1 F.2.1 dL_acts_45 (by decide) ?_
    obtain ⟨z6, ez6, hf⟩ := qn_x hf
    refine qr_irem F (by decide) ez6 dL_acts_48 ?_
    refine lv_goto (tgt := 58) F.1 F.2.1 dL_acts_49 (by decide) ?_
    exact qb_L_acts_58 F G hv hv9 hQ _ _ _ _ _ _ _ hf hP hS (lv_sub hl [0, 1, 2, 3, 4, 5, 6] rfl)
set_option maxRecDepth 100000 in
set_option maxHeartbeats 4000000 in
theorem qb_L_acts_402 {p : Program} {l : Launch} {e : Env} {s : State} {mi : MethodId} {args : Array Value} {below : List Frame} {meth : Method} {co : Code} {Q : State → Prop} {L : wL} {M9 : wM} {h9 : Nat → Nat} {r : Int32} (F : CallFix p mi co cL_acts 12 s args wsL_acts RL) (G : qw_G L (qw_A L) s) (hv : qw_R L) (hv9 : qw_9 L) (hQ : qw_RI p l e rm_L_acts s mi args below meth co cL_acts .boolean Q L r M9 h9) : ∀ (x10 : Int32) (M : wM) (h : (Nat → Nat)) (H : Heap) (locs : List Loc) (ls : Array Slot), qf_L_acts_402 x10 M h = some (r, M9, h9) → qw_P L M h H → va_S (qw_A L) s.heap H locs → lv_has ls 12 [(0, .ref (qw_ad L 8 0)), (1, .ref (qw_ad L 9 1)), (4, .ref (qw_ad L 9 4)), (10, .int x10)] → W p l e rm_L_acts s mi args below meth co H locs 0 0 Q (F0 mi 402 ls []) := by
  intro x10 M h H locs ls hf hP hS hl
  unfold qf_L_acts_402 at hf
  refine lv_aload_n F.1 F.2.1 dL_acts_402 rfl (lv_at hl 1 rfl) ?_
  refine lv_aload F.1 F.2.1 dL_acts_403 (lv_at hl 2 rfl) ?_
  refine lv_iconst (v := (nI 3)) F.1 F.2.1 dL_acts_405 (by decide) ?_
  refine lv_iload F.1 F.2.1 dL_acts_406 (lv_at hl 3 rfl) ?_
  obtain ⟨m2, k1, hf⟩ := qb1_x hf
  obtain ⟨M3, eM3, hf⟩ := qn_x hf
  refine qr_cSv F G hP hS (qc_L_steps l G.2.1 rfl eM3.symm hv9 k1) gL_acts_L_steps rfl ⟨rfl, rfl⟩ e_L_steps ⟨Nat.le_of_ble_eq_true rfl, Nat.le_of_ble_eq_true rfl⟩ rfl hl.1 rfl (Nat.le_of_ble_eq_true rfl) ⟨Nat.zero_le _, Nat.zero_le _⟩ dL_acts_408 (fun H locs hP hS => ?_)
  refine lv_aload_n F.1 F.2.1 dL_acts_411 rfl (lv_at hl 0 rfl) ?_
  refine lv_iload F.1 F.2.1 dL_acts_412 (lv_at hl 3 rfl) ?_
  obtain ⟨r4, M6, h7, k5, hf⟩ := qb3_x hf
  refine qr_cVi F G hP hS (qc_X2_raise l G.2.1 hv k5) (qw_rcR hv.1) gL_acts_X2_raise rfl ⟨rfl, rfl⟩ e_X2_raise ⟨Nat.le_of_ble_eq_true rfl, Nat.le_of_ble_eq_true rfl⟩ rfl hl.1 rfl (Nat.le_of_ble_eq_true rfl) ⟨Nat.zero_le _, Nat.zero_le _⟩ dL_acts_414 (fun H locs hP hS => ?_)
  refine lv_aload_n F.1 F.2.1 dL_acts_417 rfl (lv_at hl 1 rfl) ?_
  refine lv_iconst (v := (nI 0)) F.1 F.2.1 dL_acts_418 (by decide) ?_
  obtain ⟨z8, ez8, hf⟩ := qn_x hf
  refine qr_ald F G hP rfl (qw_I9 (c := 1) (n := 15) hv9 (by decide)) (by unfold vp_in; decide) (by decide) ez8 dL_acts_419 ?_
  refine lv_icmp_ne (tgt := 427) F.1 F.2.1 dL_acts_420 (by decide) (fun c9 => ?_) (fun c9 => ?_)
  · replace hf := qi_f c9 hf
    refine lv_iconst (v := (nI 0)) F.1 F.2.1 dL_acts_427 (by decide) ?_
    obtain ⟨e9, e8, e7⟩ := qs3 hf
    subst e9
    subst e8
    subst e7
    exact hQ _ _ _ _ hP hS rfl dL_acts_428
  · replace hf := qi_t c9 hf
    refine lv_iconst (v := (nI 1)) F.1 F.2.1 dL_acts_423 (by decide) ?_
    refine lv_goto (tgt := 428) F.1 F.2.1 dL_acts_424 (by decide) ?_
    obtain ⟨e9, e8, e7⟩ := qs3 hf
    subst e9
    subst e8
    subst e7
    exact hQ _ _ _ _ hP hS rfl dL_acts_428
set_option maxRecDepth 100000 in
set_option maxHeartbeats 4000000 in
theorem qb_L_acts_355 {p : Program} {l : Launch} {e : Env} {s : State} {mi : MethodId} {args : Array Value} {below : List Frame} {meth : Method} {co : Code} {Q : State → Prop} {L : wL} {M9 : wM} {h9 : Nat → Nat} {r : Int32} (F : CallFix p mi co cL_acts 12 s args wsL_acts RL) (G : qw_G L (qw_A L) s) (hv : qw_R L) (hv9 : qw_9 L) (hQ : qw_RI p l e rm_L_acts s mi args below meth co cL_acts .boolean Q L r M9 h9) : ∀ (n : Nat) (x10 : Int32) (x11 : Int32) (M : wM) (h : (Nat → Nat)) (H : Heap) (locs : List Loc) (ls : Array Slot), qf_L_acts_355 n x10 x11 M h = some (r, M9, h9) → qw_P L M h H → va_S (qw_A L) s.heap H locs → lv_has ls 12 [(0, .ref (qw_ad L 8 0)), (1, .ref (qw_ad L 9 1)), (4, .ref (qw_ad L 9 4)), (10, .int x10), (11, .int x11)] → W p l e rm_L_acts s mi args below meth co H locs 0 0 Q (F0 mi 355 ls []) := by
  intro n
  induction n with
  | zero =>
    intro x10 x11 M h H locs ls hf hP hS hl
    rw [qf_L_acts_355] at hf
    cases hf
  | succ n ih =>
    intro x10 x11 M h H locs ls hf hP hS hl
    rw [qf_L_acts_355] at hf
    refine lv_iload F.1 F.2.1 dL_acts_355 (lv_at hl 4 rfl) ?_
    refine lv_iload F.1 F.2.1 dL_acts_357 (lv_at hl 3 rfl) ?_
    refine lv_icmp_ge (tgt := 402) F.1 F.2.1 dL_acts_359 (by decide) (fun c1 => ?_) (fun c1 => ?_)
    · replace hf := qi_t c1 hf
      exact qb_L_acts_402 F G hv hv9 hQ _ _ _ _ _ _ hf hP hS (lv_sub hl [0, 1, 2, 3] rfl)
    · replace hf := qi_f c1 hf
      refine lv_aload_n F.1 F.2.1 dL_acts_362 rfl (lv_at hl 1 rfl) ?_
      refine lv_bipush (v := (nI 14)) F.1 F.2.1 dL_acts_363 (by decide) ?_
      obtain ⟨z2, ez2, hf⟩ := qn_x hf
      refine qr_ald F G hP rfl (qw_I9 (c := 1) (n := 15) hv9 (by decide)) (by unfold vp_in; decide) (by decide) ez2 dL_acts_365 ?_
      refine lv_iconst (v := (nI 1)) F.1 F.2.1 dL_acts_366 (by decide) ?_
      refine lv_icmp_ne (tgt := 402) F.1 F.2.1 dL_acts_367 (by decide) (fun c3 => ?_) (fun c3 => ?_)
      · replace hf := qi_f c3 hf
        exact qb_L_acts_402 F G hv hv9 hQ _ _ _ _ _ _ hf hP hS (lv_sub hl [0, 1, 2, 3] rfl)
      · replace hf := qi_t c3 hf
        refine lv_aload_n F.1 F.2.1 dL_acts_370 rfl (lv_at hl 1 rfl) ?_
        refine lv_bipush (v := (nI 12)) F.1 F.2.1 dL_acts_371 (by decide) ?_
        refine lv_aload_n F.1 F.2.1 dL_acts_373 rfl (lv_at hl 1 rfl) ?_
        refine lv_bipush (v := (nI 12)) F.1 F.2.1 dL_acts_374 (by decide) ?_
        obtain ⟨z4, ez4, hf⟩ := qn_x hf
        refine qr_ald F G hP rfl (qw_I9 (c := 1) (n := 15) hv9 (by decide)) (by unfold vp_in; decide) (by decide) ez4 dL_acts_376 ?_
        refine lv_if_ne (tgt := 389) F.1 F.2.1 dL_acts_377 (by decide) (fun c5 => ?_) (fun c5 => ?_)
        · replace hf := qi_f c5 hf
          refine lv_aload_n F.1 F.2.1 dL_acts_389 rfl (lv_at hl 1 rfl) ?_
          refine lv_bipush (v := (nI 12)) F.1 F.2.1 dL_acts_390 (by decide) ?_
          obtain ⟨z6, ez6, hf⟩ := qn_x hf
          refine qr_ald F G hP rfl (qw_I9 (c := 1) (n := 15) hv9 (by decide)) (by unfold vp_in; decide) (by decide) ez6 dL_acts_392 ?_
          refine lv_iconst (v := (nI 1)) F.1 F.2.1 dL_acts_393 (by decide) ?_
          obtain ⟨z7, ez7, hf⟩ := qn_x hf
          refine qr_isub F ez7 dL_acts_394 ?_
          obtain ⟨M8, eM8, hf⟩ := qn_x hf
          refine qr_ast F G hP hS rfl (qw_I9 (c := 1) (n := 15) hv9 (by decide)) (by unfold vp_in; decide) (by decide) eM8.symm dL_acts_395 (fun H locs hP hS => ?_)
          obtain ⟨z9, ez9, hf⟩ := qn_x hf
          refine lv_iinc (v := z9) (lv' := [(11, .int z9), (0, .ref (qw_ad L 8 0)), (1, .ref (qw_ad L 9 1)), (4, .ref (qw_ad L 9 4)), (10, .int x10)]) F.1 F.2.1 dL_acts_396 hl (k := 4) rfl ((qw_ii1 _).trans ez9.symm) (by decide) rfl (fun ls hl => ?_)
          refine lv_goto (tgt := 355) F.1 F.2.1 dL_acts_399 (by decide) ?_
          exact ih _ _ _ _ _ _ _ hf hP hS (lv_sub hl [1, 2, 3, 4, 0] rfl)
        · replace hf := qi_t c5 hf
          refine lv_aload_n F.1 F.2.1 dL_acts_380 rfl (lv_at hl 1 rfl) ?_
          refine lv_bipush (v := (nI 11)) F.1 F.2.1 dL_acts_381 (by decide) ?_
          obtain ⟨z10, ez10, hf⟩ := qn_x hf
          refine qr_ald F G hP rfl (qw_I9 (c := 1) (n := 15) hv9 (by decide)) (by unfold vp_in; decide) (by decide) ez10 dL_acts_383 ?_
          refine lv_iconst (v := (nI 1)) F.1 F.2.1 dL_acts_384 (by decide) ?_
          obtain ⟨z11, ez11, hf⟩ := qn_x hf
          refine qr_isub F ez11 dL_acts_385 ?_
          refine lv_goto (tgt := 395) F.1 F.2.1 dL_acts_386 (by decide) ?_
          obtain ⟨M12, eM12, hf⟩ := qn_x hf
          refine qr_ast F G hP hS rfl (qw_I9 (c := 1) (n := 15) hv9 (by decide)) (by unfold vp_in; decide) (by decide) eM12.symm dL_acts_395 (fun H locs hP hS => ?_)
          obtain ⟨z13, ez13, hf⟩ := qn_x hf
          refine lv_iinc (v := z13) (lv' := [(11, .int z13), (0, .ref (qw_ad L 8 0)), (1, .ref (qw_ad L 9 1)), (4, .ref (qw_ad L 9 4)), (10, .int x10)]) F.1 F.2.1 dL_acts_396 hl (k := 4) rfl ((qw_ii1 _).trans ez13.symm) (by decide) rfl (fun ls hl => ?_)
          refine lv_goto (tgt := 355) F.1 F.2.1 dL_acts_399 (by decide) ?_
          exact ih _ _ _ _ _ _ _ hf hP hS (lv_sub hl [1, 2, 3, 4, 0] rfl)
set_option maxRecDepth 100000 in
set_option maxHeartbeats 4000000 in
theorem qb_L_acts {p : Program} {l : Launch} {e : Env} {s : State} {mi : MethodId} {args : Array Value} {below : List Frame} {meth : Method} {co : Code} {Q : State → Prop} {L : wL} {M9 : wM} {h9 : Nat → Nat} {r : Int32} (F : CallFix p mi co cL_acts 12 s args wsL_acts RL) (G : qw_G L (qw_A L) s) (hv : qw_R L) (hv9 : qw_9 L) (hQ : qw_RI p l e rm_L_acts s mi args below meth co cL_acts .boolean Q L r M9 h9) : ∀ (x7 : Int32) (M : wM) (h : (Nat → Nat)) (H : Heap) (locs : List Loc) (ls : Array Slot), qf_L_acts x7 M h = some (r, M9, h9) → qw_P L M h H → va_S (qw_A L) s.heap H locs → lv_has ls 12 [(0, .ref (qw_ad L 8 0)), (1, .ref (qw_ad L 9 1)), (2, .ref (qw_ad L 9 2)), (3, .ref (qw_ad L 9 3)), (4, .ref (qw_ad L 9 4)), (5, .ref (qw_ad L 9 5)), (6, .ref (qw_ad L 9 6)), (7, .int x7)] → W p l e rm_L_acts s mi args below meth co H locs 0 0 Q (F0 mi 0 ls []) := by
  intro x7 M h H locs ls hf hP hS hl
  unfold qf_L_acts at hf
  refine lv_iload F.1 F.2.1 dL_acts_0 (lv_at hl 7 rfl) ?_
  refine lv_iconst (v := (nI 5)) F.1 F.2.1 dL_acts_2 (by decide) ?_
  obtain ⟨z1, ez1, hf⟩ := qn_x hf
  refine qr_ishr F ez1 dL_acts_3 ?_
  refine qr_ldc F (v := (10000000 : Int32)) (List.mem_of_getElem? (i := 1) rfl) dL_acts_4 ?_
  obtain ⟨r2, k3, hf⟩ := qb1_x hf
  refine qr_cSi F G hP hS (qc_L_low l G.2.1 k3) gL_acts_L_low rfl ⟨rfl, rfl⟩ e_L_low ⟨Nat.le_of_ble_eq_true rfl, Nat.le_of_ble_eq_true rfl⟩ rfl hl.1 rfl (Nat.le_of_ble_eq_true rfl) ⟨Nat.zero_le _, Nat.zero_le _⟩ dL_acts_6 (fun H locs hP hS => ?_)
  refine lv_istore (lv' := [(8, .int r2), (0, .ref (qw_ad L 8 0)), (1, .ref (qw_ad L 9 1)), (2, .ref (qw_ad L 9 2)), (3, .ref (qw_ad L 9 3)), (4, .ref (qw_ad L 9 4)), (5, .ref (qw_ad L 9 5)), (6, .ref (qw_ad L 9 6)), (7, .int x7)]) F.1 F.2.1 dL_acts_9 hl (by decide) rfl (fun ls hl => ?_)
  refine lv_iload F.1 F.2.1 dL_acts_11 (lv_at hl 8 rfl) ?_
  refine lv_bipush (v := (nI 26)) F.1 F.2.1 dL_acts_13 (by decide) ?_
  obtain ⟨r4, k5, hf⟩ := qb1_x hf
  refine qr_cSi F G hP hS (qc_L_low l G.2.1 k5) gL_acts_L_low rfl ⟨rfl, rfl⟩ e_L_low ⟨Nat.le_of_ble_eq_true rfl, Nat.le_of_ble_eq_true rfl⟩ rfl hl.1 rfl (Nat.le_of_ble_eq_true rfl) ⟨Nat.zero_le _, Nat.zero_le _⟩ dL_acts_15 (fun H locs hP hS => ?_)
  refine lv_istore (lv' := [(9, .int r4), (8, .int r2), (0, .ref (qw_ad L 8 0)), (1, .ref (qw_ad L 9 1)), (2, .ref (qw_ad L 9 2)), (3, .ref (qw_ad L 9 3)), (4, .ref (qw_ad L 9 4)), (5, .ref (qw_ad L 9 5)), (6, .ref (qw_ad L 9 6)), (7, .int x7)]) F.1 F.2.1 dL_acts_18 hl (by decide) rfl (fun ls hl => ?_)
  refine lv_iload F.1 F.2.1 dL_acts_20 (lv_at hl 0 rfl) ?_
  refine lv_bipush (v := (nI 11)) F.1 F.2.1 dL_acts_22 (by decide) ?_
  refine lv_icmp_lt (tgt := 34) F.1 F.2.1 dL_acts_24 (by decide) (fun c6 => ?_) (fun c6 => ?_)
  · replace hf := qi_t c6 hf
    exact qb_L_acts_34 F G hv hv9 hQ _ _ _ _ _ _ hf hP hS (lv_sub hl [2, 3, 4, 5, 6, 8, 1] rfl)
  · replace hf := qi_f c6 hf
    refine lv_iload F.1 F.2.1 dL_acts_27 (lv_at hl 0 rfl) ?_
    refine lv_bipush (v := (nI 22)) F.1 F.2.1 dL_acts_29 (by decide) ?_
    refine lv_icmp_le (tgt := 127) F.1 F.2.1 dL_acts_31 (by decide) (fun c7 => ?_) (fun c7 => ?_)
    · replace hf := qi_t c7 hf
      refine lv_iload F.1 F.2.1 dL_acts_127 (lv_at hl 0 rfl) ?_
      refine lv_bipush (v := (nI 13)) F.1 F.2.1 dL_acts_129 (by decide) ?_
      refine lv_icmp_ge (tgt := 232) F.1 F.2.1 dL_acts_131 (by decide) (fun c8 => ?_) (fun c8 => ?_)
      · replace hf := qi_t c8 hf
        refine lv_iload F.1 F.2.1 dL_acts_232 (lv_at hl 0 rfl) ?_
        refine lv_bipush (v := (nI 19)) F.1 F.2.1 dL_acts_234 (by decide) ?_
        refine lv_icmp_ge (tgt := 285) F.1 F.2.1 dL_acts_236 (by decide) (fun c9 => ?_) (fun c9 => ?_)
        · replace hf := qi_t c9 hf
          refine lv_iload F.1 F.2.1 dL_acts_285 (lv_at hl 0 rfl) ?_
          refine lv_bipush (v := (nI 21)) F.1 F.2.1 dL_acts_287 (by decide) ?_
          refine lv_icmp_ge (tgt := 429) F.1 F.2.1 dL_acts_289 (by decide) (fun c10 => ?_) (fun c10 => ?_)
          · replace hf := qi_t c10 hf
            refine lv_iload F.1 F.2.1 dL_acts_429 (lv_at hl 0 rfl) ?_
            refine lv_bipush (v := (nI 21)) F.1 F.2.1 dL_acts_431 (by decide) ?_
            refine lv_icmp_ne (tgt := 469) F.1 F.2.1 dL_acts_433 (by decide) (fun c11 => ?_) (fun c11 => ?_)
            · replace hf := qi_f c11 hf
              refine lv_iload F.1 F.2.1 dL_acts_469 (lv_at hl 1 rfl) ?_
              refine lv_bipush (v := (nI 6)) F.1 F.2.1 dL_acts_471 (by decide) ?_
              obtain ⟨z12, ez12, hf⟩ := qn_x hf
              refine qr_irem F (by decide) ez12 dL_acts_473 ?_
              refine lv_if_le (tgt := 543) F.1 F.2.1 dL_acts_474 (by decide) (fun c13 => ?_) (fun c13 => ?_)
              · replace hf := qi_t c13 hf
                refine lv_aload_n F.1 F.2.1 dL_acts_543 rfl (lv_at hl 3 rfl) ?_
                refine lv_bipush (v := (nI 11)) F.1 F.2.1 dL_acts_544 (by decide) ?_
                obtain ⟨z14, ez14, hf⟩ := qn_x hf
                refine qr_ald F G hP rfl (qw_I9 (c := 1) (n := 15) hv9 (by decide)) (by unfold vp_in; decide) (by decide) ez14 dL_acts_546 ?_
                refine lv_istore (lv' := [(10, .int z14), (9, .int r4), (8, .int r2), (0, .ref (qw_ad L 8 0)), (1, .ref (qw_ad L 9 1)), (2, .ref (qw_ad L 9 2)), (3, .ref (qw_ad L 9 3)), (4, .ref (qw_ad L 9 4)), (5, .ref (qw_ad L 9 5)), (6, .ref (qw_ad L 9 6)), (7, .int x7)]) F.1 F.2.1 dL_acts_547 hl (by decide) rfl (fun ls hl => ?_)
                refine lv_aload_n F.1 F.2.1 dL_acts_549 rfl (lv_at hl 4 rfl) ?_
                refine lv_aload_n F.1 F.2.1 dL_acts_550 rfl (lv_at hl 6 rfl) ?_
                refine lv_iconst (v := (nI 2)) F.1 F.2.1 dL_acts_551 (by decide) ?_
                refine lv_iload F.1 F.2.1 dL_acts_552 (lv_at hl 2 rfl) ?_
                refine lv_bipush (v := (nI 6)) F.1 F.2.1 dL_acts_554 (by decide) ?_
                obtain ⟨z15, ez15, hf⟩ := qn_x hf
                refine qr_idiv F (by decide) ez15 dL_acts_556 ?_
                refine lv_bipush (v := (nI 15)) F.1 F.2.1 dL_acts_557 (by decide) ?_
                obtain ⟨z16, ez16, hf⟩ := qn_x hf
                refine qr_irem F (by decide) ez16 dL_acts_559 ?_
                obtain ⟨z17, ez17, hf⟩ := qn_x hf
                refine qr_iadd F ez17 dL_acts_560 ?_
                obtain ⟨m19, k18, hf⟩ := qb1_x hf
                obtain ⟨M20, eM20, hf⟩ := qn_x hf
                refine qr_cSv F G hP hS (qc_L_fresh l G.2.1 rfl eM20.symm hv9 k18) gL_acts_L_fresh rfl ⟨rfl, rfl⟩ e_L_fresh ⟨Nat.le_of_ble_eq_true rfl, Nat.le_of_ble_eq_true rfl⟩ rfl hl.1 rfl (Nat.le_of_ble_eq_true rfl) ⟨Nat.zero_le _, Nat.zero_le _⟩ dL_acts_561 (fun H locs hP hS => ?_)
                refine lv_aload_n F.1 F.2.1 dL_acts_564 rfl (lv_at hl 3 rfl) ?_
                refine lv_aload_n F.1 F.2.1 dL_acts_565 rfl (lv_at hl 4 rfl) ?_
                refine lv_bipush (v := (nI 11)) F.1 F.2.1 dL_acts_566 (by decide) ?_
                obtain ⟨z21, ez21, hf⟩ := qn_x hf
                refine qr_ald F G hP rfl (qw_I9 (c := 1) (n := 15) hv9 (by decide)) (by unfold vp_in; decide) (by decide) ez21 dL_acts_568 ?_
                obtain ⟨r22, M24, h25, k23, hf⟩ := qb3_x hf
                refine qr_cVi F G hP hS (qc_X2_begin l G.2.1 hv k23) (qw_rcR hv.1) gL_acts_X2_begin rfl ⟨rfl, rfl⟩ e_X2_begin ⟨Nat.le_of_ble_eq_true rfl, Nat.le_of_ble_eq_true rfl⟩ rfl hl.1 rfl (Nat.le_of_ble_eq_true rfl) ⟨Nat.zero_le _, Nat.zero_le _⟩ dL_acts_569 (fun H locs hP hS => ?_)
                refine lv_iload F.1 F.2.1 dL_acts_572 (lv_at hl 0 rfl) ?_
                refine lv_icmp_ne (tgt := 581) F.1 F.2.1 dL_acts_574 (by decide) (fun c26 => ?_) (fun c26 => ?_)
                · replace hf := qi_f c26 hf
                  refine lv_iconst (v := (nI 0)) F.1 F.2.1 dL_acts_581 (by decide) ?_
                  obtain ⟨e9, e8, e7⟩ := qs3 hf
                  subst e9
                  subst e8
                  subst e7
                  exact hQ _ _ _ _ hP hS rfl dL_acts_582
                · replace hf := qi_t c26 hf
                  refine lv_iconst (v := (nI 1)) F.1 F.2.1 dL_acts_577 (by decide) ?_
                  refine lv_goto (tgt := 582) F.1 F.2.1 dL_acts_578 (by decide) ?_
                  obtain ⟨e9, e8, e7⟩ := qs3 hf
                  subst e9
                  subst e8
                  subst e7
                  exact hQ _ _ _ _ hP hS rfl dL_acts_582
              · replace hf := qi_f c13 hf
                refine lv_aload_n F.1 F.2.1 dL_acts_477 rfl (lv_at hl 2 rfl) ?_
                refine lv_iconst (v := (nI 1)) F.1 F.2.1 dL_acts_478 (by decide) ?_
                obtain ⟨r27, M29, h30, k28, hf⟩ := qb3_x hf
                refine qr_cVi F G hP hS (qc_X2_begin l G.2.1 hv k28) (qw_rcR hv.1) gL_acts_X2_begin rfl ⟨rfl, rfl⟩ e_X2_begin ⟨Nat.le_of_ble_eq_true rfl, Nat.le_of_ble_eq_true rfl⟩ rfl hl.1 rfl (Nat.le_of_ble_eq_true rfl) ⟨Nat.zero_le _, Nat.zero_le _⟩ dL_acts_479 (fun H locs hP hS => ?_)
                refine lv_iconst (v := (-1 : Int32)) F.1 F.2.1 dL_acts_482 (by decide) ?_
                refine lv_icmp_ne (tgt := 541) F.1 F.2.1 dL_acts_483 (by decide) (fun c31 => ?_) (fun c31 => ?_)
                · replace hf := qi_f c31 hf
                  refine lv_iconst (v := (nI 0)) F.1 F.2.1 dL_acts_541 (by decide) ?_
                  obtain ⟨e9, e8, e7⟩ := qs3 hf
                  subst e9
                  subst e8
                  subst e7
                  exact hQ _ _ _ _ hP hS rfl dL_acts_542
                · replace hf := qi_t c31 hf
                  refine lv_aload_n F.1 F.2.1 dL_acts_486 rfl (lv_at hl 2 rfl) ?_
                  refine lv_bipush (v := (nI 17)) F.1 F.2.1 dL_acts_487 (by decide) ?_
                  obtain ⟨r32, M34, h35, k33, hf⟩ := qb3_x hf
                  refine qr_cVi F G hP hS (qc_X2_begin l G.2.1 hv k33) (qw_rcR hv.1) gL_acts_X2_begin rfl ⟨rfl, rfl⟩ e_X2_begin ⟨Nat.le_of_ble_eq_true rfl, Nat.le_of_ble_eq_true rfl⟩ rfl hl.1 rfl (Nat.le_of_ble_eq_true rfl) ⟨Nat.zero_le _, Nat.zero_le _⟩ dL_acts_489 (fun H locs hP hS => ?_)
                  refine lv_iconst (v := (-1 : Int32)) F.1 F.2.1 dL_acts_492 (by decide) ?_
                  refine lv_icmp_ne (tgt := 541) F.1 F.2.1 dL_acts_493 (by decide) (fun c36 => ?_) (fun c36 => ?_)
                  · replace hf := qi_f c36 hf
                    refine lv_iconst (v := (nI 0)) F.1 F.2.1 dL_acts_541 (by decide) ?_
                    obtain ⟨e9, e8, e7⟩ := qs3 hf
                    subst e9
                    subst e8
                    subst e7
                    exact hQ _ _ _ _ hP hS rfl dL_acts_542
                  · replace hf := qi_t c36 hf
                    refine lv_aload_n F.1 F.2.1 dL_acts_496 rfl (lv_at hl 2 rfl) ?_
                    refine lv_iconst (v := (nI 2)) F.1 F.2.1 dL_acts_497 (by decide) ?_
                    obtain ⟨r37, M39, h40, k38, hf⟩ := qb3_x hf
                    refine qr_cVi F G hP hS (qc_X2_setRepair l G.2.1 hv k38) (qw_rcR hv.1) gL_acts_X2_setRepair rfl ⟨rfl, rfl⟩ e_X2_setRepair ⟨Nat.le_of_ble_eq_true rfl, Nat.le_of_ble_eq_true rfl⟩ rfl hl.1 rfl (Nat.le_of_ble_eq_true rfl) ⟨Nat.zero_le _, Nat.zero_le _⟩ dL_acts_498 (fun H locs hP hS => ?_)
                    refine lv_iconst (v := (-1 : Int32)) F.1 F.2.1 dL_acts_501 (by decide) ?_
                    refine lv_icmp_ne (tgt := 541) F.1 F.2.1 dL_acts_502 (by decide) (fun c41 => ?_) (fun c41 => ?_)
                    · replace hf := qi_f c41 hf
                      refine lv_iconst (v := (nI 0)) F.1 F.2.1 dL_acts_541 (by decide) ?_
                      obtain ⟨e9, e8, e7⟩ := qs3 hf
                      subst e9
                      subst e8
                      subst e7
                      exact hQ _ _ _ _ hP hS rfl dL_acts_542
                    · replace hf := qi_t c41 hf
                      refine lv_aload_n F.1 F.2.1 dL_acts_505 rfl (lv_at hl 2 rfl) ?_
                      refine lv_bipush (v := (nI 16)) F.1 F.2.1 dL_acts_506 (by decide) ?_
                      refine lv_iconst (v := (nI 0)) F.1 F.2.1 dL_acts_508 (by decide) ?_
                      obtain ⟨r42, M44, h45, k43, hf⟩ := qb3_x hf
                      refine qr_cVi F G hP hS (qc_X2_call l G.2.1 hv k43) (qw_rcR hv.1) gL_acts_X2_call rfl ⟨rfl, rfl⟩ e_X2_call ⟨Nat.le_of_ble_eq_true rfl, Nat.le_of_ble_eq_true rfl⟩ rfl hl.1 rfl (Nat.le_of_ble_eq_true rfl) ⟨Nat.zero_le _, Nat.zero_le _⟩ dL_acts_509 (fun H locs hP hS => ?_)
                      refine lv_iconst (v := (-1 : Int32)) F.1 F.2.1 dL_acts_512 (by decide) ?_
                      refine lv_icmp_ne (tgt := 541) F.1 F.2.1 dL_acts_513 (by decide) (fun c46 => ?_) (fun c46 => ?_)
                      · replace hf := qi_f c46 hf
                        refine lv_iconst (v := (nI 0)) F.1 F.2.1 dL_acts_541 (by decide) ?_
                        obtain ⟨e9, e8, e7⟩ := qs3 hf
                        subst e9
                        subst e8
                        subst e7
                        exact hQ _ _ _ _ hP hS rfl dL_acts_542
                      · replace hf := qi_t c46 hf
                        refine lv_aload_n F.1 F.2.1 dL_acts_516 rfl (lv_at hl 2 rfl) ?_
                        refine lv_iconst (v := (nI 0)) F.1 F.2.1 dL_acts_517 (by decide) ?_
                        refine lv_sipush (v := (nI 1000)) F.1 F.2.1 dL_acts_518 (by decide) ?_
                        obtain ⟨r47, M49, h50, k48, hf⟩ := qb3_x hf
                        refine qr_cVi F G hP hS (qc_X2_call l G.2.1 hv k48) (qw_rcR hv.1) gL_acts_X2_call rfl ⟨rfl, rfl⟩ e_X2_call ⟨Nat.le_of_ble_eq_true rfl, Nat.le_of_ble_eq_true rfl⟩ rfl hl.1 rfl (Nat.le_of_ble_eq_true rfl) ⟨Nat.zero_le _, Nat.zero_le _⟩ dL_acts_521 (fun H locs hP hS => ?_)
                        refine lv_iconst (v := (-1 : Int32)) F.1 F.2.1 dL_acts_524 (by decide) ?_
                        refine lv_icmp_ne (tgt := 541) F.1 F.2.1 dL_acts_525 (by decide) (fun c51 => ?_) (fun c51 => ?_)
                        · replace hf := qi_f c51 hf
                          refine lv_iconst (v := (nI 0)) F.1 F.2.1 dL_acts_541 (by decide) ?_
                          obtain ⟨e9, e8, e7⟩ := qs3 hf
                          subst e9
                          subst e8
                          subst e7
                          exact hQ _ _ _ _ hP hS rfl dL_acts_542
                        · replace hf := qi_t c51 hf
                          refine lv_aload_n F.1 F.2.1 dL_acts_528 rfl (lv_at hl 2 rfl) ?_
                          refine lv_iconst (v := (-1 : Int32)) F.1 F.2.1 dL_acts_529 (by decide) ?_
                          obtain ⟨r52, M54, h55, k53, hf⟩ := qb3_x hf
                          refine qr_cVi F G hP hS (qc_X2_tail l G.2.1 hv k53) (qw_rcR hv.1) gL_acts_X2_tail rfl ⟨rfl, rfl⟩ e_X2_tail ⟨Nat.le_of_ble_eq_true rfl, Nat.le_of_ble_eq_true rfl⟩ rfl hl.1 rfl (Nat.le_of_ble_eq_true rfl) ⟨Nat.zero_le _, Nat.zero_le _⟩ dL_acts_530 (fun H locs hP hS => ?_)
                          refine lv_iconst (v := (-1 : Int32)) F.1 F.2.1 dL_acts_533 (by decide) ?_
                          refine lv_icmp_ne (tgt := 541) F.1 F.2.1 dL_acts_534 (by decide) (fun c56 => ?_) (fun c56 => ?_)
                          · replace hf := qi_f c56 hf
                            refine lv_iconst (v := (nI 0)) F.1 F.2.1 dL_acts_541 (by decide) ?_
                            obtain ⟨e9, e8, e7⟩ := qs3 hf
                            subst e9
                            subst e8
                            subst e7
                            exact hQ _ _ _ _ hP hS rfl dL_acts_542
                          · replace hf := qi_t c56 hf
                            refine lv_iconst (v := (nI 1)) F.1 F.2.1 dL_acts_537 (by decide) ?_
                            refine lv_goto (tgt := 542) F.1 F.2.1 dL_acts_538 (by decide) ?_
                            obtain ⟨e9, e8, e7⟩ := qs3 hf
                            subst e9
                            subst e8
                            subst e7
                            exact hQ _ _ _ _ hP hS rfl dL_acts_542
            · replace hf := qi_t c11 hf
              refine lv_aload_n F.1 F.2.1 dL_acts_436 rfl (lv_at hl 3 rfl) ?_
              refine lv_bipush (v := (nI 14)) F.1 F.2.1 dL_acts_437 (by decide) ?_
              obtain ⟨z57, ez57, hf⟩ := qn_x hf
              refine qr_ald F G hP rfl (qw_I9 (c := 1) (n := 15) hv9 (by decide)) (by unfold vp_in; decide) (by decide) ez57 dL_acts_439 ?_
              refine lv_istore (lv' := [(10, .int z57), (9, .int r4), (8, .int r2), (0, .ref (qw_ad L 8 0)), (1, .ref (qw_ad L 9 1)), (2, .ref (qw_ad L 9 2)), (3, .ref (qw_ad L 9 3)), (4, .ref (qw_ad L 9 4)), (5, .ref (qw_ad L 9 5)), (6, .ref (qw_ad L 9 6)), (7, .int x7)]) F.1 F.2.1 dL_acts_440 hl (by decide) rfl (fun ls hl => ?_)
              refine lv_aload_n F.1 F.2.1 dL_acts_442 rfl (lv_at hl 4 rfl) ?_
              refine lv_bipush (v := (nI 14)) F.1 F.2.1 dL_acts_443 (by decide) ?_
              refine lv_iload F.1 F.2.1 dL_acts_445 (lv_at hl 2 rfl) ?_
              refine lv_iconst (v := (nI 2)) F.1 F.2.1 dL_acts_447 (by decide) ?_
              obtain ⟨z58, ez58, hf⟩ := qn_x hf
              refine qr_irem F (by decide) ez58 dL_acts_448 ?_
              obtain ⟨M59, eM59, hf⟩ := qn_x hf
              refine qr_ast F G hP hS rfl (qw_I9 (c := 1) (n := 15) hv9 (by decide)) (by unfold vp_in; decide) (by decide) eM59.symm dL_acts_449 (fun H locs hP hS => ?_)
              refine lv_aload_n F.1 F.2.1 dL_acts_450 rfl (lv_at hl 3 rfl) ?_
              refine lv_iload F.1 F.2.1 dL_acts_451 (lv_at hl 2 rfl) ?_
              refine lv_iconst (v := (nI 2)) F.1 F.2.1 dL_acts_453 (by decide) ?_
              obtain ⟨z60, ez60, hf⟩ := qn_x hf
              refine qr_irem F (by decide) ez60 dL_acts_454 ?_
              obtain ⟨r61, M63, h64, k62, hf⟩ := qb3_x hf
              refine qr_cVi F G hP hS (qc_X2_setRepair l G.2.1 hv k62) (qw_rcR hv.1) gL_acts_X2_setRepair rfl ⟨rfl, rfl⟩ e_X2_setRepair ⟨Nat.le_of_ble_eq_true rfl, Nat.le_of_ble_eq_true rfl⟩ rfl hl.1 rfl (Nat.le_of_ble_eq_true rfl) ⟨Nat.zero_le _, Nat.zero_le _⟩ dL_acts_455 (fun H locs hP hS => ?_)
              refine lv_iload F.1 F.2.1 dL_acts_458 (lv_at hl 0 rfl) ?_
              refine lv_icmp_ne (tgt := 467) F.1 F.2.1 dL_acts_460 (by decide) (fun c65 => ?_) (fun c65 => ?_)
              · replace hf := qi_f c65 hf
                refine lv_iconst (v := (nI 0)) F.1 F.2.1 dL_acts_467 (by decide) ?_
                obtain ⟨e9, e8, e7⟩ := qs3 hf
                subst e9
                subst e8
                subst e7
                exact hQ _ _ _ _ hP hS rfl dL_acts_468
              · replace hf := qi_t c65 hf
                refine lv_iconst (v := (nI 1)) F.1 F.2.1 dL_acts_463 (by decide) ?_
                refine lv_goto (tgt := 468) F.1 F.2.1 dL_acts_464 (by decide) ?_
                obtain ⟨e9, e8, e7⟩ := qs3 hf
                subst e9
                subst e8
                subst e7
                exact hQ _ _ _ _ hP hS rfl dL_acts_468
          · replace hf := qi_f c10 hf
            refine lv_iconst (v := (nI 1)) F.1 F.2.1 dL_acts_292 (by decide) ?_
            refine lv_iload F.1 F.2.1 dL_acts_293 (lv_at hl 1 rfl) ?_
            refine lv_iconst (v := (nI 4)) F.1 F.2.1 dL_acts_295 (by decide) ?_
            obtain ⟨z66, ez66, hf⟩ := qn_x hf
            refine qr_irem F (by decide) ez66 dL_acts_296 ?_
            obtain ⟨z67, ez67, hf⟩ := qn_x hf
            refine qr_iadd F ez67 dL_acts_297 ?_
            refine lv_istore (lv' := [(10, .int z67), (9, .int r4), (8, .int r2), (0, .ref (qw_ad L 8 0)), (1, .ref (qw_ad L 9 1)), (2, .ref (qw_ad L 9 2)), (3, .ref (qw_ad L 9 3)), (4, .ref (qw_ad L 9 4)), (5, .ref (qw_ad L 9 5)), (6, .ref (qw_ad L 9 6)), (7, .int x7)]) F.1 F.2.1 dL_acts_298 hl (by decide) rfl (fun ls hl => ?_)
            refine lv_iload F.1 F.2.1 dL_acts_300 (lv_at hl 0 rfl) ?_
            refine lv_aload_n F.1 F.2.1 dL_acts_302 rfl (lv_at hl 4 rfl) ?_
            refine lv_iconst (v := (nI 0)) F.1 F.2.1 dL_acts_303 (by decide) ?_
            obtain ⟨z68, ez68, hf⟩ := qn_x hf
            refine qr_ald F G hP rfl (qw_I9 (c := 1) (n := 15) hv9 (by decide)) (by unfold vp_in; decide) (by decide) ez68 dL_acts_304 ?_
            refine lv_icmp_le (tgt := 344) F.1 F.2.1 dL_acts_305 (by decide) (fun c69 => ?_) (fun c69 => ?_)
            · replace hf := qi_t c69 hf
              refine lv_aload_n F.1 F.2.1 dL_acts_344 rfl (lv_at hl 4 rfl) ?_
              refine lv_iconst (v := (nI 0)) F.1 F.2.1 dL_acts_345 (by decide) ?_
              refine lv_dup2_11 F.1 F.2.1 dL_acts_346 rfl rfl ?_
              obtain ⟨z70, ez70, hf⟩ := qn_x hf
              refine qr_ald F G hP rfl (qw_I9 (c := 1) (n := 15) hv9 (by decide)) (by unfold vp_in; decide) (by decide) ez70 dL_acts_347 ?_
              refine lv_iload F.1 F.2.1 dL_acts_348 (lv_at hl 0 rfl) ?_
              obtain ⟨z71, ez71, hf⟩ := qn_x hf
              refine qr_isub F ez71 dL_acts_350 ?_
              obtain ⟨M72, eM72, hf⟩ := qn_x hf
              refine qr_ast F G hP hS rfl (qw_I9 (c := 1) (n := 15) hv9 (by decide)) (by unfold vp_in; decide) (by decide) eM72.symm dL_acts_351 (fun H locs hP hS => ?_)
              refine lv_iconst (v := (nI 0)) F.1 F.2.1 dL_acts_352 (by decide) ?_
              refine lv_istore (lv' := [(11, .int (nI 0)), (10, .int z67), (9, .int r4), (8, .int r2), (0, .ref (qw_ad L 8 0)), (1, .ref (qw_ad L 9 1)), (2, .ref (qw_ad L 9 2)), (3, .ref (qw_ad L 9 3)), (4, .ref (qw_ad L 9 4)), (5, .ref (qw_ad L 9 5)), (6, .ref (qw_ad L 9 6)), (7, .int x7)]) F.1 F.2.1 dL_acts_353 hl (by decide) rfl (fun ls hl => ?_)
              exact qb_L_acts_355 F G hv hv9 hQ _ _ _ _ _ _ _ _ hf hP hS (lv_sub hl [4, 5, 8, 1, 0] rfl)
            · replace hf := qi_f c69 hf
              refine lv_aload_n F.1 F.2.1 dL_acts_308 rfl (lv_at hl 3 rfl) ?_
              refine lv_iload F.1 F.2.1 dL_acts_309 (lv_at hl 0 rfl) ?_
              obtain ⟨r73, M75, h76, k74, hf⟩ := qb3_x hf
              refine qr_cVi F G hP hS (qc_X2_raise l G.2.1 hv k74) (qw_rcR hv.1) gL_acts_X2_raise rfl ⟨rfl, rfl⟩ e_X2_raise ⟨Nat.le_of_ble_eq_true rfl, Nat.le_of_ble_eq_true rfl⟩ rfl hl.1 rfl (Nat.le_of_ble_eq_true rfl) ⟨Nat.zero_le _, Nat.zero_le _⟩ dL_acts_311 (fun H locs hP hS => ?_)
              refine lv_bipush (v := (-2 : Int32)) F.1 F.2.1 dL_acts_314 (by decide) ?_
              refine lv_icmp_ne (tgt := 342) F.1 F.2.1 dL_acts_316 (by decide) (fun c77 => ?_) (fun c77 => ?_)
              · replace hf := qi_f c77 hf
                refine lv_iconst (v := (nI 0)) F.1 F.2.1 dL_acts_342 (by decide) ?_
                obtain ⟨e9, e8, e7⟩ := qs3 hf
                subst e9
                subst e8
                subst e7
                exact hQ _ _ _ _ hP hS rfl dL_acts_343
              · replace hf := qi_t c77 hf
                refine lv_aload_n F.1 F.2.1 dL_acts_319 rfl (lv_at hl 3 rfl) ?_
                refine lv_bipush (v := (nI 41)) F.1 F.2.1 dL_acts_320 (by decide) ?_
                obtain ⟨r78, M80, h81, k79, hf⟩ := qb3_x hf
                refine qr_cVi F G hP hS (qc_X2_raise l G.2.1 hv k79) (qw_rcR hv.1) gL_acts_X2_raise rfl ⟨rfl, rfl⟩ e_X2_raise ⟨Nat.le_of_ble_eq_true rfl, Nat.le_of_ble_eq_true rfl⟩ rfl hl.1 rfl (Nat.le_of_ble_eq_true rfl) ⟨Nat.zero_le _, Nat.zero_le _⟩ dL_acts_322 (fun H locs hP hS => ?_)
                refine lv_iconst (v := (-1 : Int32)) F.1 F.2.1 dL_acts_325 (by decide) ?_
                refine lv_icmp_ne (tgt := 342) F.1 F.2.1 dL_acts_326 (by decide) (fun c82 => ?_) (fun c82 => ?_)
                · replace hf := qi_f c82 hf
                  refine lv_iconst (v := (nI 0)) F.1 F.2.1 dL_acts_342 (by decide) ?_
                  obtain ⟨e9, e8, e7⟩ := qs3 hf
                  subst e9
                  subst e8
                  subst e7
                  exact hQ _ _ _ _ hP hS rfl dL_acts_343
                · replace hf := qi_t c82 hf
                  refine lv_aload_n F.1 F.2.1 dL_acts_329 rfl (lv_at hl 3 rfl) ?_
                  refine lv_iconst (v := (nI 0)) F.1 F.2.1 dL_acts_330 (by decide) ?_
                  obtain ⟨r83, M85, h86, k84, hf⟩ := qb3_x hf
                  refine qr_cVi F G hP hS (qc_X2_raise l G.2.1 hv k84) (qw_rcR hv.1) gL_acts_X2_raise rfl ⟨rfl, rfl⟩ e_X2_raise ⟨Nat.le_of_ble_eq_true rfl, Nat.le_of_ble_eq_true rfl⟩ rfl hl.1 rfl (Nat.le_of_ble_eq_true rfl) ⟨Nat.zero_le _, Nat.zero_le _⟩ dL_acts_331 (fun H locs hP hS => ?_)
                  refine lv_iconst (v := (-1 : Int32)) F.1 F.2.1 dL_acts_334 (by decide) ?_
                  refine lv_icmp_ne (tgt := 342) F.1 F.2.1 dL_acts_335 (by decide) (fun c87 => ?_) (fun c87 => ?_)
                  · replace hf := qi_f c87 hf
                    refine lv_iconst (v := (nI 0)) F.1 F.2.1 dL_acts_342 (by decide) ?_
                    obtain ⟨e9, e8, e7⟩ := qs3 hf
                    subst e9
                    subst e8
                    subst e7
                    exact hQ _ _ _ _ hP hS rfl dL_acts_343
                  · replace hf := qi_t c87 hf
                    refine lv_iconst (v := (nI 1)) F.1 F.2.1 dL_acts_338 (by decide) ?_
                    refine lv_goto (tgt := 343) F.1 F.2.1 dL_acts_339 (by decide) ?_
                    obtain ⟨e9, e8, e7⟩ := qs3 hf
                    subst e9
                    subst e8
                    subst e7
                    exact hQ _ _ _ _ hP hS rfl dL_acts_343
        · replace hf := qi_f c9 hf
          refine lv_aload_n F.1 F.2.1 dL_acts_239 rfl (lv_at hl 3 rfl) ?_
          refine lv_iconst (v := (nI 0)) F.1 F.2.1 dL_acts_240 (by decide) ?_
          obtain ⟨z88, ez88, hf⟩ := qn_x hf
          refine qr_ald F G hP rfl (qw_I9 (c := 1) (n := 15) hv9 (by decide)) (by unfold vp_in; decide) (by decide) ez88 dL_acts_241 ?_
          refine lv_if_ne (tgt := 260) F.1 F.2.1 dL_acts_242 (by decide) (fun c89 => ?_) (fun c89 => ?_)
          · replace hf := qi_f c89 hf
            refine lv_aload_n F.1 F.2.1 dL_acts_260 rfl (lv_at hl 2 rfl) ?_
            obtain ⟨r90, M92, h93, k91, hf⟩ := qb3_x hf
            refine qr_cVi F G hP hS (qc_X2_ret l G.2.1 hv k91) (qw_rcR hv.1) gL_acts_X2_ret rfl ⟨rfl, rfl⟩ e_X2_ret ⟨Nat.le_of_ble_eq_true rfl, Nat.le_of_ble_eq_true rfl⟩ rfl hl.1 rfl (Nat.le_of_ble_eq_true rfl) ⟨Nat.zero_le _, Nat.zero_le _⟩ dL_acts_261 (fun H locs hP hS => ?_)
            refine lv_aload_n F.1 F.2.1 dL_acts_264 rfl (lv_at hl 3 rfl) ?_
            refine lv_aload_n F.1 F.2.1 dL_acts_265 rfl (lv_at hl 4 rfl) ?_
            refine lv_aload_n F.1 F.2.1 dL_acts_266 rfl (lv_at hl 5 rfl) ?_
            refine lv_aload F.1 F.2.1 dL_acts_267 (lv_at hl 6 rfl) ?_
            refine lv_aload F.1 F.2.1 dL_acts_269 (lv_at hl 7 rfl) ?_
            refine lv_aload F.1 F.2.1 dL_acts_271 (lv_at hl 8 rfl) ?_
            obtain ⟨r94, m96, k95, hf⟩ := qb2_x hf
            obtain ⟨M97, eM97, hf⟩ := qn_x hf
            refine qr_cSi F G hP hS (qc_L_returned l G.2.1 rfl eM97.symm hv9 k95) gL_acts_L_returned rfl ⟨rfl, rfl⟩ e_L_returned ⟨Nat.le_of_ble_eq_true rfl, Nat.le_of_ble_eq_true rfl⟩ rfl hl.1 rfl (Nat.le_of_ble_eq_true rfl) ⟨Nat.zero_le _, Nat.zero_le _⟩ dL_acts_273 (fun H locs hP hS => ?_)
            refine lv_icmp_ne (tgt := 283) F.1 F.2.1 dL_acts_276 (by decide) (fun c98 => ?_) (fun c98 => ?_)
            · replace hf := qi_f c98 hf
              refine lv_iconst (v := (nI 0)) F.1 F.2.1 dL_acts_283 (by decide) ?_
              obtain ⟨e9, e8, e7⟩ := qs3 hf
              subst e9
              subst e8
              subst e7
              exact hQ _ _ _ _ hP hS rfl dL_acts_284
            · replace hf := qi_t c98 hf
              refine lv_iconst (v := (nI 1)) F.1 F.2.1 dL_acts_279 (by decide) ?_
              refine lv_goto (tgt := 284) F.1 F.2.1 dL_acts_280 (by decide) ?_
              obtain ⟨e9, e8, e7⟩ := qs3 hf
              subst e9
              subst e8
              subst e7
              exact hQ _ _ _ _ hP hS rfl dL_acts_284
          · replace hf := qi_t c89 hf
            refine lv_aload_n F.1 F.2.1 dL_acts_245 rfl (lv_at hl 2 rfl) ?_
            obtain ⟨r99, M101, h102, k100, hf⟩ := qb3_x hf
            refine qr_cVi F G hP hS (qc_X2_ret l G.2.1 hv k100) (qw_rcR hv.1) gL_acts_X2_ret rfl ⟨rfl, rfl⟩ e_X2_ret ⟨Nat.le_of_ble_eq_true rfl, Nat.le_of_ble_eq_true rfl⟩ rfl hl.1 rfl (Nat.le_of_ble_eq_true rfl) ⟨Nat.zero_le _, Nat.zero_le _⟩ dL_acts_246 (fun H locs hP hS => ?_)
            refine lv_bipush (v := (-2 : Int32)) F.1 F.2.1 dL_acts_249 (by decide) ?_
            refine lv_icmp_ne (tgt := 258) F.1 F.2.1 dL_acts_251 (by decide) (fun c103 => ?_) (fun c103 => ?_)
            · replace hf := qi_f c103 hf
              refine lv_iconst (v := (nI 0)) F.1 F.2.1 dL_acts_258 (by decide) ?_
              obtain ⟨e9, e8, e7⟩ := qs3 hf
              subst e9
              subst e8
              subst e7
              exact hQ _ _ _ _ hP hS rfl dL_acts_259
            · replace hf := qi_t c103 hf
              refine lv_iconst (v := (nI 1)) F.1 F.2.1 dL_acts_254 (by decide) ?_
              refine lv_goto (tgt := 259) F.1 F.2.1 dL_acts_255 (by decide) ?_
              obtain ⟨e9, e8, e7⟩ := qs3 hf
              subst e9
              subst e8
              subst e7
              exact hQ _ _ _ _ hP hS rfl dL_acts_259
      · replace hf := qi_f c8 hf
        refine lv_aload_n F.1 F.2.1 dL_acts_134 rfl (lv_at hl 3 rfl) ?_
        refine lv_iconst (v := (nI 0)) F.1 F.2.1 dL_acts_135 (by decide) ?_
        obtain ⟨z104, ez104, hf⟩ := qn_x hf
        refine qr_ald F G hP rfl (qw_I9 (c := 1) (n := 15) hv9 (by decide)) (by unfold vp_in; decide) (by decide) ez104 dL_acts_136 ?_
        refine lv_if_ne (tgt := 160) F.1 F.2.1 dL_acts_137 (by decide) (fun c105 => ?_) (fun c105 => ?_)
        · replace hf := qi_f c105 hf
          refine lv_aload_n F.1 F.2.1 dL_acts_160 rfl (lv_at hl 3 rfl) ?_
          refine lv_iconst (v := (nI 0)) F.1 F.2.1 dL_acts_161 (by decide) ?_
          obtain ⟨z106, ez106, hf⟩ := qn_x hf
          refine qr_ald F G hP rfl (qw_I9 (c := 1) (n := 15) hv9 (by decide)) (by unfold vp_in; decide) (by decide) ez106 dL_acts_162 ?_
          refine lv_iconst (v := (nI 1)) F.1 F.2.1 dL_acts_163 (by decide) ?_
          obtain ⟨z107, ez107, hf⟩ := qn_x hf
          refine qr_isub F ez107 dL_acts_164 ?_
          refine lv_istore (lv' := [(10, .int z107), (9, .int r4), (8, .int r2), (0, .ref (qw_ad L 8 0)), (1, .ref (qw_ad L 9 1)), (2, .ref (qw_ad L 9 2)), (3, .ref (qw_ad L 9 3)), (4, .ref (qw_ad L 9 4)), (5, .ref (qw_ad L 9 5)), (6, .ref (qw_ad L 9 6)), (7, .int x7)]) F.1 F.2.1 dL_acts_165 hl (by decide) rfl (fun ls hl => ?_)
          refine lv_aload_n F.1 F.2.1 dL_acts_167 rfl (lv_at hl 5 rfl) ?_
          refine lv_iload F.1 F.2.1 dL_acts_168 (lv_at hl 0 rfl) ?_
          obtain ⟨g109, hf⟩ := qg_x hf
          obtain ⟨z108, ez108, hf⟩ := qn_x hf
          refine qr_ldL F G hP rfl (qw_IL9 (c := 2) (n := 40) hv9 (by decide)) g109 rfl ez108 dL_acts_170 ?_
          refine lv_bipush (v := (nI 8)) F.1 F.2.1 dL_acts_171 (by decide) ?_
          obtain ⟨z110, ez110, hf⟩ := qn_x hf
          refine qr_lshr F ez110 dL_acts_173 ?_
          refine qr_ldc2 F (v := (15 : Int64)) (List.mem_of_getElem? (i := 2) rfl) dL_acts_174 ?_
          obtain ⟨z111, ez111, hf⟩ := qn_x hf
          refine qr_land F ez111 dL_acts_177 ?_
          obtain ⟨z112, ez112, hf⟩ := qn_x hf
          refine qr_l2i F ez112 dL_acts_178 ?_
          refine lv_istore (lv' := [(11, .int z112), (10, .int z107), (9, .int r4), (8, .int r2), (0, .ref (qw_ad L 8 0)), (1, .ref (qw_ad L 9 1)), (2, .ref (qw_ad L 9 2)), (3, .ref (qw_ad L 9 3)), (4, .ref (qw_ad L 9 4)), (5, .ref (qw_ad L 9 5)), (6, .ref (qw_ad L 9 6)), (7, .int x7)]) F.1 F.2.1 dL_acts_179 hl (by decide) rfl (fun ls hl => ?_)
          refine lv_aload_n F.1 F.2.1 dL_acts_181 rfl (lv_at hl 6 rfl) ?_
          refine lv_iload F.1 F.2.1 dL_acts_182 (lv_at hl 1 rfl) ?_
          refine lv_dup2_11 F.1 F.2.1 dL_acts_184 rfl rfl ?_
          obtain ⟨g114, hf⟩ := qg_x hf
          obtain ⟨z113, ez113, hf⟩ := qn_x hf
          refine qr_ldL F G hP rfl (qw_IL9 (c := 2) (n := 40) hv9 (by decide)) g114 rfl ez113 dL_acts_185 ?_
          refine lv_iload F.1 F.2.1 dL_acts_186 (lv_at hl 3 rfl) ?_
          refine lv_bipush (v := (nI 16)) F.1 F.2.1 dL_acts_188 (by decide) ?_
          obtain ⟨z115, ez115, hf⟩ := qn_x hf
          refine qr_irem F (by decide) ez115 dL_acts_190 ?_
          refine lv_iload F.1 F.2.1 dL_acts_191 (lv_at hl 0 rfl) ?_
          obtain ⟨z116, ez116, hf⟩ := qn_x hf
          refine qr_isub F ez116 dL_acts_193 ?_
          refine lv_bipush (v := (nI 8)) F.1 F.2.1 dL_acts_194 (by decide) ?_
          obtain ⟨z117, ez117, hf⟩ := qn_x hf
          refine qr_ishl F ez117 dL_acts_196 ?_
          obtain ⟨z118, ez118, hf⟩ := qn_x hf
          refine qr_i2l F ez118 dL_acts_197 ?_
          obtain ⟨z119, ez119, hf⟩ := qn_x hf
          refine qr_ladd F ez119 dL_acts_198 ?_
          obtain ⟨g120, hf⟩ := qg_x hf
          obtain ⟨M121, eM121, hf⟩ := qn_x hf
          refine qr_stL F G hP hS rfl (qw_IL9 (c := 2) (n := 40) hv9 (by decide)) g120 rfl eM121.symm dL_acts_199 (fun H locs hP hS => ?_)
          refine lv_aload_n F.1 F.2.1 dL_acts_200 rfl (lv_at hl 5 rfl) ?_
          refine lv_aload F.1 F.2.1 dL_acts_201 (lv_at hl 8 rfl) ?_
          refine lv_iconst (v := (nI 1)) F.1 F.2.1 dL_acts_203 (by decide) ?_
          refine lv_iload F.1 F.2.1 dL_acts_204 (lv_at hl 3 rfl) ?_
          refine lv_bipush (v := (nI 16)) F.1 F.2.1 dL_acts_206 (by decide) ?_
          obtain ⟨z122, ez122, hf⟩ := qn_x hf
          refine qr_irem F (by decide) ez122 dL_acts_208 ?_
          obtain ⟨m124, k123, hf⟩ := qb1_x hf
          obtain ⟨M125, eM125, hf⟩ := qn_x hf
          refine qr_cSv F G hP hS (qc_L_steps l G.2.1 rfl eM125.symm hv9 k123) gL_acts_L_steps rfl ⟨rfl, rfl⟩ e_L_steps ⟨Nat.le_of_ble_eq_true rfl, Nat.le_of_ble_eq_true rfl⟩ rfl hl.1 rfl (Nat.le_of_ble_eq_true rfl) ⟨Nat.zero_le _, Nat.zero_le _⟩ dL_acts_209 (fun H locs hP hS => ?_)
          refine lv_aload_n F.1 F.2.1 dL_acts_212 rfl (lv_at hl 4 rfl) ?_
          refine lv_iload F.1 F.2.1 dL_acts_213 (lv_at hl 3 rfl) ?_
          refine lv_bipush (v := (nI 16)) F.1 F.2.1 dL_acts_215 (by decide) ?_
          obtain ⟨z126, ez126, hf⟩ := qn_x hf
          refine qr_irem F (by decide) ez126 dL_acts_217 ?_
          obtain ⟨r127, M129, h130, k128, hf⟩ := qb3_x hf
          refine qr_cVi F G hP hS (qc_X2_tail l G.2.1 hv k128) (qw_rcR hv.1) gL_acts_X2_tail rfl ⟨rfl, rfl⟩ e_X2_tail ⟨Nat.le_of_ble_eq_true rfl, Nat.le_of_ble_eq_true rfl⟩ rfl hl.1 rfl (Nat.le_of_ble_eq_true rfl) ⟨Nat.zero_le _, Nat.zero_le _⟩ dL_acts_218 (fun H locs hP hS => ?_)
          refine lv_iload F.1 F.2.1 dL_acts_221 (lv_at hl 0 rfl) ?_
          refine lv_icmp_ne (tgt := 230) F.1 F.2.1 dL_acts_223 (by decide) (fun c131 => ?_) (fun c131 => ?_)
          · replace hf := qi_f c131 hf
            refine lv_iconst (v := (nI 0)) F.1 F.2.1 dL_acts_230 (by decide) ?_
            obtain ⟨e9, e8, e7⟩ := qs3 hf
            subst e9
            subst e8
            subst e7
            exact hQ _ _ _ _ hP hS rfl dL_acts_231
          · replace hf := qi_t c131 hf
            refine lv_iconst (v := (nI 1)) F.1 F.2.1 dL_acts_226 (by decide) ?_
            refine lv_goto (tgt := 231) F.1 F.2.1 dL_acts_227 (by decide) ?_
            obtain ⟨e9, e8, e7⟩ := qs3 hf
            subst e9
            subst e8
            subst e7
            exact hQ _ _ _ _ hP hS rfl dL_acts_231
        · replace hf := qi_t c105 hf
          refine lv_aload_n F.1 F.2.1 dL_acts_140 rfl (lv_at hl 2 rfl) ?_
          refine lv_iload F.1 F.2.1 dL_acts_141 (lv_at hl 1 rfl) ?_
          refine lv_bipush (v := (nI 16)) F.1 F.2.1 dL_acts_143 (by decide) ?_
          obtain ⟨z132, ez132, hf⟩ := qn_x hf
          refine qr_irem F (by decide) ez132 dL_acts_145 ?_
          obtain ⟨r133, M135, h136, k134, hf⟩ := qb3_x hf
          refine qr_cVi F G hP hS (qc_X2_tail l G.2.1 hv k134) (qw_rcR hv.1) gL_acts_X2_tail rfl ⟨rfl, rfl⟩ e_X2_tail ⟨Nat.le_of_ble_eq_true rfl, Nat.le_of_ble_eq_true rfl⟩ rfl hl.1 rfl (Nat.le_of_ble_eq_true rfl) ⟨Nat.zero_le _, Nat.zero_le _⟩ dL_acts_146 (fun H locs hP hS => ?_)
          refine lv_bipush (v := (-2 : Int32)) F.1 F.2.1 dL_acts_149 (by decide) ?_
          refine lv_icmp_ne (tgt := 158) F.1 F.2.1 dL_acts_151 (by decide) (fun c137 => ?_) (fun c137 => ?_)
          · replace hf := qi_f c137 hf
            refine lv_iconst (v := (nI 0)) F.1 F.2.1 dL_acts_158 (by decide) ?_
            obtain ⟨e9, e8, e7⟩ := qs3 hf
            subst e9
            subst e8
            subst e7
            exact hQ _ _ _ _ hP hS rfl dL_acts_159
          · replace hf := qi_t c137 hf
            refine lv_iconst (v := (nI 1)) F.1 F.2.1 dL_acts_154 (by decide) ?_
            refine lv_goto (tgt := 159) F.1 F.2.1 dL_acts_155 (by decide) ?_
            obtain ⟨e9, e8, e7⟩ := qs3 hf
            subst e9
            subst e8
            subst e7
            exact hQ _ _ _ _ hP hS rfl dL_acts_159
    · replace hf := qi_f c7 hf
      exact qb_L_acts_34 F G hv hv9 hQ _ _ _ _ _ _ hf hP hS (lv_sub hl [2, 3, 4, 5, 6, 8, 1] rfl)
set_option maxRecDepth 100000 in
set_option maxHeartbeats 4000000 in
theorem qc_L_acts (l : Launch) {L : wL} (hJ : qw_J L) {M M9 : wM} {h h9 : Nat → Nat} {x7 : Int32} {r : Int32} (hv : qw_R L) (hv9 : qw_9 L) (hf : qf_L_acts x7 M h = some (r, M9, h9)) : qw_MI l yL_acts wsL_acts rm_L_acts L [.ref (qw_ad L 8 0), .ref (qw_ad L 9 1), .ref (qw_ad L 9 2), .ref (qw_ad L 9 3), .ref (qw_ad L 9 4), .ref (qw_ad L 9 5), .ref (qw_ad L 9 6), .int x7] M h r M9 h9 := by
  refine qw_MI_of (cc := cL_acts) (maxL := 12) (ty := .boolean) (by decide) rfl hJ (Nat.le_of_ble_eq_true rfl) ?_
  intro p e s mi below meth co Q ls F G hP hQ hl
  exact qb_L_acts F G hv hv9 hQ _ _ _ _ _ _ hf hP va_S.rf hl
def rm_L_isSo : Room := { frames := 3, cells := 0, slots := 0, locals := 64 }
theorem e_L_isSo : qw_hd yL_isSo RL 6 := by decide +kernel
set_option maxRecDepth 100000 in
set_option maxHeartbeats 4000000 in
theorem qb_L_isSo_611 {p : Program} {l : Launch} {e : Env} {s : State} {mi : MethodId} {args : Array Value} {below : List Frame} {meth : Method} {co : Code} {Q : State → Prop} {L : wL} {r : Int32} {M : wM} {h : (Nat → Nat)} (F : CallFix p mi co cL_isSo 15 s args wsL_isSo RL) (G : qw_G L (qw_A L) s) (hv : qw_R L) (hv9 : qw_9 L) (hQ : qw_RI p l e rm_L_isSo s mi args below meth co cL_isSo .boolean Q L r M h) : ∀ (x6 : Int32) (x8 : Int32) (x11 : Int32) (y0 : Int32) (H : Heap) (locs : List Loc) (ls : Array Slot), qf_L_isSo_611 x6 x8 x11 y0 M h = some r → qw_P L M h H → va_S (qw_A L) s.heap H locs → lv_has ls 15 [(0, .ref (qw_ad L 8 0)), (1, .ref (qw_ad L 9 1)), (6, .int x6), (8, .int x8), (11, .int x11)] → W p l e rm_L_isSo s mi args below meth co H locs 0 0 Q (F0 mi 611 ls [.int y0]) := by
  intro x6 x8 x11 y0 H locs ls hf hP hS hl
  unfold qf_L_isSo_611 at hf
  refine lv_istore (lv' := [(10, .int y0), (0, .ref (qw_ad L 8 0)), (1, .ref (qw_ad L 9 1)), (6, .int x6), (8, .int x8), (11, .int x11)]) F.1 F.2.1 dL_isSo_611 hl (by decide) rfl (fun ls hl => ?_)
  refine lv_iload F.1 F.2.1 dL_isSo_613 (lv_at hl 0 rfl) ?_
  refine lv_if_eq (tgt := 699) F.1 F.2.1 dL_isSo_615 (by decide) (fun c1 => ?_) (fun c1 => ?_)
  · replace hf := qi_t c1 hf
    refine lv_iconst (v := (nI 0)) F.1 F.2.1 dL_isSo_699 (by decide) ?_
    have e9 := qs1 hf
    subst e9
    exact hQ _ _ _ _ hP hS rfl dL_isSo_700
  · replace hf := qi_f c1 hf
    refine lv_aload_n F.1 F.2.1 dL_isSo_618 rfl (lv_at hl 1 rfl) ?_
    refine lv_bipush (v := (nI 16)) F.1 F.2.1 dL_isSo_619 (by decide) ?_
    obtain ⟨r2, k3, hf⟩ := qb1_x hf
    refine qr_cVi F G hP hS (qc_X2_count l G.2.1 hv k3) (qw_rcR hv.1) gL_isSo_X2_count rfl ⟨rfl, rfl⟩ e_X2_count ⟨Nat.le_of_ble_eq_true rfl, Nat.le_of_ble_eq_true rfl⟩ rfl hl.1 rfl (Nat.le_of_ble_eq_true rfl) ⟨Nat.zero_le _, Nat.zero_le _⟩ dL_isSo_621 (fun H locs hP hS => ?_)
    refine lv_if_ne (tgt := 699) F.1 F.2.1 dL_isSo_624 (by decide) (fun c4 => ?_) (fun c4 => ?_)
    · replace hf := qi_f c4 hf
      refine lv_iconst (v := (nI 0)) F.1 F.2.1 dL_isSo_699 (by decide) ?_
      have e9 := qs1 hf
      subst e9
      exact hQ _ _ _ _ hP hS rfl dL_isSo_700
    · replace hf := qi_t c4 hf
      refine lv_aload_n F.1 F.2.1 dL_isSo_627 rfl (lv_at hl 1 rfl) ?_
      refine lv_bipush (v := (nI 17)) F.1 F.2.1 dL_isSo_628 (by decide) ?_
      obtain ⟨r5, k6, hf⟩ := qb1_x hf
      refine qr_cVi F G hP hS (qc_X2_count l G.2.1 hv k6) (qw_rcR hv.1) gL_isSo_X2_count rfl ⟨rfl, rfl⟩ e_X2_count ⟨Nat.le_of_ble_eq_true rfl, Nat.le_of_ble_eq_true rfl⟩ rfl hl.1 rfl (Nat.le_of_ble_eq_true rfl) ⟨Nat.zero_le _, Nat.zero_le _⟩ dL_isSo_630 (fun H locs hP hS => ?_)
      refine lv_iload F.1 F.2.1 dL_isSo_633 (lv_at hl 3 rfl) ?_
      refine lv_icmp_ne (tgt := 699) F.1 F.2.1 dL_isSo_635 (by decide) (fun c7 => ?_) (fun c7 => ?_)
      · replace hf := qi_f c7 hf
        refine lv_iconst (v := (nI 0)) F.1 F.2.1 dL_isSo_699 (by decide) ?_
        have e9 := qs1 hf
        subst e9
        exact hQ _ _ _ _ hP hS rfl dL_isSo_700
      · replace hf := qi_t c7 hf
        refine lv_aload_n F.1 F.2.1 dL_isSo_638 rfl (lv_at hl 1 rfl) ?_
        obtain ⟨r8, k9, hf⟩ := qb1_x hf
        refine qr_cVi F G hP hS (qc_X2_worst l G.2.1 hv k9) (qw_rcR hv.1) gL_isSo_X2_worst rfl ⟨rfl, rfl⟩ e_X2_worst ⟨Nat.le_of_ble_eq_true rfl, Nat.le_of_ble_eq_true rfl⟩ rfl hl.1 rfl (Nat.le_of_ble_eq_true rfl) ⟨Nat.zero_le _, Nat.zero_le _⟩ dL_isSo_639 (fun H locs hP hS => ?_)
        refine lv_iload F.1 F.2.1 dL_isSo_642 (lv_at hl 4 rfl) ?_
        refine lv_icmp_ne (tgt := 699) F.1 F.2.1 dL_isSo_644 (by decide) (fun c10 => ?_) (fun c10 => ?_)
        · replace hf := qi_f c10 hf
          refine lv_iconst (v := (nI 0)) F.1 F.2.1 dL_isSo_699 (by decide) ?_
          have e9 := qs1 hf
          subst e9
          exact hQ _ _ _ _ hP hS rfl dL_isSo_700
        · replace hf := qi_t c10 hf
          refine lv_aload_n F.1 F.2.1 dL_isSo_647 rfl (lv_at hl 1 rfl) ?_
          refine lv_aload_n F.1 F.2.1 dL_isSo_648 rfl (lv_at hl 2 rfl) ?_
          refine lv_iconst (v := (nI 0)) F.1 F.2.1 dL_isSo_649 (by decide) ?_
          obtain ⟨z11, ez11, hf⟩ := qn_x hf
          refine qr_ald F G hP rfl (qw_I9 (c := 1) (n := 15) hv9 (by decide)) (by unfold vp_in; decide) (by decide) ez11 dL_isSo_650 ?_
          refine lv_iconst (v := (nI 0)) F.1 F.2.1 dL_isSo_651 (by decide) ?_
          obtain ⟨r12, k13, hf⟩ := qb1_x hf
          refine qr_cVi F G hP hS (qc_X2_frame l G.2.1 hv k13) (qw_rcR hv.1) gL_isSo_X2_frame rfl ⟨rfl, rfl⟩ e_X2_frame ⟨Nat.le_of_ble_eq_true rfl, Nat.le_of_ble_eq_true rfl⟩ rfl hl.1 rfl (Nat.le_of_ble_eq_true rfl) ⟨Nat.zero_le _, Nat.zero_le _⟩ dL_isSo_652 (fun H locs hP hS => ?_)
          refine lv_iconst (v := (-1 : Int32)) F.1 F.2.1 dL_isSo_655 (by decide) ?_
          refine lv_icmp_ne (tgt := 699) F.1 F.2.1 dL_isSo_656 (by decide) (fun c14 => ?_) (fun c14 => ?_)
          · replace hf := qi_f c14 hf
            refine lv_iconst (v := (nI 0)) F.1 F.2.1 dL_isSo_699 (by decide) ?_
            have e9 := qs1 hf
            subst e9
            exact hQ _ _ _ _ hP hS rfl dL_isSo_700
          · replace hf := qi_t c14 hf
            refine lv_aload_n F.1 F.2.1 dL_isSo_659 rfl (lv_at hl 1 rfl) ?_
            refine lv_aload_n F.1 F.2.1 dL_isSo_660 rfl (lv_at hl 2 rfl) ?_
            refine lv_bipush (v := (nI 11)) F.1 F.2.1 dL_isSo_661 (by decide) ?_
            obtain ⟨z15, ez15, hf⟩ := qn_x hf
            refine qr_ald F G hP rfl (qw_I9 (c := 1) (n := 15) hv9 (by decide)) (by unfold vp_in; decide) (by decide) ez15 dL_isSo_663 ?_
            refine lv_iconst (v := (nI 0)) F.1 F.2.1 dL_isSo_664 (by decide) ?_
            obtain ⟨r16, k17, hf⟩ := qb1_x hf
            refine qr_cVi F G hP hS (qc_X2_slot l G.2.1 hv k17) (qw_rcR hv.1) gL_isSo_X2_slot rfl ⟨rfl, rfl⟩ e_X2_slot ⟨Nat.le_of_ble_eq_true rfl, Nat.le_of_ble_eq_true rfl⟩ rfl hl.1 rfl (Nat.le_of_ble_eq_true rfl) ⟨Nat.zero_le _, Nat.zero_le _⟩ dL_isSo_665 (fun H locs hP hS => ?_)
            refine lv_iconst (v := (-1 : Int32)) F.1 F.2.1 dL_isSo_668 (by decide) ?_
            refine lv_icmp_ne (tgt := 699) F.1 F.2.1 dL_isSo_669 (by decide) (fun c18 => ?_) (fun c18 => ?_)
            · replace hf := qi_f c18 hf
              refine lv_iconst (v := (nI 0)) F.1 F.2.1 dL_isSo_699 (by decide) ?_
              have e9 := qs1 hf
              subst e9
              exact hQ _ _ _ _ hP hS rfl dL_isSo_700
            · replace hf := qi_t c18 hf
              refine lv_aload_n F.1 F.2.1 dL_isSo_672 rfl (lv_at hl 1 rfl) ?_
              refine lv_iload F.1 F.2.1 dL_isSo_673 (lv_at hl 5 rfl) ?_
              refine lv_iconst (v := (nI 0)) F.1 F.2.1 dL_isSo_675 (by decide) ?_
              obtain ⟨r19, k20, hf⟩ := qb1_x hf
              refine qr_cVi F G hP hS (qc_X2_confession l G.2.1 hv k20) (qw_rcR hv.1) gL_isSo_X2_confession rfl ⟨rfl, rfl⟩ e_X2_confession ⟨Nat.le_of_ble_eq_true rfl, Nat.le_of_ble_eq_true rfl⟩ rfl hl.1 rfl (Nat.le_of_ble_eq_true rfl) ⟨Nat.zero_le _, Nat.zero_le _⟩ dL_isSo_676 (fun H locs hP hS => ?_)
              refine lv_bipush (v := (-9 : Int32)) F.1 F.2.1 dL_isSo_679 (by decide) ?_
              refine lv_icmp_ne (tgt := 699) F.1 F.2.1 dL_isSo_681 (by decide) (fun c21 => ?_) (fun c21 => ?_)
              · replace hf := qi_f c21 hf
                refine lv_iconst (v := (nI 0)) F.1 F.2.1 dL_isSo_699 (by decide) ?_
                have e9 := qs1 hf
                subst e9
                exact hQ _ _ _ _ hP hS rfl dL_isSo_700
              · replace hf := qi_t c21 hf
                refine lv_aload_n F.1 F.2.1 dL_isSo_684 rfl (lv_at hl 1 rfl) ?_
                refine lv_aload_n F.1 F.2.1 dL_isSo_685 rfl (lv_at hl 2 rfl) ?_
                refine lv_iconst (v := (nI 2)) F.1 F.2.1 dL_isSo_686 (by decide) ?_
                obtain ⟨z22, ez22, hf⟩ := qn_x hf
                refine qr_ald F G hP rfl (qw_I9 (c := 1) (n := 15) hv9 (by decide)) (by unfold vp_in; decide) (by decide) ez22 dL_isSo_687 ?_
                obtain ⟨r23, k24, hf⟩ := qb1_x hf
                refine qr_cVi F G hP hS (qc_X2_named l G.2.1 hv k24) (qw_rcR hv.1) gL_isSo_X2_named rfl ⟨rfl, rfl⟩ e_X2_named ⟨Nat.le_of_ble_eq_true rfl, Nat.le_of_ble_eq_true rfl⟩ rfl hl.1 rfl (Nat.le_of_ble_eq_true rfl) ⟨Nat.zero_le _, Nat.zero_le _⟩ dL_isSo_688 (fun H locs hP hS => ?_)
                refine lv_iconst (v := (-1 : Int32)) F.1 F.2.1 dL_isSo_691 (by decide) ?_
                refine lv_icmp_ne (tgt := 699) F.1 F.2.1 dL_isSo_692 (by decide) (fun c25 => ?_) (fun c25 => ?_)
                · replace hf := qi_f c25 hf
                  refine lv_iconst (v := (nI 0)) F.1 F.2.1 dL_isSo_699 (by decide) ?_
                  have e9 := qs1 hf
                  subst e9
                  exact hQ _ _ _ _ hP hS rfl dL_isSo_700
                · replace hf := qi_t c25 hf
                  refine lv_iconst (v := (nI 1)) F.1 F.2.1 dL_isSo_695 (by decide) ?_
                  refine lv_goto (tgt := 700) F.1 F.2.1 dL_isSo_696 (by decide) ?_
                  have e9 := qs1 hf
                  subst e9
                  exact hQ _ _ _ _ hP hS rfl dL_isSo_700
set_option maxRecDepth 100000 in
set_option maxHeartbeats 4000000 in
theorem qb_L_isSo_610 {p : Program} {l : Launch} {e : Env} {s : State} {mi : MethodId} {args : Array Value} {below : List Frame} {meth : Method} {co : Code} {Q : State → Prop} {L : wL} {r : Int32} {M : wM} {h : (Nat → Nat)} (F : CallFix p mi co cL_isSo 15 s args wsL_isSo RL) (G : qw_G L (qw_A L) s) (hv : qw_R L) (hv9 : qw_9 L) (hQ : qw_RI p l e rm_L_isSo s mi args below meth co cL_isSo .boolean Q L r M h) : ∀ (x6 : Int32) (x8 : Int32) (x11 : Int32) (H : Heap) (locs : List Loc) (ls : Array Slot), qf_L_isSo_610 x6 x8 x11 M h = some r → qw_P L M h H → va_S (qw_A L) s.heap H locs → lv_has ls 15 [(0, .ref (qw_ad L 8 0)), (1, .ref (qw_ad L 9 1)), (6, .int x6), (8, .int x8), (11, .int x11)] → W p l e rm_L_isSo s mi args below meth co H locs 0 0 Q (F0 mi 610 ls []) := by
  intro x6 x8 x11 H locs ls hf hP hS hl
  unfold qf_L_isSo_610 at hf
  refine lv_iconst (v := (nI 0)) F.1 F.2.1 dL_isSo_610 (by decide) ?_
  exact qb_L_isSo_611 F G hv hv9 hQ _ _ _ _ _ _ _ hf hP hS (lv_sub hl [0, 1, 2, 3, 4] rfl)
set_option maxRecDepth 100000 in
set_option maxHeartbeats 4000000 in
theorem qb_L_isSo_558 {p : Program} {l : Launch} {e : Env} {s : State} {mi : MethodId} {args : Array Value} {below : List Frame} {meth : Method} {co : Code} {Q : State → Prop} {L : wL} {r : Int32} {M : wM} {h : (Nat → Nat)} (F : CallFix p mi co cL_isSo 15 s args wsL_isSo RL) (G : qw_G L (qw_A L) s) (hv : qw_R L) (hv9 : qw_9 L) (hQ : qw_RI p l e rm_L_isSo s mi args below meth co cL_isSo .boolean Q L r M h) : ∀ (x6 : Int32) (x8 : Int32) (x9 : Int32) (x10 : Int32) (x11 : Int32) (H : Heap) (locs : List Loc) (ls : Array Slot), qf_L_isSo_558 x6 x8 x9 x10 x11 M h = some r → qw_P L M h H → va_S (qw_A L) s.heap H locs → lv_has ls 15 [(0, .ref (qw_ad L 8 0)), (1, .ref (qw_ad L 9 1)), (6, .int x6), (8, .int x8), (9, .int x9), (10, .int x10), (11, .int x11)] → W p l e rm_L_isSo s mi args below meth co H locs 0 0 Q (F0 mi 558 ls []) := by
  intro x6 x8 x9 x10 x11 H locs ls hf hP hS hl
  unfold qf_L_isSo_558 at hf
  refine lv_iload F.1 F.2.1 dL_isSo_558 (lv_at hl 5 rfl) ?_
  refine lv_if_eq (tgt := 610) F.1 F.2.1 dL_isSo_560 (by decide) (fun c1 => ?_) (fun c1 => ?_)
  · replace hf := qi_t c1 hf
    exact qb_L_isSo_610 F G hv hv9 hQ _ _ _ _ _ _ hf hP hS (lv_sub hl [0, 1, 2, 3, 6] rfl)
  · replace hf := qi_f c1 hf
    refine lv_aload_n F.1 F.2.1 dL_isSo_563 rfl (lv_at hl 1 rfl) ?_
    refine lv_iconst (v := (nI 4)) F.1 F.2.1 dL_isSo_564 (by decide) ?_
    obtain ⟨z2, ez2, hf⟩ := qn_x hf
    refine qr_ald F G hP rfl (qw_I9 (c := 1) (n := 15) hv9 (by decide)) (by unfold vp_in; decide) (by decide) ez2 dL_isSo_565 ?_
    refine lv_aload_n F.1 F.2.1 dL_isSo_566 rfl (lv_at hl 1 rfl) ?_
    refine lv_bipush (v := (nI 6)) F.1 F.2.1 dL_isSo_567 (by decide) ?_
    obtain ⟨z3, ez3, hf⟩ := qn_x hf
    refine qr_ald F G hP rfl (qw_I9 (c := 1) (n := 15) hv9 (by decide)) (by unfold vp_in; decide) (by decide) ez3 dL_isSo_569 ?_
    refine lv_aload_n F.1 F.2.1 dL_isSo_570 rfl (lv_at hl 1 rfl) ?_
    refine lv_bipush (v := (nI 8)) F.1 F.2.1 dL_isSo_571 (by decide) ?_
    obtain ⟨z4, ez4, hf⟩ := qn_x hf
    refine qr_ald F G hP rfl (qw_I9 (c := 1) (n := 15) hv9 (by decide)) (by unfold vp_in; decide) (by decide) ez4 dL_isSo_573 ?_
    obtain ⟨z5, ez5, hf⟩ := qn_x hf
    refine qr_iadd F ez5 dL_isSo_574 ?_
    refine lv_aload_n F.1 F.2.1 dL_isSo_575 rfl (lv_at hl 1 rfl) ?_
    refine lv_bipush (v := (nI 9)) F.1 F.2.1 dL_isSo_576 (by decide) ?_
    obtain ⟨z6, ez6, hf⟩ := qn_x hf
    refine qr_ald F G hP rfl (qw_I9 (c := 1) (n := 15) hv9 (by decide)) (by unfold vp_in; decide) (by decide) ez6 dL_isSo_578 ?_
    obtain ⟨z7, ez7, hf⟩ := qn_x hf
    refine qr_iadd F ez7 dL_isSo_579 ?_
    refine lv_icmp_ne (tgt := 610) F.1 F.2.1 dL_isSo_580 (by decide) (fun c8 => ?_) (fun c8 => ?_)
    · replace hf := qi_f c8 hf
      exact qb_L_isSo_610 F G hv hv9 hQ _ _ _ _ _ _ hf hP hS (lv_sub hl [0, 1, 2, 3, 6] rfl)
    · replace hf := qi_t c8 hf
      refine lv_iload F.1 F.2.1 dL_isSo_583 (lv_at hl 4 rfl) ?_
      refine lv_aload_n F.1 F.2.1 dL_isSo_585 rfl (lv_at hl 1 rfl) ?_
      refine lv_bipush (v := (nI 8)) F.1 F.2.1 dL_isSo_586 (by decide) ?_
      obtain ⟨z9, ez9, hf⟩ := qn_x hf
      refine qr_ald F G hP rfl (qw_I9 (c := 1) (n := 15) hv9 (by decide)) (by unfold vp_in; decide) (by decide) ez9 dL_isSo_588 ?_
      refine lv_aload_n F.1 F.2.1 dL_isSo_589 rfl (lv_at hl 1 rfl) ?_
      refine lv_bipush (v := (nI 9)) F.1 F.2.1 dL_isSo_590 (by decide) ?_
      obtain ⟨z10, ez10, hf⟩ := qn_x hf
      refine qr_ald F G hP rfl (qw_I9 (c := 1) (n := 15) hv9 (by decide)) (by unfold vp_in; decide) (by decide) ez10 dL_isSo_592 ?_
      obtain ⟨z11, ez11, hf⟩ := qn_x hf
      refine qr_iadd F ez11 dL_isSo_593 ?_
      refine lv_icmp_gt (tgt := 610) F.1 F.2.1 dL_isSo_594 (by decide) (fun c12 => ?_) (fun c12 => ?_)
      · replace hf := qi_t c12 hf
        exact qb_L_isSo_610 F G hv hv9 hQ _ _ _ _ _ _ hf hP hS (lv_sub hl [0, 1, 2, 3, 6] rfl)
      · replace hf := qi_f c12 hf
        refine lv_iload F.1 F.2.1 dL_isSo_597 (lv_at hl 4 rfl) ?_
        refine lv_aload_n F.1 F.2.1 dL_isSo_599 rfl (lv_at hl 1 rfl) ?_
        refine lv_bipush (v := (nI 8)) F.1 F.2.1 dL_isSo_600 (by decide) ?_
        obtain ⟨z13, ez13, hf⟩ := qn_x hf
        refine qr_ald F G hP rfl (qw_I9 (c := 1) (n := 15) hv9 (by decide)) (by unfold vp_in; decide) (by decide) ez13 dL_isSo_602 ?_
        refine lv_icmp_lt (tgt := 610) F.1 F.2.1 dL_isSo_603 (by decide) (fun c14 => ?_) (fun c14 => ?_)
        · replace hf := qi_t c14 hf
          exact qb_L_isSo_610 F G hv hv9 hQ _ _ _ _ _ _ hf hP hS (lv_sub hl [0, 1, 2, 3, 6] rfl)
        · replace hf := qi_f c14 hf
          refine lv_iconst (v := (nI 1)) F.1 F.2.1 dL_isSo_606 (by decide) ?_
          refine lv_goto (tgt := 611) F.1 F.2.1 dL_isSo_607 (by decide) ?_
          exact qb_L_isSo_611 F G hv hv9 hQ _ _ _ _ _ _ _ hf hP hS (lv_sub hl [0, 1, 2, 3, 6] rfl)
set_option maxRecDepth 100000 in
set_option maxHeartbeats 4000000 in
theorem qb_L_isSo_508 {p : Program} {l : Launch} {e : Env} {s : State} {mi : MethodId} {args : Array Value} {below : List Frame} {meth : Method} {co : Code} {Q : State → Prop} {L : wL} {r : Int32} {M : wM} {h : (Nat → Nat)} (F : CallFix p mi co cL_isSo 15 s args wsL_isSo RL) (G : qw_G L (qw_A L) s) (hv : qw_R L) (hv9 : qw_9 L) (hQ : qw_RI p l e rm_L_isSo s mi args below meth co cL_isSo .boolean Q L r M h) : ∀ (n : Nat) (x6 : Int32) (x8 : Int32) (x9 : Int32) (x10 : Int32) (x11 : Int32) (x12 : Int32) (H : Heap) (locs : List Loc) (ls : Array Slot), qf_L_isSo_508 n x6 x8 x9 x10 x11 x12 M h = some r → qw_P L M h H → va_S (qw_A L) s.heap H locs → lv_has ls 15 [(0, .ref (qw_ad L 8 0)), (1, .ref (qw_ad L 9 1)), (6, .int x6), (8, .int x8), (9, .int x9), (10, .int x10), (11, .int x11), (12, .int x12)] → W p l e rm_L_isSo s mi args below meth co H locs 0 0 Q (F0 mi 508 ls []) := by
  intro n
  induction n with
  | zero =>
    intro x6 x8 x9 x10 x11 x12 H locs ls hf hP hS hl
    rw [qf_L_isSo_508] at hf
    cases hf
  | succ n ih =>
    intro x6 x8 x9 x10 x11 x12 H locs ls hf hP hS hl
    rw [qf_L_isSo_508] at hf
    refine lv_iload F.1 F.2.1 dL_isSo_508 (lv_at hl 7 rfl) ?_
    refine lv_bipush (v := (nI 15)) F.1 F.2.1 dL_isSo_510 (by decide) ?_
    refine lv_icmp_ge (tgt := 558) F.1 F.2.1 dL_isSo_512 (by decide) (fun c1 => ?_) (fun c1 => ?_)
    · replace hf := qi_t c1 hf
      exact qb_L_isSo_558 F G hv hv9 hQ _ _ _ _ _ _ _ _ hf hP hS (lv_sub hl [0, 1, 2, 3, 4, 5, 6] rfl)
    · replace hf := qi_f c1 hf
      refine lv_iload F.1 F.2.1 dL_isSo_515 (lv_at hl 5 rfl) ?_
      refine lv_if_eq (tgt := 549) F.1 F.2.1 dL_isSo_517 (by decide) (fun c2 => ?_) (fun c2 => ?_)
      · replace hf := qi_t c2 hf
        refine lv_iconst (v := (nI 0)) F.1 F.2.1 dL_isSo_549 (by decide) ?_
        refine lv_istore (lv' := [(10, .int (nI 0)), (0, .ref (qw_ad L 8 0)), (1, .ref (qw_ad L 9 1)), (6, .int x6), (8, .int x8), (9, .int x9), (11, .int x11), (12, .int x12)]) F.1 F.2.1 dL_isSo_550 hl (by decide) rfl (fun ls hl => ?_)
        obtain ⟨z3, ez3, hf⟩ := qn_x hf
        refine lv_iinc (v := z3) (lv' := [(12, .int z3), (10, .int (nI 0)), (0, .ref (qw_ad L 8 0)), (1, .ref (qw_ad L 9 1)), (6, .int x6), (8, .int x8), (9, .int x9), (11, .int x11)]) F.1 F.2.1 dL_isSo_552 hl (k := 7) rfl ((qw_ii1 _).trans ez3.symm) (by decide) rfl (fun ls hl => ?_)
        refine lv_goto (tgt := 508) F.1 F.2.1 dL_isSo_555 (by decide) ?_
        exact ih _ _ _ _ _ _ _ _ _ hf hP hS (lv_sub hl [2, 3, 4, 5, 6, 1, 7, 0] rfl)
      · replace hf := qi_f c2 hf
        refine lv_aload_n F.1 F.2.1 dL_isSo_520 rfl (lv_at hl 0 rfl) ?_
        refine lv_iload F.1 F.2.1 dL_isSo_521 (lv_at hl 7 rfl) ?_
        obtain ⟨r4, k5, hf⟩ := qb1_x hf
        refine qr_cVi F G hP hS (qc_X2_count l G.2.1 hv k5) (qw_rcR hv.1) gL_isSo_X2_count rfl ⟨rfl, rfl⟩ e_X2_count ⟨Nat.le_of_ble_eq_true rfl, Nat.le_of_ble_eq_true rfl⟩ rfl hl.1 rfl (Nat.le_of_ble_eq_true rfl) ⟨Nat.zero_le _, Nat.zero_le _⟩ dL_isSo_523 (fun H locs hP hS => ?_)
        refine lv_iload F.1 F.2.1 dL_isSo_526 (lv_at hl 7 rfl) ?_
        refine lv_bipush (v := (nI 10)) F.1 F.2.1 dL_isSo_528 (by decide) ?_
        refine lv_icmp_ne (tgt := 538) F.1 F.2.1 dL_isSo_530 (by decide) (fun c6 => ?_) (fun c6 => ?_)
        · replace hf := qi_f c6 hf
          refine lv_aload_n F.1 F.2.1 dL_isSo_538 rfl (lv_at hl 1 rfl) ?_
          refine lv_iload F.1 F.2.1 dL_isSo_539 (lv_at hl 7 rfl) ?_
          obtain ⟨g8, hf⟩ := qg_x hf
          obtain ⟨z7, ez7, hf⟩ := qn_x hf
          refine qr_ald F G hP rfl (qw_I9 (c := 1) (n := 15) hv9 (by decide)) g8 rfl ez7 dL_isSo_541 ?_
          refine lv_icmp_ne (tgt := 549) F.1 F.2.1 dL_isSo_542 (by decide) (fun c9 => ?_) (fun c9 => ?_)
          · replace hf := qi_f c9 hf
            refine lv_iconst (v := (nI 0)) F.1 F.2.1 dL_isSo_549 (by decide) ?_
            refine lv_istore (lv' := [(10, .int (nI 0)), (0, .ref (qw_ad L 8 0)), (1, .ref (qw_ad L 9 1)), (6, .int x6), (8, .int x8), (9, .int x9), (11, .int x11), (12, .int x12)]) F.1 F.2.1 dL_isSo_550 hl (by decide) rfl (fun ls hl => ?_)
            obtain ⟨z10, ez10, hf⟩ := qn_x hf
            refine lv_iinc (v := z10) (lv' := [(12, .int z10), (10, .int (nI 0)), (0, .ref (qw_ad L 8 0)), (1, .ref (qw_ad L 9 1)), (6, .int x6), (8, .int x8), (9, .int x9), (11, .int x11)]) F.1 F.2.1 dL_isSo_552 hl (k := 7) rfl ((qw_ii1 _).trans ez10.symm) (by decide) rfl (fun ls hl => ?_)
            refine lv_goto (tgt := 508) F.1 F.2.1 dL_isSo_555 (by decide) ?_
            exact ih _ _ _ _ _ _ _ _ _ hf hP hS (lv_sub hl [2, 3, 4, 5, 6, 1, 7, 0] rfl)
          · replace hf := qi_t c9 hf
            refine lv_iconst (v := (nI 1)) F.1 F.2.1 dL_isSo_545 (by decide) ?_
            refine lv_goto (tgt := 550) F.1 F.2.1 dL_isSo_546 (by decide) ?_
            refine lv_istore (lv' := [(10, .int (nI 1)), (0, .ref (qw_ad L 8 0)), (1, .ref (qw_ad L 9 1)), (6, .int x6), (8, .int x8), (9, .int x9), (11, .int x11), (12, .int x12)]) F.1 F.2.1 dL_isSo_550 hl (by decide) rfl (fun ls hl => ?_)
            obtain ⟨z11, ez11, hf⟩ := qn_x hf
            refine lv_iinc (v := z11) (lv' := [(12, .int z11), (10, .int (nI 1)), (0, .ref (qw_ad L 8 0)), (1, .ref (qw_ad L 9 1)), (6, .int x6), (8, .int x8), (9, .int x9), (11, .int x11)]) F.1 F.2.1 dL_isSo_552 hl (k := 7) rfl ((qw_ii1 _).trans ez11.symm) (by decide) rfl (fun ls hl => ?_)
            refine lv_goto (tgt := 508) F.1 F.2.1 dL_isSo_555 (by decide) ?_
            exact ih _ _ _ _ _ _ _ _ _ hf hP hS (lv_sub hl [2, 3, 4, 5, 6, 1, 7, 0] rfl)
        · replace hf := qi_t c6 hf
          refine lv_iload F.1 F.2.1 dL_isSo_533 (lv_at hl 6 rfl) ?_
          refine lv_goto (tgt := 542) F.1 F.2.1 dL_isSo_535 (by decide) ?_
          refine lv_icmp_ne (tgt := 549) F.1 F.2.1 dL_isSo_542 (by decide) (fun c12 => ?_) (fun c12 => ?_)
          · replace hf := qi_f c12 hf
            refine lv_iconst (v := (nI 0)) F.1 F.2.1 dL_isSo_549 (by decide) ?_
            refine lv_istore (lv' := [(10, .int (nI 0)), (0, .ref (qw_ad L 8 0)), (1, .ref (qw_ad L 9 1)), (6, .int x6), (8, .int x8), (9, .int x9), (11, .int x11), (12, .int x12)]) F.1 F.2.1 dL_isSo_550 hl (by decide) rfl (fun ls hl => ?_)
            obtain ⟨z13, ez13, hf⟩ := qn_x hf
            refine lv_iinc (v := z13) (lv' := [(12, .int z13), (10, .int (nI 0)), (0, .ref (qw_ad L 8 0)), (1, .ref (qw_ad L 9 1)), (6, .int x6), (8, .int x8), (9, .int x9), (11, .int x11)]) F.1 F.2.1 dL_isSo_552 hl (k := 7) rfl ((qw_ii1 _).trans ez13.symm) (by decide) rfl (fun ls hl => ?_)
            refine lv_goto (tgt := 508) F.1 F.2.1 dL_isSo_555 (by decide) ?_
            exact ih _ _ _ _ _ _ _ _ _ hf hP hS (lv_sub hl [2, 3, 4, 5, 6, 1, 7, 0] rfl)
          · replace hf := qi_t c12 hf
            refine lv_iconst (v := (nI 1)) F.1 F.2.1 dL_isSo_545 (by decide) ?_
            refine lv_goto (tgt := 550) F.1 F.2.1 dL_isSo_546 (by decide) ?_
            refine lv_istore (lv' := [(10, .int (nI 1)), (0, .ref (qw_ad L 8 0)), (1, .ref (qw_ad L 9 1)), (6, .int x6), (8, .int x8), (9, .int x9), (11, .int x11), (12, .int x12)]) F.1 F.2.1 dL_isSo_550 hl (by decide) rfl (fun ls hl => ?_)
            obtain ⟨z14, ez14, hf⟩ := qn_x hf
            refine lv_iinc (v := z14) (lv' := [(12, .int z14), (10, .int (nI 1)), (0, .ref (qw_ad L 8 0)), (1, .ref (qw_ad L 9 1)), (6, .int x6), (8, .int x8), (9, .int x9), (11, .int x11)]) F.1 F.2.1 dL_isSo_552 hl (k := 7) rfl ((qw_ii1 _).trans ez14.symm) (by decide) rfl (fun ls hl => ?_)
            refine lv_goto (tgt := 508) F.1 F.2.1 dL_isSo_555 (by decide) ?_
            exact ih _ _ _ _ _ _ _ _ _ hf hP hS (lv_sub hl [2, 3, 4, 5, 6, 1, 7, 0] rfl)
set_option maxRecDepth 100000 in
set_option maxHeartbeats 4000000 in
theorem qb_L_isSo_505 {p : Program} {l : Launch} {e : Env} {s : State} {mi : MethodId} {args : Array Value} {below : List Frame} {meth : Method} {co : Code} {Q : State → Prop} {L : wL} {r : Int32} {M : wM} {h : (Nat → Nat)} (F : CallFix p mi co cL_isSo 15 s args wsL_isSo RL) (G : qw_G L (qw_A L) s) (hv : qw_R L) (hv9 : qw_9 L) (hQ : qw_RI p l e rm_L_isSo s mi args below meth co cL_isSo .boolean Q L r M h) : ∀ (x6 : Int32) (x8 : Int32) (x9 : Int32) (x10 : Int32) (x11 : Int32) (H : Heap) (locs : List Loc) (ls : Array Slot), qf_L_isSo_505 x6 x8 x9 x10 x11 M h = some r → qw_P L M h H → va_S (qw_A L) s.heap H locs → lv_has ls 15 [(0, .ref (qw_ad L 8 0)), (1, .ref (qw_ad L 9 1)), (6, .int x6), (8, .int x8), (9, .int x9), (10, .int x10), (11, .int x11)] → W p l e rm_L_isSo s mi args below meth co H locs 0 0 Q (F0 mi 505 ls []) := by
  intro x6 x8 x9 x10 x11 H locs ls hf hP hS hl
  unfold qf_L_isSo_505 at hf
  refine lv_iconst (v := (nI 0)) F.1 F.2.1 dL_isSo_505 (by decide) ?_
  refine lv_istore (lv' := [(12, .int (nI 0)), (0, .ref (qw_ad L 8 0)), (1, .ref (qw_ad L 9 1)), (6, .int x6), (8, .int x8), (9, .int x9), (10, .int x10), (11, .int x11)]) F.1 F.2.1 dL_isSo_506 hl (by decide) rfl (fun ls hl => ?_)
  exact qb_L_isSo_508 F G hv hv9 hQ _ _ _ _ _ _ _ _ _ _ hf hP hS (lv_sub hl [1, 2, 3, 4, 5, 6, 7, 0] rfl)
set_option maxRecDepth 100000 in
set_option maxHeartbeats 4000000 in
theorem qb_L_isSo_414 {p : Program} {l : Launch} {e : Env} {s : State} {mi : MethodId} {args : Array Value} {below : List Frame} {meth : Method} {co : Code} {Q : State → Prop} {L : wL} {r : Int32} {M : wM} {h : (Nat → Nat)} (F : CallFix p mi co cL_isSo 15 s args wsL_isSo RL) (G : qw_G L (qw_A L) s) (hv : qw_R L) (hv9 : qw_9 L) (hQ : qw_RI p l e rm_L_isSo s mi args below meth co cL_isSo .boolean Q L r M h) : ∀ (n : Nat) (x6 : Int32) (x7 : Int32) (x8 : Int32) (x9 : Int32) (x10 : Int32) (x11 : Int32) (x12 : Int32) (H : Heap) (locs : List Loc) (ls : Array Slot), qf_L_isSo_414 n x6 x7 x8 x9 x10 x11 x12 M h = some r → qw_P L M h H → va_S (qw_A L) s.heap H locs → lv_has ls 15 [(0, .ref (qw_ad L 8 0)), (1, .ref (qw_ad L 9 1)), (5, .ref (qw_ad L 9 6)), (6, .int x6), (7, .int x7), (8, .int x8), (9, .int x9), (10, .int x10), (11, .int x11), (12, .int x12)] → W p l e rm_L_isSo s mi args below meth co H locs 0 0 Q (F0 mi 414 ls []) := by
  intro n
  induction n with
  | zero =>
    intro x6 x7 x8 x9 x10 x11 x12 H locs ls hf hP hS hl
    rw [qf_L_isSo_414] at hf
    cases hf
  | succ n ih =>
    intro x6 x7 x8 x9 x10 x11 x12 H locs ls hf hP hS hl
    rw [qf_L_isSo_414] at hf
    refine lv_iload F.1 F.2.1 dL_isSo_414 (lv_at hl 9 rfl) ?_
    refine lv_aload_n F.1 F.2.1 dL_isSo_416 rfl (lv_at hl 1 rfl) ?_
    refine lv_iconst (v := (nI 2)) F.1 F.2.1 dL_isSo_417 (by decide) ?_
    obtain ⟨z1, ez1, hf⟩ := qn_x hf
    refine qr_ald F G hP rfl (qw_I9 (c := 1) (n := 15) hv9 (by decide)) (by unfold vp_in; decide) (by decide) ez1 dL_isSo_418 ?_
    refine lv_icmp_ge (tgt := 505) F.1 F.2.1 dL_isSo_419 (by decide) (fun c2 => ?_) (fun c2 => ?_)
    · replace hf := qi_t c2 hf
      exact qb_L_isSo_505 F G hv hv9 hQ _ _ _ _ _ _ _ _ hf hP hS (lv_sub hl [0, 1, 3, 5, 6, 7, 8] rfl)
    · replace hf := qi_f c2 hf
      refine lv_iload F.1 F.2.1 dL_isSo_422 (lv_at hl 7 rfl) ?_
      refine lv_if_eq (tgt := 505) F.1 F.2.1 dL_isSo_424 (by decide) (fun c3 => ?_) (fun c3 => ?_)
      · replace hf := qi_t c3 hf
        exact qb_L_isSo_505 F G hv hv9 hQ _ _ _ _ _ _ _ _ hf hP hS (lv_sub hl [0, 1, 3, 5, 6, 7, 8] rfl)
      · replace hf := qi_f c3 hf
        refine lv_aload F.1 F.2.1 dL_isSo_427 (lv_at hl 2 rfl) ?_
        refine lv_iload F.1 F.2.1 dL_isSo_429 (lv_at hl 9 rfl) ?_
        obtain ⟨g5, hf⟩ := qg_x hf
        obtain ⟨z4, ez4, hf⟩ := qn_x hf
        refine qr_ald F G hP rfl (qw_I9 (c := 6) (n := 64) hv9 (by decide)) g5 rfl ez4 dL_isSo_431 ?_
        refine lv_iload F.1 F.2.1 dL_isSo_432 (lv_at hl 4 rfl) ?_
        refine lv_icmp_le (tgt := 442) F.1 F.2.1 dL_isSo_434 (by decide) (fun c6 => ?_) (fun c6 => ?_)
        · replace hf := qi_t c6 hf
          refine lv_iload F.1 F.2.1 dL_isSo_442 (lv_at hl 5 rfl) ?_
          refine lv_istore (lv' := [(8, .int x8), (0, .ref (qw_ad L 8 0)), (1, .ref (qw_ad L 9 1)), (5, .ref (qw_ad L 9 6)), (6, .int x6), (7, .int x7), (9, .int x9), (10, .int x10), (11, .int x11), (12, .int x12)]) F.1 F.2.1 dL_isSo_444 hl (by decide) rfl (fun ls hl => ?_)
          refine lv_aload F.1 F.2.1 dL_isSo_446 (lv_at hl 3 rfl) ?_
          refine lv_iload F.1 F.2.1 dL_isSo_448 (lv_at hl 9 rfl) ?_
          obtain ⟨g8, hf⟩ := qg_x hf
          obtain ⟨z7, ez7, hf⟩ := qn_x hf
          refine qr_ald F G hP rfl (qw_I9 (c := 6) (n := 64) hv9 (by decide)) g8 rfl ez7 dL_isSo_450 ?_
          refine lv_iload F.1 F.2.1 dL_isSo_451 (lv_at hl 5 rfl) ?_
          refine lv_icmp_le (tgt := 464) F.1 F.2.1 dL_isSo_453 (by decide) (fun c9 => ?_) (fun c9 => ?_)
          · replace hf := qi_t c9 hf
            refine lv_iload F.1 F.2.1 dL_isSo_464 (lv_at hl 5 rfl) ?_
            refine lv_istore (lv' := [(7, .int x7), (8, .int x8), (0, .ref (qw_ad L 8 0)), (1, .ref (qw_ad L 9 1)), (5, .ref (qw_ad L 9 6)), (6, .int x6), (9, .int x9), (10, .int x10), (11, .int x11), (12, .int x12)]) F.1 F.2.1 dL_isSo_466 hl (by decide) rfl (fun ls hl => ?_)
            refine lv_iload F.1 F.2.1 dL_isSo_468 (lv_at hl 6 rfl) ?_
            refine lv_aload F.1 F.2.1 dL_isSo_470 (lv_at hl 4 rfl) ?_
            refine lv_iload F.1 F.2.1 dL_isSo_472 (lv_at hl 9 rfl) ?_
            obtain ⟨g11, hf⟩ := qg_x hf
            obtain ⟨z10, ez10, hf⟩ := qn_x hf
            refine qr_ald F G hP rfl (qw_I9 (c := 6) (n := 64) hv9 (by decide)) g11 rfl ez10 dL_isSo_474 ?_
            obtain ⟨z12, ez12, hf⟩ := qn_x hf
            refine qr_iadd F ez12 dL_isSo_475 ?_
            refine lv_istore (lv' := [(9, .int z12), (7, .int x7), (8, .int x8), (0, .ref (qw_ad L 8 0)), (1, .ref (qw_ad L 9 1)), (5, .ref (qw_ad L 9 6)), (6, .int x6), (10, .int x10), (11, .int x11), (12, .int x12)]) F.1 F.2.1 dL_isSo_476 hl (by decide) rfl (fun ls hl => ?_)
            refine lv_aload_n F.1 F.2.1 dL_isSo_478 rfl (lv_at hl 3 rfl) ?_
            refine lv_iload F.1 F.2.1 dL_isSo_479 (lv_at hl 9 rfl) ?_
            obtain ⟨r13, k14, hf⟩ := qb1_x hf
            refine qr_cVi F G hP hS (qc_X2_named l G.2.1 hv k14) (qw_rcR hv.1) gL_isSo_X2_named rfl ⟨rfl, rfl⟩ e_X2_named ⟨Nat.le_of_ble_eq_true rfl, Nat.le_of_ble_eq_true rfl⟩ rfl hl.1 rfl (Nat.le_of_ble_eq_true rfl) ⟨Nat.zero_le _, Nat.zero_le _⟩ dL_isSo_481 (fun H locs hP hS => ?_)
            refine lv_aload F.1 F.2.1 dL_isSo_484 (lv_at hl 5 rfl) ?_
            refine lv_iload F.1 F.2.1 dL_isSo_486 (lv_at hl 9 rfl) ?_
            obtain ⟨g16, hf⟩ := qg_x hf
            obtain ⟨z15, ez15, hf⟩ := qn_x hf
            refine qr_ald F G hP rfl (qw_I9 (c := 6) (n := 64) hv9 (by decide)) g16 rfl ez15 dL_isSo_488 ?_
            refine lv_icmp_ne (tgt := 496) F.1 F.2.1 dL_isSo_489 (by decide) (fun c17 => ?_) (fun c17 => ?_)
            · replace hf := qi_f c17 hf
              refine lv_iconst (v := (nI 0)) F.1 F.2.1 dL_isSo_496 (by decide) ?_
              refine lv_istore (lv' := [(10, .int (nI 0)), (9, .int z12), (7, .int x7), (8, .int x8), (0, .ref (qw_ad L 8 0)), (1, .ref (qw_ad L 9 1)), (5, .ref (qw_ad L 9 6)), (6, .int x6), (11, .int x11), (12, .int x12)]) F.1 F.2.1 dL_isSo_497 hl (by decide) rfl (fun ls hl => ?_)
              obtain ⟨z18, ez18, hf⟩ := qn_x hf
              refine lv_iinc (v := z18) (lv' := [(12, .int z18), (10, .int (nI 0)), (9, .int z12), (7, .int x7), (8, .int x8), (0, .ref (qw_ad L 8 0)), (1, .ref (qw_ad L 9 1)), (5, .ref (qw_ad L 9 6)), (6, .int x6), (11, .int x11)]) F.1 F.2.1 dL_isSo_499 hl (k := 9) rfl ((qw_ii1 _).trans ez18.symm) (by decide) rfl (fun ls hl => ?_)
              refine lv_goto (tgt := 414) F.1 F.2.1 dL_isSo_502 (by decide) ?_
              exact ih _ _ _ _ _ _ _ _ _ _ hf hP hS (lv_sub hl [5, 6, 7, 8, 3, 4, 2, 1, 9, 0] rfl)
            · replace hf := qi_t c17 hf
              refine lv_iconst (v := (nI 1)) F.1 F.2.1 dL_isSo_492 (by decide) ?_
              refine lv_goto (tgt := 497) F.1 F.2.1 dL_isSo_493 (by decide) ?_
              refine lv_istore (lv' := [(10, .int (nI 1)), (9, .int z12), (7, .int x7), (8, .int x8), (0, .ref (qw_ad L 8 0)), (1, .ref (qw_ad L 9 1)), (5, .ref (qw_ad L 9 6)), (6, .int x6), (11, .int x11), (12, .int x12)]) F.1 F.2.1 dL_isSo_497 hl (by decide) rfl (fun ls hl => ?_)
              obtain ⟨z19, ez19, hf⟩ := qn_x hf
              refine lv_iinc (v := z19) (lv' := [(12, .int z19), (10, .int (nI 1)), (9, .int z12), (7, .int x7), (8, .int x8), (0, .ref (qw_ad L 8 0)), (1, .ref (qw_ad L 9 1)), (5, .ref (qw_ad L 9 6)), (6, .int x6), (11, .int x11)]) F.1 F.2.1 dL_isSo_499 hl (k := 9) rfl ((qw_ii1 _).trans ez19.symm) (by decide) rfl (fun ls hl => ?_)
              refine lv_goto (tgt := 414) F.1 F.2.1 dL_isSo_502 (by decide) ?_
              exact ih _ _ _ _ _ _ _ _ _ _ hf hP hS (lv_sub hl [5, 6, 7, 8, 3, 4, 2, 1, 9, 0] rfl)
          · replace hf := qi_f c9 hf
            refine lv_aload F.1 F.2.1 dL_isSo_456 (lv_at hl 3 rfl) ?_
            refine lv_iload F.1 F.2.1 dL_isSo_458 (lv_at hl 9 rfl) ?_
            obtain ⟨g21, hf⟩ := qg_x hf
            obtain ⟨z20, ez20, hf⟩ := qn_x hf
            refine qr_ald F G hP rfl (qw_I9 (c := 6) (n := 64) hv9 (by decide)) g21 rfl ez20 dL_isSo_460 ?_
            refine lv_goto (tgt := 466) F.1 F.2.1 dL_isSo_461 (by decide) ?_
            refine lv_istore (lv' := [(7, .int z20), (8, .int x8), (0, .ref (qw_ad L 8 0)), (1, .ref (qw_ad L 9 1)), (5, .ref (qw_ad L 9 6)), (6, .int x6), (9, .int x9), (10, .int x10), (11, .int x11), (12, .int x12)]) F.1 F.2.1 dL_isSo_466 hl (by decide) rfl (fun ls hl => ?_)
            refine lv_iload F.1 F.2.1 dL_isSo_468 (lv_at hl 6 rfl) ?_
            refine lv_aload F.1 F.2.1 dL_isSo_470 (lv_at hl 4 rfl) ?_
            refine lv_iload F.1 F.2.1 dL_isSo_472 (lv_at hl 9 rfl) ?_
            obtain ⟨g23, hf⟩ := qg_x hf
            obtain ⟨z22, ez22, hf⟩ := qn_x hf
            refine qr_ald F G hP rfl (qw_I9 (c := 6) (n := 64) hv9 (by decide)) g23 rfl ez22 dL_isSo_474 ?_
            obtain ⟨z24, ez24, hf⟩ := qn_x hf
            refine qr_iadd F ez24 dL_isSo_475 ?_
            refine lv_istore (lv' := [(9, .int z24), (7, .int z20), (8, .int x8), (0, .ref (qw_ad L 8 0)), (1, .ref (qw_ad L 9 1)), (5, .ref (qw_ad L 9 6)), (6, .int x6), (10, .int x10), (11, .int x11), (12, .int x12)]) F.1 F.2.1 dL_isSo_476 hl (by decide) rfl (fun ls hl => ?_)
            refine lv_aload_n F.1 F.2.1 dL_isSo_478 rfl (lv_at hl 3 rfl) ?_
            refine lv_iload F.1 F.2.1 dL_isSo_479 (lv_at hl 9 rfl) ?_
            obtain ⟨r25, k26, hf⟩ := qb1_x hf
            refine qr_cVi F G hP hS (qc_X2_named l G.2.1 hv k26) (qw_rcR hv.1) gL_isSo_X2_named rfl ⟨rfl, rfl⟩ e_X2_named ⟨Nat.le_of_ble_eq_true rfl, Nat.le_of_ble_eq_true rfl⟩ rfl hl.1 rfl (Nat.le_of_ble_eq_true rfl) ⟨Nat.zero_le _, Nat.zero_le _⟩ dL_isSo_481 (fun H locs hP hS => ?_)
            refine lv_aload F.1 F.2.1 dL_isSo_484 (lv_at hl 5 rfl) ?_
            refine lv_iload F.1 F.2.1 dL_isSo_486 (lv_at hl 9 rfl) ?_
            obtain ⟨g28, hf⟩ := qg_x hf
            obtain ⟨z27, ez27, hf⟩ := qn_x hf
            refine qr_ald F G hP rfl (qw_I9 (c := 6) (n := 64) hv9 (by decide)) g28 rfl ez27 dL_isSo_488 ?_
            refine lv_icmp_ne (tgt := 496) F.1 F.2.1 dL_isSo_489 (by decide) (fun c29 => ?_) (fun c29 => ?_)
            · replace hf := qi_f c29 hf
              refine lv_iconst (v := (nI 0)) F.1 F.2.1 dL_isSo_496 (by decide) ?_
              refine lv_istore (lv' := [(10, .int (nI 0)), (9, .int z24), (7, .int z20), (8, .int x8), (0, .ref (qw_ad L 8 0)), (1, .ref (qw_ad L 9 1)), (5, .ref (qw_ad L 9 6)), (6, .int x6), (11, .int x11), (12, .int x12)]) F.1 F.2.1 dL_isSo_497 hl (by decide) rfl (fun ls hl => ?_)
              obtain ⟨z30, ez30, hf⟩ := qn_x hf
              refine lv_iinc (v := z30) (lv' := [(12, .int z30), (10, .int (nI 0)), (9, .int z24), (7, .int z20), (8, .int x8), (0, .ref (qw_ad L 8 0)), (1, .ref (qw_ad L 9 1)), (5, .ref (qw_ad L 9 6)), (6, .int x6), (11, .int x11)]) F.1 F.2.1 dL_isSo_499 hl (k := 9) rfl ((qw_ii1 _).trans ez30.symm) (by decide) rfl (fun ls hl => ?_)
              refine lv_goto (tgt := 414) F.1 F.2.1 dL_isSo_502 (by decide) ?_
              exact ih _ _ _ _ _ _ _ _ _ _ hf hP hS (lv_sub hl [5, 6, 7, 8, 3, 4, 2, 1, 9, 0] rfl)
            · replace hf := qi_t c29 hf
              refine lv_iconst (v := (nI 1)) F.1 F.2.1 dL_isSo_492 (by decide) ?_
              refine lv_goto (tgt := 497) F.1 F.2.1 dL_isSo_493 (by decide) ?_
              refine lv_istore (lv' := [(10, .int (nI 1)), (9, .int z24), (7, .int z20), (8, .int x8), (0, .ref (qw_ad L 8 0)), (1, .ref (qw_ad L 9 1)), (5, .ref (qw_ad L 9 6)), (6, .int x6), (11, .int x11), (12, .int x12)]) F.1 F.2.1 dL_isSo_497 hl (by decide) rfl (fun ls hl => ?_)
              obtain ⟨z31, ez31, hf⟩ := qn_x hf
              refine lv_iinc (v := z31) (lv' := [(12, .int z31), (10, .int (nI 1)), (9, .int z24), (7, .int z20), (8, .int x8), (0, .ref (qw_ad L 8 0)), (1, .ref (qw_ad L 9 1)), (5, .ref (qw_ad L 9 6)), (6, .int x6), (11, .int x11)]) F.1 F.2.1 dL_isSo_499 hl (k := 9) rfl ((qw_ii1 _).trans ez31.symm) (by decide) rfl (fun ls hl => ?_)
              refine lv_goto (tgt := 414) F.1 F.2.1 dL_isSo_502 (by decide) ?_
              exact ih _ _ _ _ _ _ _ _ _ _ hf hP hS (lv_sub hl [5, 6, 7, 8, 3, 4, 2, 1, 9, 0] rfl)
        · replace hf := qi_f c6 hf
          refine lv_iload F.1 F.2.1 dL_isSo_437 (lv_at hl 9 rfl) ?_
          refine lv_goto (tgt := 444) F.1 F.2.1 dL_isSo_439 (by decide) ?_
          refine lv_istore (lv' := [(8, .int x12), (0, .ref (qw_ad L 8 0)), (1, .ref (qw_ad L 9 1)), (5, .ref (qw_ad L 9 6)), (6, .int x6), (7, .int x7), (9, .int x9), (10, .int x10), (11, .int x11), (12, .int x12)]) F.1 F.2.1 dL_isSo_444 hl (by decide) rfl (fun ls hl => ?_)
          refine lv_aload F.1 F.2.1 dL_isSo_446 (lv_at hl 3 rfl) ?_
          refine lv_iload F.1 F.2.1 dL_isSo_448 (lv_at hl 9 rfl) ?_
          obtain ⟨g33, hf⟩ := qg_x hf
          obtain ⟨z32, ez32, hf⟩ := qn_x hf
          refine qr_ald F G hP rfl (qw_I9 (c := 6) (n := 64) hv9 (by decide)) g33 rfl ez32 dL_isSo_450 ?_
          refine lv_iload F.1 F.2.1 dL_isSo_451 (lv_at hl 5 rfl) ?_
          refine lv_icmp_le (tgt := 464) F.1 F.2.1 dL_isSo_453 (by decide) (fun c34 => ?_) (fun c34 => ?_)
          · replace hf := qi_t c34 hf
            refine lv_iload F.1 F.2.1 dL_isSo_464 (lv_at hl 5 rfl) ?_
            refine lv_istore (lv' := [(7, .int x7), (8, .int x12), (0, .ref (qw_ad L 8 0)), (1, .ref (qw_ad L 9 1)), (5, .ref (qw_ad L 9 6)), (6, .int x6), (9, .int x9), (10, .int x10), (11, .int x11), (12, .int x12)]) F.1 F.2.1 dL_isSo_466 hl (by decide) rfl (fun ls hl => ?_)
            refine lv_iload F.1 F.2.1 dL_isSo_468 (lv_at hl 6 rfl) ?_
            refine lv_aload F.1 F.2.1 dL_isSo_470 (lv_at hl 4 rfl) ?_
            refine lv_iload F.1 F.2.1 dL_isSo_472 (lv_at hl 9 rfl) ?_
            obtain ⟨g36, hf⟩ := qg_x hf
            obtain ⟨z35, ez35, hf⟩ := qn_x hf
            refine qr_ald F G hP rfl (qw_I9 (c := 6) (n := 64) hv9 (by decide)) g36 rfl ez35 dL_isSo_474 ?_
            obtain ⟨z37, ez37, hf⟩ := qn_x hf
            refine qr_iadd F ez37 dL_isSo_475 ?_
            refine lv_istore (lv' := [(9, .int z37), (7, .int x7), (8, .int x12), (0, .ref (qw_ad L 8 0)), (1, .ref (qw_ad L 9 1)), (5, .ref (qw_ad L 9 6)), (6, .int x6), (10, .int x10), (11, .int x11), (12, .int x12)]) F.1 F.2.1 dL_isSo_476 hl (by decide) rfl (fun ls hl => ?_)
            refine lv_aload_n F.1 F.2.1 dL_isSo_478 rfl (lv_at hl 3 rfl) ?_
            refine lv_iload F.1 F.2.1 dL_isSo_479 (lv_at hl 9 rfl) ?_
            obtain ⟨r38, k39, hf⟩ := qb1_x hf
            refine qr_cVi F G hP hS (qc_X2_named l G.2.1 hv k39) (qw_rcR hv.1) gL_isSo_X2_named rfl ⟨rfl, rfl⟩ e_X2_named ⟨Nat.le_of_ble_eq_true rfl, Nat.le_of_ble_eq_true rfl⟩ rfl hl.1 rfl (Nat.le_of_ble_eq_true rfl) ⟨Nat.zero_le _, Nat.zero_le _⟩ dL_isSo_481 (fun H locs hP hS => ?_)
            refine lv_aload F.1 F.2.1 dL_isSo_484 (lv_at hl 5 rfl) ?_
            refine lv_iload F.1 F.2.1 dL_isSo_486 (lv_at hl 9 rfl) ?_
            obtain ⟨g41, hf⟩ := qg_x hf
            obtain ⟨z40, ez40, hf⟩ := qn_x hf
            refine qr_ald F G hP rfl (qw_I9 (c := 6) (n := 64) hv9 (by decide)) g41 rfl ez40 dL_isSo_488 ?_
            refine lv_icmp_ne (tgt := 496) F.1 F.2.1 dL_isSo_489 (by decide) (fun c42 => ?_) (fun c42 => ?_)
            · replace hf := qi_f c42 hf
              refine lv_iconst (v := (nI 0)) F.1 F.2.1 dL_isSo_496 (by decide) ?_
              refine lv_istore (lv' := [(10, .int (nI 0)), (9, .int z37), (7, .int x7), (8, .int x12), (0, .ref (qw_ad L 8 0)), (1, .ref (qw_ad L 9 1)), (5, .ref (qw_ad L 9 6)), (6, .int x6), (11, .int x11), (12, .int x12)]) F.1 F.2.1 dL_isSo_497 hl (by decide) rfl (fun ls hl => ?_)
              obtain ⟨z43, ez43, hf⟩ := qn_x hf
              refine lv_iinc (v := z43) (lv' := [(12, .int z43), (10, .int (nI 0)), (9, .int z37), (7, .int x7), (8, .int x12), (0, .ref (qw_ad L 8 0)), (1, .ref (qw_ad L 9 1)), (5, .ref (qw_ad L 9 6)), (6, .int x6), (11, .int x11)]) F.1 F.2.1 dL_isSo_499 hl (k := 9) rfl ((qw_ii1 _).trans ez43.symm) (by decide) rfl (fun ls hl => ?_)
              refine lv_goto (tgt := 414) F.1 F.2.1 dL_isSo_502 (by decide) ?_
              exact ih _ _ _ _ _ _ _ _ _ _ hf hP hS (lv_sub hl [5, 6, 7, 8, 3, 4, 2, 1, 9, 0] rfl)
            · replace hf := qi_t c42 hf
              refine lv_iconst (v := (nI 1)) F.1 F.2.1 dL_isSo_492 (by decide) ?_
              refine lv_goto (tgt := 497) F.1 F.2.1 dL_isSo_493 (by decide) ?_
              refine lv_istore (lv' := [(10, .int (nI 1)), (9, .int z37), (7, .int x7), (8, .int x12), (0, .ref (qw_ad L 8 0)), (1, .ref (qw_ad L 9 1)), (5, .ref (qw_ad L 9 6)), (6, .int x6), (11, .int x11), (12, .int x12)]) F.1 F.2.1 dL_isSo_497 hl (by decide) rfl (fun ls hl => ?_)
              obtain ⟨z44, ez44, hf⟩ := qn_x hf
              refine lv_iinc (v := z44) (lv' := [(12, .int z44), (10, .int (nI 1)), (9, .int z37), (7, .int x7), (8, .int x12), (0, .ref (qw_ad L 8 0)), (1, .ref (qw_ad L 9 1)), (5, .ref (qw_ad L 9 6)), (6, .int x6), (11, .int x11)]) F.1 F.2.1 dL_isSo_499 hl (k := 9) rfl ((qw_ii1 _).trans ez44.symm) (by decide) rfl (fun ls hl => ?_)
              refine lv_goto (tgt := 414) F.1 F.2.1 dL_isSo_502 (by decide) ?_
              exact ih _ _ _ _ _ _ _ _ _ _ hf hP hS (lv_sub hl [5, 6, 7, 8, 3, 4, 2, 1, 9, 0] rfl)
          · replace hf := qi_f c34 hf
            refine lv_aload F.1 F.2.1 dL_isSo_456 (lv_at hl 3 rfl) ?_
            refine lv_iload F.1 F.2.1 dL_isSo_458 (lv_at hl 9 rfl) ?_
            obtain ⟨g46, hf⟩ := qg_x hf
            obtain ⟨z45, ez45, hf⟩ := qn_x hf
            refine qr_ald F G hP rfl (qw_I9 (c := 6) (n := 64) hv9 (by decide)) g46 rfl ez45 dL_isSo_460 ?_
            refine lv_goto (tgt := 466) F.1 F.2.1 dL_isSo_461 (by decide) ?_
            refine lv_istore (lv' := [(7, .int z45), (8, .int x12), (0, .ref (qw_ad L 8 0)), (1, .ref (qw_ad L 9 1)), (5, .ref (qw_ad L 9 6)), (6, .int x6), (9, .int x9), (10, .int x10), (11, .int x11), (12, .int x12)]) F.1 F.2.1 dL_isSo_466 hl (by decide) rfl (fun ls hl => ?_)
            refine lv_iload F.1 F.2.1 dL_isSo_468 (lv_at hl 6 rfl) ?_
            refine lv_aload F.1 F.2.1 dL_isSo_470 (lv_at hl 4 rfl) ?_
            refine lv_iload F.1 F.2.1 dL_isSo_472 (lv_at hl 9 rfl) ?_
            obtain ⟨g48, hf⟩ := qg_x hf
            obtain ⟨z47, ez47, hf⟩ := qn_x hf
            refine qr_ald F G hP rfl (qw_I9 (c := 6) (n := 64) hv9 (by decide)) g48 rfl ez47 dL_isSo_474 ?_
            obtain ⟨z49, ez49, hf⟩ := qn_x hf
            refine qr_iadd F ez49 dL_isSo_475 ?_
            refine lv_istore (lv' := [(9, .int z49), (7, .int z45), (8, .int x12), (0, .ref (qw_ad L 8 0)), (1, .ref (qw_ad L 9 1)), (5, .ref (qw_ad L 9 6)), (6, .int x6), (10, .int x10), (11, .int x11), (12, .int x12)]) F.1 F.2.1 dL_isSo_476 hl (by decide) rfl (fun ls hl => ?_)
            refine lv_aload_n F.1 F.2.1 dL_isSo_478 rfl (lv_at hl 3 rfl) ?_
            refine lv_iload F.1 F.2.1 dL_isSo_479 (lv_at hl 9 rfl) ?_
            obtain ⟨r50, k51, hf⟩ := qb1_x hf
            refine qr_cVi F G hP hS (qc_X2_named l G.2.1 hv k51) (qw_rcR hv.1) gL_isSo_X2_named rfl ⟨rfl, rfl⟩ e_X2_named ⟨Nat.le_of_ble_eq_true rfl, Nat.le_of_ble_eq_true rfl⟩ rfl hl.1 rfl (Nat.le_of_ble_eq_true rfl) ⟨Nat.zero_le _, Nat.zero_le _⟩ dL_isSo_481 (fun H locs hP hS => ?_)
            refine lv_aload F.1 F.2.1 dL_isSo_484 (lv_at hl 5 rfl) ?_
            refine lv_iload F.1 F.2.1 dL_isSo_486 (lv_at hl 9 rfl) ?_
            obtain ⟨g53, hf⟩ := qg_x hf
            obtain ⟨z52, ez52, hf⟩ := qn_x hf
            refine qr_ald F G hP rfl (qw_I9 (c := 6) (n := 64) hv9 (by decide)) g53 rfl ez52 dL_isSo_488 ?_
            refine lv_icmp_ne (tgt := 496) F.1 F.2.1 dL_isSo_489 (by decide) (fun c54 => ?_) (fun c54 => ?_)
            · replace hf := qi_f c54 hf
              refine lv_iconst (v := (nI 0)) F.1 F.2.1 dL_isSo_496 (by decide) ?_
              refine lv_istore (lv' := [(10, .int (nI 0)), (9, .int z49), (7, .int z45), (8, .int x12), (0, .ref (qw_ad L 8 0)), (1, .ref (qw_ad L 9 1)), (5, .ref (qw_ad L 9 6)), (6, .int x6), (11, .int x11), (12, .int x12)]) F.1 F.2.1 dL_isSo_497 hl (by decide) rfl (fun ls hl => ?_)
              obtain ⟨z55, ez55, hf⟩ := qn_x hf
              refine lv_iinc (v := z55) (lv' := [(12, .int z55), (10, .int (nI 0)), (9, .int z49), (7, .int z45), (8, .int x12), (0, .ref (qw_ad L 8 0)), (1, .ref (qw_ad L 9 1)), (5, .ref (qw_ad L 9 6)), (6, .int x6), (11, .int x11)]) F.1 F.2.1 dL_isSo_499 hl (k := 9) rfl ((qw_ii1 _).trans ez55.symm) (by decide) rfl (fun ls hl => ?_)
              refine lv_goto (tgt := 414) F.1 F.2.1 dL_isSo_502 (by decide) ?_
              exact ih _ _ _ _ _ _ _ _ _ _ hf hP hS (lv_sub hl [5, 6, 7, 8, 3, 4, 2, 1, 9, 0] rfl)
            · replace hf := qi_t c54 hf
              refine lv_iconst (v := (nI 1)) F.1 F.2.1 dL_isSo_492 (by decide) ?_
              refine lv_goto (tgt := 497) F.1 F.2.1 dL_isSo_493 (by decide) ?_
              refine lv_istore (lv' := [(10, .int (nI 1)), (9, .int z49), (7, .int z45), (8, .int x12), (0, .ref (qw_ad L 8 0)), (1, .ref (qw_ad L 9 1)), (5, .ref (qw_ad L 9 6)), (6, .int x6), (11, .int x11), (12, .int x12)]) F.1 F.2.1 dL_isSo_497 hl (by decide) rfl (fun ls hl => ?_)
              obtain ⟨z56, ez56, hf⟩ := qn_x hf
              refine lv_iinc (v := z56) (lv' := [(12, .int z56), (10, .int (nI 1)), (9, .int z49), (7, .int z45), (8, .int x12), (0, .ref (qw_ad L 8 0)), (1, .ref (qw_ad L 9 1)), (5, .ref (qw_ad L 9 6)), (6, .int x6), (11, .int x11)]) F.1 F.2.1 dL_isSo_499 hl (k := 9) rfl ((qw_ii1 _).trans ez56.symm) (by decide) rfl (fun ls hl => ?_)
              refine lv_goto (tgt := 414) F.1 F.2.1 dL_isSo_502 (by decide) ?_
              exact ih _ _ _ _ _ _ _ _ _ _ hf hP hS (lv_sub hl [5, 6, 7, 8, 3, 4, 2, 1, 9, 0] rfl)
set_option maxRecDepth 100000 in
set_option maxHeartbeats 4000000 in
theorem qb_L_isSo_411 {p : Program} {l : Launch} {e : Env} {s : State} {mi : MethodId} {args : Array Value} {below : List Frame} {meth : Method} {co : Code} {Q : State → Prop} {L : wL} {r : Int32} {M : wM} {h : (Nat → Nat)} (F : CallFix p mi co cL_isSo 15 s args wsL_isSo RL) (G : qw_G L (qw_A L) s) (hv : qw_R L) (hv9 : qw_9 L) (hQ : qw_RI p l e rm_L_isSo s mi args below meth co cL_isSo .boolean Q L r M h) : ∀ (x6 : Int32) (x7 : Int32) (x8 : Int32) (x9 : Int32) (x10 : Int32) (x11 : Int32) (H : Heap) (locs : List Loc) (ls : Array Slot), qf_L_isSo_411 x6 x7 x8 x9 x10 x11 M h = some r → qw_P L M h H → va_S (qw_A L) s.heap H locs → lv_has ls 15 [(0, .ref (qw_ad L 8 0)), (1, .ref (qw_ad L 9 1)), (5, .ref (qw_ad L 9 6)), (6, .int x6), (7, .int x7), (8, .int x8), (9, .int x9), (10, .int x10), (11, .int x11)] → W p l e rm_L_isSo s mi args below meth co H locs 0 0 Q (F0 mi 411 ls []) := by
  intro x6 x7 x8 x9 x10 x11 H locs ls hf hP hS hl
  unfold qf_L_isSo_411 at hf
  refine lv_iconst (v := (nI 0)) F.1 F.2.1 dL_isSo_411 (by decide) ?_
  refine lv_istore (lv' := [(12, .int (nI 0)), (0, .ref (qw_ad L 8 0)), (1, .ref (qw_ad L 9 1)), (5, .ref (qw_ad L 9 6)), (6, .int x6), (7, .int x7), (8, .int x8), (9, .int x9), (10, .int x10), (11, .int x11)]) F.1 F.2.1 dL_isSo_412 hl (by decide) rfl (fun ls hl => ?_)
  exact qb_L_isSo_414 F G hv hv9 hQ _ _ _ _ _ _ _ _ _ _ _ hf hP hS (lv_sub hl [1, 2, 3, 4, 5, 6, 7, 8, 9, 0] rfl)
set_option maxRecDepth 100000 in
set_option maxHeartbeats 4000000 in
theorem qb_L_isSo_246 {p : Program} {l : Launch} {e : Env} {s : State} {mi : MethodId} {args : Array Value} {below : List Frame} {meth : Method} {co : Code} {Q : State → Prop} {L : wL} {r : Int32} {M : wM} {h : (Nat → Nat)} (F : CallFix p mi co cL_isSo 15 s args wsL_isSo RL) (G : qw_G L (qw_A L) s) (hv : qw_R L) (hv9 : qw_9 L) (hQ : qw_RI p l e rm_L_isSo s mi args below meth co cL_isSo .boolean Q L r M h) : ∀ (n : Nat) (x6 : Int32) (x7 : Int32) (x8 : Int32) (x9 : Int32) (x10 : Int32) (x11 : Int32) (x12 : Int32) (H : Heap) (locs : List Loc) (ls : Array Slot), qf_L_isSo_246 n x6 x7 x8 x9 x10 x11 x12 M h = some r → qw_P L M h H → va_S (qw_A L) s.heap H locs → lv_has ls 15 [(0, .ref (qw_ad L 8 0)), (1, .ref (qw_ad L 9 1)), (4, .ref (qw_ad L 9 5)), (5, .ref (qw_ad L 9 6)), (6, .int x6), (7, .int x7), (8, .int x8), (9, .int x9), (10, .int x10), (11, .int x11), (12, .int x12)] → W p l e rm_L_isSo s mi args below meth co H locs 0 0 Q (F0 mi 246 ls []) := by
  intro n
  induction n with
  | zero =>
    intro x6 x7 x8 x9 x10 x11 x12 H locs ls hf hP hS hl
    rw [qf_L_isSo_246] at hf
    cases hf
  | succ n ih =>
    intro x6 x7 x8 x9 x10 x11 x12 H locs ls hf hP hS hl
    rw [qf_L_isSo_246] at hf
    refine lv_iload F.1 F.2.1 dL_isSo_246 (lv_at hl 10 rfl) ?_
    refine lv_iload F.1 F.2.1 dL_isSo_248 (lv_at hl 9 rfl) ?_
    refine lv_icmp_ge (tgt := 411) F.1 F.2.1 dL_isSo_250 (by decide) (fun c1 => ?_) (fun c1 => ?_)
    · replace hf := qi_t c1 hf
      exact qb_L_isSo_411 F G hv hv9 hQ _ _ _ _ _ _ _ _ _ hf hP hS (lv_sub hl [0, 1, 3, 4, 5, 6, 7, 8, 9] rfl)
    · replace hf := qi_f c1 hf
      refine lv_iload F.1 F.2.1 dL_isSo_253 (lv_at hl 8 rfl) ?_
      refine lv_if_eq (tgt := 411) F.1 F.2.1 dL_isSo_255 (by decide) (fun c2 => ?_) (fun c2 => ?_)
      · replace hf := qi_t c2 hf
        exact qb_L_isSo_411 F G hv hv9 hQ _ _ _ _ _ _ _ _ _ hf hP hS (lv_sub hl [0, 1, 3, 4, 5, 6, 7, 8, 9] rfl)
      · replace hf := qi_f c2 hf
        refine lv_aload F.1 F.2.1 dL_isSo_258 (lv_at hl 2 rfl) ?_
        refine lv_aload_n F.1 F.2.1 dL_isSo_260 rfl (lv_at hl 1 rfl) ?_
        refine lv_bipush (v := (nI 10)) F.1 F.2.1 dL_isSo_261 (by decide) ?_
        obtain ⟨z3, ez3, hf⟩ := qn_x hf
        refine qr_ald F G hP rfl (qw_I9 (c := 1) (n := 15) hv9 (by decide)) (by unfold vp_in; decide) (by decide) ez3 dL_isSo_263 ?_
        refine lv_iconst (v := (nI 1)) F.1 F.2.1 dL_isSo_264 (by decide) ?_
        obtain ⟨z4, ez4, hf⟩ := qn_x hf
        refine qr_isub F ez4 dL_isSo_265 ?_
        refine lv_iload F.1 F.2.1 dL_isSo_266 (lv_at hl 10 rfl) ?_
        obtain ⟨z5, ez5, hf⟩ := qn_x hf
        refine qr_isub F ez5 dL_isSo_268 ?_
        obtain ⟨g7, hf⟩ := qg_x hf
        obtain ⟨z6, ez6, hf⟩ := qn_x hf
        refine qr_ldL F G hP rfl (qw_IL9 (c := 5) (n := 64) hv9 (by decide)) g7 rfl ez6 dL_isSo_269 ?_
        refine lv_lstore (lv' := [(13, .long z6), (0, .ref (qw_ad L 8 0)), (1, .ref (qw_ad L 9 1)), (4, .ref (qw_ad L 9 5)), (5, .ref (qw_ad L 9 6)), (6, .int x6), (7, .int x7), (8, .int x8), (9, .int x9), (10, .int x10), (11, .int x11), (12, .int x12)]) F.1 F.2.1 dL_isSo_270 hl (by decide) rfl (fun ls hl => ?_)
        refine lv_aload_n F.1 F.2.1 dL_isSo_272 rfl (lv_at hl 1 rfl) ?_
        refine lv_iload F.1 F.2.1 dL_isSo_273 (lv_at hl 11 rfl) ?_
        refine lv_iconst (v := (nI 0)) F.1 F.2.1 dL_isSo_275 (by decide) ?_
        obtain ⟨r8, k9, hf⟩ := qb1_x hf
        refine qr_cVi F G hP hS (qc_X2_confession l G.2.1 hv k9) (qw_rcR hv.1) gL_isSo_X2_confession rfl ⟨rfl, rfl⟩ e_X2_confession ⟨Nat.le_of_ble_eq_true rfl, Nat.le_of_ble_eq_true rfl⟩ rfl hl.1 rfl (Nat.le_of_ble_eq_true rfl) ⟨Nat.zero_le _, Nat.zero_le _⟩ dL_isSo_276 (fun H locs hP hS => ?_)
        obtain ⟨z10, ez10, hf⟩ := qn_x hf
        refine qr_i2l F ez10 dL_isSo_279 ?_
        refine lv_lload F.1 F.2.1 dL_isSo_280 (lv_at hl 0 rfl) ?_
        refine qr_ldc2 F (v := (3 : Int64)) (List.mem_of_getElem? (i := 4) rfl) dL_isSo_282 ?_
        obtain ⟨z11, ez11, hf⟩ := qn_x hf
        refine qr_land F ez11 dL_isSo_285 ?_
        obtain ⟨z12, ez12, hf⟩ := qn_x hf
        refine qr_lcmp F ez12 dL_isSo_286 ?_
        refine lv_if_ne (tgt := 402) F.1 F.2.1 dL_isSo_287 (by decide) (fun c13 => ?_) (fun c13 => ?_)
        · replace hf := qi_f c13 hf
          refine lv_iconst (v := (nI 0)) F.1 F.2.1 dL_isSo_402 (by decide) ?_
          refine lv_istore (lv' := [(10, .int (nI 0)), (13, .long z6), (0, .ref (qw_ad L 8 0)), (1, .ref (qw_ad L 9 1)), (4, .ref (qw_ad L 9 5)), (5, .ref (qw_ad L 9 6)), (6, .int x6), (7, .int x7), (8, .int x8), (9, .int x9), (11, .int x11), (12, .int x12)]) F.1 F.2.1 dL_isSo_403 hl (by decide) rfl (fun ls hl => ?_)
          obtain ⟨z14, ez14, hf⟩ := qn_x hf
          refine lv_iinc (v := z14) (lv' := [(12, .int z14), (10, .int (nI 0)), (13, .long z6), (0, .ref (qw_ad L 8 0)), (1, .ref (qw_ad L 9 1)), (4, .ref (qw_ad L 9 5)), (5, .ref (qw_ad L 9 6)), (6, .int x6), (7, .int x7), (8, .int x8), (9, .int x9), (11, .int x11)]) F.1 F.2.1 dL_isSo_405 hl (k := 11) rfl ((qw_ii1 _).trans ez14.symm) (by decide) rfl (fun ls hl => ?_)
          refine lv_goto (tgt := 246) F.1 F.2.1 dL_isSo_408 (by decide) ?_
          exact ih _ _ _ _ _ _ _ _ _ _ hf hP hS (lv_sub hl [3, 4, 5, 6, 7, 8, 9, 10, 1, 11, 0] rfl)
        · replace hf := qi_t c13 hf
          refine lv_aload_n F.1 F.2.1 dL_isSo_290 rfl (lv_at hl 1 rfl) ?_
          refine lv_iload F.1 F.2.1 dL_isSo_291 (lv_at hl 11 rfl) ?_
          refine lv_iconst (v := (nI 1)) F.1 F.2.1 dL_isSo_293 (by decide) ?_
          obtain ⟨r15, k16, hf⟩ := qb1_x hf
          refine qr_cVi F G hP hS (qc_X2_confession l G.2.1 hv k16) (qw_rcR hv.1) gL_isSo_X2_confession rfl ⟨rfl, rfl⟩ e_X2_confession ⟨Nat.le_of_ble_eq_true rfl, Nat.le_of_ble_eq_true rfl⟩ rfl hl.1 rfl (Nat.le_of_ble_eq_true rfl) ⟨Nat.zero_le _, Nat.zero_le _⟩ dL_isSo_294 (fun H locs hP hS => ?_)
          obtain ⟨z17, ez17, hf⟩ := qn_x hf
          refine qr_i2l F ez17 dL_isSo_297 ?_
          refine lv_lload F.1 F.2.1 dL_isSo_298 (lv_at hl 0 rfl) ?_
          refine lv_iconst (v := (nI 2)) F.1 F.2.1 dL_isSo_300 (by decide) ?_
          obtain ⟨z18, ez18, hf⟩ := qn_x hf
          refine qr_lshr F ez18 dL_isSo_301 ?_
          refine qr_ldc2 F (v := (255 : Int64)) (List.mem_of_getElem? (i := 1) rfl) dL_isSo_302 ?_
          obtain ⟨z19, ez19, hf⟩ := qn_x hf
          refine qr_land F ez19 dL_isSo_305 ?_
          refine qr_ldc2 F (v := (9 : Int64)) (List.mem_of_getElem? (i := 5) rfl) dL_isSo_306 ?_
          obtain ⟨z20, ez20, hf⟩ := qn_x hf
          refine qr_lsub F ez20 dL_isSo_309 ?_
          obtain ⟨z21, ez21, hf⟩ := qn_x hf
          refine qr_lcmp F ez21 dL_isSo_310 ?_
          refine lv_if_ne (tgt := 402) F.1 F.2.1 dL_isSo_311 (by decide) (fun c22 => ?_) (fun c22 => ?_)
          · replace hf := qi_f c22 hf
            refine lv_iconst (v := (nI 0)) F.1 F.2.1 dL_isSo_402 (by decide) ?_
            refine lv_istore (lv' := [(10, .int (nI 0)), (13, .long z6), (0, .ref (qw_ad L 8 0)), (1, .ref (qw_ad L 9 1)), (4, .ref (qw_ad L 9 5)), (5, .ref (qw_ad L 9 6)), (6, .int x6), (7, .int x7), (8, .int x8), (9, .int x9), (11, .int x11), (12, .int x12)]) F.1 F.2.1 dL_isSo_403 hl (by decide) rfl (fun ls hl => ?_)
            obtain ⟨z23, ez23, hf⟩ := qn_x hf
            refine lv_iinc (v := z23) (lv' := [(12, .int z23), (10, .int (nI 0)), (13, .long z6), (0, .ref (qw_ad L 8 0)), (1, .ref (qw_ad L 9 1)), (4, .ref (qw_ad L 9 5)), (5, .ref (qw_ad L 9 6)), (6, .int x6), (7, .int x7), (8, .int x8), (9, .int x9), (11, .int x11)]) F.1 F.2.1 dL_isSo_405 hl (k := 11) rfl ((qw_ii1 _).trans ez23.symm) (by decide) rfl (fun ls hl => ?_)
            refine lv_goto (tgt := 246) F.1 F.2.1 dL_isSo_408 (by decide) ?_
            exact ih _ _ _ _ _ _ _ _ _ _ hf hP hS (lv_sub hl [3, 4, 5, 6, 7, 8, 9, 10, 1, 11, 0] rfl)
          · replace hf := qi_t c22 hf
            refine lv_aload_n F.1 F.2.1 dL_isSo_314 rfl (lv_at hl 1 rfl) ?_
            refine lv_iload F.1 F.2.1 dL_isSo_315 (lv_at hl 11 rfl) ?_
            refine lv_iconst (v := (nI 2)) F.1 F.2.1 dL_isSo_317 (by decide) ?_
            obtain ⟨r24, k25, hf⟩ := qb1_x hf
            refine qr_cVi F G hP hS (qc_X2_confession l G.2.1 hv k25) (qw_rcR hv.1) gL_isSo_X2_confession rfl ⟨rfl, rfl⟩ e_X2_confession ⟨Nat.le_of_ble_eq_true rfl, Nat.le_of_ble_eq_true rfl⟩ rfl hl.1 rfl (Nat.le_of_ble_eq_true rfl) ⟨Nat.zero_le _, Nat.zero_le _⟩ dL_isSo_318 (fun H locs hP hS => ?_)
            obtain ⟨z26, ez26, hf⟩ := qn_x hf
            refine qr_i2l F ez26 dL_isSo_321 ?_
            refine lv_lload F.1 F.2.1 dL_isSo_322 (lv_at hl 0 rfl) ?_
            refine lv_bipush (v := (nI 10)) F.1 F.2.1 dL_isSo_324 (by decide) ?_
            obtain ⟨z27, ez27, hf⟩ := qn_x hf
            refine qr_lshr F ez27 dL_isSo_326 ?_
            refine qr_ldc2 F (v := (255 : Int64)) (List.mem_of_getElem? (i := 1) rfl) dL_isSo_327 ?_
            obtain ⟨z28, ez28, hf⟩ := qn_x hf
            refine qr_land F ez28 dL_isSo_330 ?_
            obtain ⟨z29, ez29, hf⟩ := qn_x hf
            refine qr_lcmp F ez29 dL_isSo_331 ?_
            refine lv_if_ne (tgt := 402) F.1 F.2.1 dL_isSo_332 (by decide) (fun c30 => ?_) (fun c30 => ?_)
            · replace hf := qi_f c30 hf
              refine lv_iconst (v := (nI 0)) F.1 F.2.1 dL_isSo_402 (by decide) ?_
              refine lv_istore (lv' := [(10, .int (nI 0)), (13, .long z6), (0, .ref (qw_ad L 8 0)), (1, .ref (qw_ad L 9 1)), (4, .ref (qw_ad L 9 5)), (5, .ref (qw_ad L 9 6)), (6, .int x6), (7, .int x7), (8, .int x8), (9, .int x9), (11, .int x11), (12, .int x12)]) F.1 F.2.1 dL_isSo_403 hl (by decide) rfl (fun ls hl => ?_)
              obtain ⟨z31, ez31, hf⟩ := qn_x hf
              refine lv_iinc (v := z31) (lv' := [(12, .int z31), (10, .int (nI 0)), (13, .long z6), (0, .ref (qw_ad L 8 0)), (1, .ref (qw_ad L 9 1)), (4, .ref (qw_ad L 9 5)), (5, .ref (qw_ad L 9 6)), (6, .int x6), (7, .int x7), (8, .int x8), (9, .int x9), (11, .int x11)]) F.1 F.2.1 dL_isSo_405 hl (k := 11) rfl ((qw_ii1 _).trans ez31.symm) (by decide) rfl (fun ls hl => ?_)
              refine lv_goto (tgt := 246) F.1 F.2.1 dL_isSo_408 (by decide) ?_
              exact ih _ _ _ _ _ _ _ _ _ _ hf hP hS (lv_sub hl [3, 4, 5, 6, 7, 8, 9, 10, 1, 11, 0] rfl)
            · replace hf := qi_t c30 hf
              refine lv_aload_n F.1 F.2.1 dL_isSo_335 rfl (lv_at hl 1 rfl) ?_
              refine lv_iload F.1 F.2.1 dL_isSo_336 (lv_at hl 11 rfl) ?_
              refine lv_iconst (v := (nI 3)) F.1 F.2.1 dL_isSo_338 (by decide) ?_
              obtain ⟨r32, k33, hf⟩ := qb1_x hf
              refine qr_cVi F G hP hS (qc_X2_confession l G.2.1 hv k33) (qw_rcR hv.1) gL_isSo_X2_confession rfl ⟨rfl, rfl⟩ e_X2_confession ⟨Nat.le_of_ble_eq_true rfl, Nat.le_of_ble_eq_true rfl⟩ rfl hl.1 rfl (Nat.le_of_ble_eq_true rfl) ⟨Nat.zero_le _, Nat.zero_le _⟩ dL_isSo_339 (fun H locs hP hS => ?_)
              obtain ⟨z34, ez34, hf⟩ := qn_x hf
              refine qr_i2l F ez34 dL_isSo_342 ?_
              refine lv_lload F.1 F.2.1 dL_isSo_343 (lv_at hl 0 rfl) ?_
              refine lv_bipush (v := (nI 18)) F.1 F.2.1 dL_isSo_345 (by decide) ?_
              obtain ⟨z35, ez35, hf⟩ := qn_x hf
              refine qr_lshr F ez35 dL_isSo_347 ?_
              refine qr_ldc2 F (v := (1023 : Int64)) (List.mem_of_getElem? (i := 3) rfl) dL_isSo_348 ?_
              obtain ⟨z36, ez36, hf⟩ := qn_x hf
              refine qr_land F ez36 dL_isSo_351 ?_
              refine qr_ldc2 F (v := (9 : Int64)) (List.mem_of_getElem? (i := 5) rfl) dL_isSo_352 ?_
              obtain ⟨z37, ez37, hf⟩ := qn_x hf
              refine qr_lsub F ez37 dL_isSo_355 ?_
              obtain ⟨z38, ez38, hf⟩ := qn_x hf
              refine qr_lcmp F ez38 dL_isSo_356 ?_
              refine lv_if_ne (tgt := 402) F.1 F.2.1 dL_isSo_357 (by decide) (fun c39 => ?_) (fun c39 => ?_)
              · replace hf := qi_f c39 hf
                refine lv_iconst (v := (nI 0)) F.1 F.2.1 dL_isSo_402 (by decide) ?_
                refine lv_istore (lv' := [(10, .int (nI 0)), (13, .long z6), (0, .ref (qw_ad L 8 0)), (1, .ref (qw_ad L 9 1)), (4, .ref (qw_ad L 9 5)), (5, .ref (qw_ad L 9 6)), (6, .int x6), (7, .int x7), (8, .int x8), (9, .int x9), (11, .int x11), (12, .int x12)]) F.1 F.2.1 dL_isSo_403 hl (by decide) rfl (fun ls hl => ?_)
                obtain ⟨z40, ez40, hf⟩ := qn_x hf
                refine lv_iinc (v := z40) (lv' := [(12, .int z40), (10, .int (nI 0)), (13, .long z6), (0, .ref (qw_ad L 8 0)), (1, .ref (qw_ad L 9 1)), (4, .ref (qw_ad L 9 5)), (5, .ref (qw_ad L 9 6)), (6, .int x6), (7, .int x7), (8, .int x8), (9, .int x9), (11, .int x11)]) F.1 F.2.1 dL_isSo_405 hl (k := 11) rfl ((qw_ii1 _).trans ez40.symm) (by decide) rfl (fun ls hl => ?_)
                refine lv_goto (tgt := 246) F.1 F.2.1 dL_isSo_408 (by decide) ?_
                exact ih _ _ _ _ _ _ _ _ _ _ hf hP hS (lv_sub hl [3, 4, 5, 6, 7, 8, 9, 10, 1, 11, 0] rfl)
              · replace hf := qi_t c39 hf
                refine lv_aload_n F.1 F.2.1 dL_isSo_360 rfl (lv_at hl 1 rfl) ?_
                refine lv_iload F.1 F.2.1 dL_isSo_361 (lv_at hl 11 rfl) ?_
                refine lv_iconst (v := (nI 4)) F.1 F.2.1 dL_isSo_363 (by decide) ?_
                obtain ⟨r41, k42, hf⟩ := qb1_x hf
                refine qr_cVi F G hP hS (qc_X2_confession l G.2.1 hv k42) (qw_rcR hv.1) gL_isSo_X2_confession rfl ⟨rfl, rfl⟩ e_X2_confession ⟨Nat.le_of_ble_eq_true rfl, Nat.le_of_ble_eq_true rfl⟩ rfl hl.1 rfl (Nat.le_of_ble_eq_true rfl) ⟨Nat.zero_le _, Nat.zero_le _⟩ dL_isSo_364 (fun H locs hP hS => ?_)
                obtain ⟨z43, ez43, hf⟩ := qn_x hf
                refine qr_i2l F ez43 dL_isSo_367 ?_
                refine lv_lload F.1 F.2.1 dL_isSo_368 (lv_at hl 0 rfl) ?_
                refine lv_bipush (v := (nI 28)) F.1 F.2.1 dL_isSo_370 (by decide) ?_
                obtain ⟨z44, ez44, hf⟩ := qn_x hf
                refine qr_lshr F ez44 dL_isSo_372 ?_
                refine qr_ldc2 F (v := (1023 : Int64)) (List.mem_of_getElem? (i := 3) rfl) dL_isSo_373 ?_
                obtain ⟨z45, ez45, hf⟩ := qn_x hf
                refine qr_land F ez45 dL_isSo_376 ?_
                obtain ⟨z46, ez46, hf⟩ := qn_x hf
                refine qr_lcmp F ez46 dL_isSo_377 ?_
                refine lv_if_ne (tgt := 402) F.1 F.2.1 dL_isSo_378 (by decide) (fun c47 => ?_) (fun c47 => ?_)
                · replace hf := qi_f c47 hf
                  refine lv_iconst (v := (nI 0)) F.1 F.2.1 dL_isSo_402 (by decide) ?_
                  refine lv_istore (lv' := [(10, .int (nI 0)), (13, .long z6), (0, .ref (qw_ad L 8 0)), (1, .ref (qw_ad L 9 1)), (4, .ref (qw_ad L 9 5)), (5, .ref (qw_ad L 9 6)), (6, .int x6), (7, .int x7), (8, .int x8), (9, .int x9), (11, .int x11), (12, .int x12)]) F.1 F.2.1 dL_isSo_403 hl (by decide) rfl (fun ls hl => ?_)
                  obtain ⟨z48, ez48, hf⟩ := qn_x hf
                  refine lv_iinc (v := z48) (lv' := [(12, .int z48), (10, .int (nI 0)), (13, .long z6), (0, .ref (qw_ad L 8 0)), (1, .ref (qw_ad L 9 1)), (4, .ref (qw_ad L 9 5)), (5, .ref (qw_ad L 9 6)), (6, .int x6), (7, .int x7), (8, .int x8), (9, .int x9), (11, .int x11)]) F.1 F.2.1 dL_isSo_405 hl (k := 11) rfl ((qw_ii1 _).trans ez48.symm) (by decide) rfl (fun ls hl => ?_)
                  refine lv_goto (tgt := 246) F.1 F.2.1 dL_isSo_408 (by decide) ?_
                  exact ih _ _ _ _ _ _ _ _ _ _ hf hP hS (lv_sub hl [3, 4, 5, 6, 7, 8, 9, 10, 1, 11, 0] rfl)
                · replace hf := qi_t c47 hf
                  refine lv_aload_n F.1 F.2.1 dL_isSo_381 rfl (lv_at hl 1 rfl) ?_
                  refine lv_iload F.1 F.2.1 dL_isSo_382 (lv_at hl 11 rfl) ?_
                  refine lv_iconst (v := (nI 5)) F.1 F.2.1 dL_isSo_384 (by decide) ?_
                  obtain ⟨r49, k50, hf⟩ := qb1_x hf
                  refine qr_cVi F G hP hS (qc_X2_confession l G.2.1 hv k50) (qw_rcR hv.1) gL_isSo_X2_confession rfl ⟨rfl, rfl⟩ e_X2_confession ⟨Nat.le_of_ble_eq_true rfl, Nat.le_of_ble_eq_true rfl⟩ rfl hl.1 rfl (Nat.le_of_ble_eq_true rfl) ⟨Nat.zero_le _, Nat.zero_le _⟩ dL_isSo_385 (fun H locs hP hS => ?_)
                  obtain ⟨z51, ez51, hf⟩ := qn_x hf
                  refine qr_i2l F ez51 dL_isSo_388 ?_
                  refine lv_lload F.1 F.2.1 dL_isSo_389 (lv_at hl 0 rfl) ?_
                  refine lv_bipush (v := (nI 38)) F.1 F.2.1 dL_isSo_391 (by decide) ?_
                  obtain ⟨z52, ez52, hf⟩ := qn_x hf
                  refine qr_lshr F ez52 dL_isSo_393 ?_
                  obtain ⟨z53, ez53, hf⟩ := qn_x hf
                  refine qr_lcmp F ez53 dL_isSo_394 ?_
                  refine lv_if_ne (tgt := 402) F.1 F.2.1 dL_isSo_395 (by decide) (fun c54 => ?_) (fun c54 => ?_)
                  · replace hf := qi_f c54 hf
                    refine lv_iconst (v := (nI 0)) F.1 F.2.1 dL_isSo_402 (by decide) ?_
                    refine lv_istore (lv' := [(10, .int (nI 0)), (13, .long z6), (0, .ref (qw_ad L 8 0)), (1, .ref (qw_ad L 9 1)), (4, .ref (qw_ad L 9 5)), (5, .ref (qw_ad L 9 6)), (6, .int x6), (7, .int x7), (8, .int x8), (9, .int x9), (11, .int x11), (12, .int x12)]) F.1 F.2.1 dL_isSo_403 hl (by decide) rfl (fun ls hl => ?_)
                    obtain ⟨z55, ez55, hf⟩ := qn_x hf
                    refine lv_iinc (v := z55) (lv' := [(12, .int z55), (10, .int (nI 0)), (13, .long z6), (0, .ref (qw_ad L 8 0)), (1, .ref (qw_ad L 9 1)), (4, .ref (qw_ad L 9 5)), (5, .ref (qw_ad L 9 6)), (6, .int x6), (7, .int x7), (8, .int x8), (9, .int x9), (11, .int x11)]) F.1 F.2.1 dL_isSo_405 hl (k := 11) rfl ((qw_ii1 _).trans ez55.symm) (by decide) rfl (fun ls hl => ?_)
                    refine lv_goto (tgt := 246) F.1 F.2.1 dL_isSo_408 (by decide) ?_
                    exact ih _ _ _ _ _ _ _ _ _ _ hf hP hS (lv_sub hl [3, 4, 5, 6, 7, 8, 9, 10, 1, 11, 0] rfl)
                  · replace hf := qi_t c54 hf
                    refine lv_iconst (v := (nI 1)) F.1 F.2.1 dL_isSo_398 (by decide) ?_
                    refine lv_goto (tgt := 403) F.1 F.2.1 dL_isSo_399 (by decide) ?_
                    refine lv_istore (lv' := [(10, .int (nI 1)), (13, .long z6), (0, .ref (qw_ad L 8 0)), (1, .ref (qw_ad L 9 1)), (4, .ref (qw_ad L 9 5)), (5, .ref (qw_ad L 9 6)), (6, .int x6), (7, .int x7), (8, .int x8), (9, .int x9), (11, .int x11), (12, .int x12)]) F.1 F.2.1 dL_isSo_403 hl (by decide) rfl (fun ls hl => ?_)
                    obtain ⟨z56, ez56, hf⟩ := qn_x hf
                    refine lv_iinc (v := z56) (lv' := [(12, .int z56), (10, .int (nI 1)), (13, .long z6), (0, .ref (qw_ad L 8 0)), (1, .ref (qw_ad L 9 1)), (4, .ref (qw_ad L 9 5)), (5, .ref (qw_ad L 9 6)), (6, .int x6), (7, .int x7), (8, .int x8), (9, .int x9), (11, .int x11)]) F.1 F.2.1 dL_isSo_405 hl (k := 11) rfl ((qw_ii1 _).trans ez56.symm) (by decide) rfl (fun ls hl => ?_)
                    refine lv_goto (tgt := 246) F.1 F.2.1 dL_isSo_408 (by decide) ?_
                    exact ih _ _ _ _ _ _ _ _ _ _ hf hP hS (lv_sub hl [3, 4, 5, 6, 7, 8, 9, 10, 1, 11, 0] rfl)
set_option maxRecDepth 100000 in
set_option maxHeartbeats 4000000 in
theorem qb_L_isSo_241 {p : Program} {l : Launch} {e : Env} {s : State} {mi : MethodId} {args : Array Value} {below : List Frame} {meth : Method} {co : Code} {Q : State → Prop} {L : wL} {r : Int32} {M : wM} {h : (Nat → Nat)} (F : CallFix p mi co cL_isSo 15 s args wsL_isSo RL) (G : qw_G L (qw_A L) s) (hv : qw_R L) (hv9 : qw_9 L) (hQ : qw_RI p l e rm_L_isSo s mi args below meth co cL_isSo .boolean Q L r M h) : ∀ (x6 : Int32) (x7 : Int32) (x8 : Int32) (x9 : Int32) (x10 : Int32) (y0 : Int32) (H : Heap) (locs : List Loc) (ls : Array Slot), qf_L_isSo_241 x6 x7 x8 x9 x10 y0 M h = some r → qw_P L M h H → va_S (qw_A L) s.heap H locs → lv_has ls 15 [(0, .ref (qw_ad L 8 0)), (1, .ref (qw_ad L 9 1)), (4, .ref (qw_ad L 9 5)), (5, .ref (qw_ad L 9 6)), (6, .int x6), (7, .int x7), (8, .int x8), (9, .int x9), (10, .int x10)] → W p l e rm_L_isSo s mi args below meth co H locs 0 0 Q (F0 mi 241 ls [.int y0]) := by
  intro x6 x7 x8 x9 x10 y0 H locs ls hf hP hS hl
  unfold qf_L_isSo_241 at hf
  refine lv_istore (lv' := [(11, .int y0), (0, .ref (qw_ad L 8 0)), (1, .ref (qw_ad L 9 1)), (4, .ref (qw_ad L 9 5)), (5, .ref (qw_ad L 9 6)), (6, .int x6), (7, .int x7), (8, .int x8), (9, .int x9), (10, .int x10)]) F.1 F.2.1 dL_isSo_241 hl (by decide) rfl (fun ls hl => ?_)
  refine lv_iconst (v := (nI 0)) F.1 F.2.1 dL_isSo_243 (by decide) ?_
  refine lv_istore (lv' := [(12, .int (nI 0)), (11, .int y0), (0, .ref (qw_ad L 8 0)), (1, .ref (qw_ad L 9 1)), (4, .ref (qw_ad L 9 5)), (5, .ref (qw_ad L 9 6)), (6, .int x6), (7, .int x7), (8, .int x8), (9, .int x9), (10, .int x10)]) F.1 F.2.1 dL_isSo_244 hl (by decide) rfl (fun ls hl => ?_)
  exact qb_L_isSo_246 F G hv hv9 hQ _ _ _ _ _ _ _ _ _ _ _ hf hP hS (lv_sub hl [2, 3, 4, 5, 6, 7, 8, 9, 10, 1, 0] rfl)
set_option maxRecDepth 100000 in
set_option maxHeartbeats 4000000 in
theorem qb_L_isSo_223 {p : Program} {l : Launch} {e : Env} {s : State} {mi : MethodId} {args : Array Value} {below : List Frame} {meth : Method} {co : Code} {Q : State → Prop} {L : wL} {r : Int32} {M : wM} {h : (Nat → Nat)} (F : CallFix p mi co cL_isSo 15 s args wsL_isSo RL) (G : qw_G L (qw_A L) s) (hv : qw_R L) (hv9 : qw_9 L) (hQ : qw_RI p l e rm_L_isSo s mi args below meth co cL_isSo .boolean Q L r M h) : ∀ (x6 : Int32) (x7 : Int32) (x8 : Int32) (x9 : Int32) (x10 : Int32) (H : Heap) (locs : List Loc) (ls : Array Slot), qf_L_isSo_223 x6 x7 x8 x9 x10 M h = some r → qw_P L M h H → va_S (qw_A L) s.heap H locs → lv_has ls 15 [(0, .ref (qw_ad L 8 0)), (1, .ref (qw_ad L 9 1)), (4, .ref (qw_ad L 9 5)), (5, .ref (qw_ad L 9 6)), (6, .int x6), (7, .int x7), (8, .int x8), (9, .int x9), (10, .int x10)] → W p l e rm_L_isSo s mi args below meth co H locs 0 0 Q (F0 mi 223 ls []) := by
  intro x6 x7 x8 x9 x10 H locs ls hf hP hS hl
  unfold qf_L_isSo_223 at hf
  refine lv_aload_n F.1 F.2.1 dL_isSo_223 rfl (lv_at hl 1 rfl) ?_
  refine lv_bipush (v := (nI 10)) F.1 F.2.1 dL_isSo_224 (by decide) ?_
  obtain ⟨z1, ez1, hf⟩ := qn_x hf
  refine qr_ald F G hP rfl (qw_I9 (c := 1) (n := 15) hv9 (by decide)) (by unfold vp_in; decide) (by decide) ez1 dL_isSo_226 ?_
  refine lv_bipush (v := (nI 12)) F.1 F.2.1 dL_isSo_227 (by decide) ?_
  refine lv_icmp_ge (tgt := 239) F.1 F.2.1 dL_isSo_229 (by decide) (fun c2 => ?_) (fun c2 => ?_)
  · replace hf := qi_t c2 hf
    refine lv_bipush (v := (nI 12)) F.1 F.2.1 dL_isSo_239 (by decide) ?_
    exact qb_L_isSo_241 F G hv hv9 hQ _ _ _ _ _ _ _ _ _ hf hP hS (lv_sub hl [0, 1, 2, 3, 4, 5, 6, 7, 8] rfl)
  · replace hf := qi_f c2 hf
    refine lv_aload_n F.1 F.2.1 dL_isSo_232 rfl (lv_at hl 1 rfl) ?_
    refine lv_bipush (v := (nI 10)) F.1 F.2.1 dL_isSo_233 (by decide) ?_
    obtain ⟨z3, ez3, hf⟩ := qn_x hf
    refine qr_ald F G hP rfl (qw_I9 (c := 1) (n := 15) hv9 (by decide)) (by unfold vp_in; decide) (by decide) ez3 dL_isSo_235 ?_
    refine lv_goto (tgt := 241) F.1 F.2.1 dL_isSo_236 (by decide) ?_
    exact qb_L_isSo_241 F G hv hv9 hQ _ _ _ _ _ _ _ _ _ hf hP hS (lv_sub hl [0, 1, 2, 3, 4, 5, 6, 7, 8] rfl)
set_option maxRecDepth 100000 in
set_option maxHeartbeats 4000000 in
theorem qb_L_isSo_175 {p : Program} {l : Launch} {e : Env} {s : State} {mi : MethodId} {args : Array Value} {below : List Frame} {meth : Method} {co : Code} {Q : State → Prop} {L : wL} {r : Int32} {M : wM} {h : (Nat → Nat)} (F : CallFix p mi co cL_isSo 15 s args wsL_isSo RL) (G : qw_G L (qw_A L) s) (hv : qw_R L) (hv9 : qw_9 L) (hQ : qw_RI p l e rm_L_isSo s mi args below meth co cL_isSo .boolean Q L r M h) : ∀ (n : Nat) (x6 : Int32) (x7 : Int32) (x8 : Int32) (x9 : Int32) (x10 : Int32) (x11 : Int32) (H : Heap) (locs : List Loc) (ls : Array Slot), qf_L_isSo_175 n x6 x7 x8 x9 x10 x11 M h = some r → qw_P L M h H → va_S (qw_A L) s.heap H locs → lv_has ls 15 [(0, .ref (qw_ad L 8 0)), (1, .ref (qw_ad L 9 1)), (3, .ref (qw_ad L 9 3)), (4, .ref (qw_ad L 9 5)), (5, .ref (qw_ad L 9 6)), (6, .int x6), (7, .int x7), (8, .int x8), (9, .int x9), (10, .int x10), (11, .int x11)] → W p l e rm_L_isSo s mi args below meth co H locs 0 0 Q (F0 mi 175 ls []) := by
  intro n
  induction n with
  | zero =>
    intro x6 x7 x8 x9 x10 x11 H locs ls hf hP hS hl
    rw [qf_L_isSo_175] at hf
    cases hf
  | succ n ih =>
    intro x6 x7 x8 x9 x10 x11 H locs ls hf hP hS hl
    rw [qf_L_isSo_175] at hf
    refine lv_iload F.1 F.2.1 dL_isSo_175 (lv_at hl 10 rfl) ?_
    refine lv_iconst (v := (nI 3)) F.1 F.2.1 dL_isSo_177 (by decide) ?_
    refine lv_aload_n F.1 F.2.1 dL_isSo_178 rfl (lv_at hl 1 rfl) ?_
    refine lv_bipush (v := (nI 11)) F.1 F.2.1 dL_isSo_179 (by decide) ?_
    obtain ⟨z1, ez1, hf⟩ := qn_x hf
    refine qr_ald F G hP rfl (qw_I9 (c := 1) (n := 15) hv9 (by decide)) (by unfold vp_in; decide) (by decide) ez1 dL_isSo_181 ?_
    obtain ⟨z2, ez2, hf⟩ := qn_x hf
    refine qr_imul F ez2 dL_isSo_182 ?_
    refine lv_icmp_ge (tgt := 223) F.1 F.2.1 dL_isSo_183 (by decide) (fun c3 => ?_) (fun c3 => ?_)
    · replace hf := qi_t c3 hf
      exact qb_L_isSo_223 F G hv hv9 hQ _ _ _ _ _ _ _ _ hf hP hS (lv_sub hl [0, 1, 3, 4, 5, 6, 7, 8, 9] rfl)
    · replace hf := qi_f c3 hf
      refine lv_iload F.1 F.2.1 dL_isSo_186 (lv_at hl 9 rfl) ?_
      refine lv_if_eq (tgt := 223) F.1 F.2.1 dL_isSo_188 (by decide) (fun c4 => ?_) (fun c4 => ?_)
      · replace hf := qi_t c4 hf
        exact qb_L_isSo_223 F G hv hv9 hQ _ _ _ _ _ _ _ _ hf hP hS (lv_sub hl [0, 1, 3, 4, 5, 6, 7, 8, 9] rfl)
      · replace hf := qi_f c4 hf
        refine lv_aload_n F.1 F.2.1 dL_isSo_191 rfl (lv_at hl 0 rfl) ?_
        refine lv_iload F.1 F.2.1 dL_isSo_192 (lv_at hl 10 rfl) ?_
        refine lv_iconst (v := (nI 3)) F.1 F.2.1 dL_isSo_194 (by decide) ?_
        obtain ⟨z5, ez5, hf⟩ := qn_x hf
        refine qr_idiv F (by decide) ez5 dL_isSo_195 ?_
        refine lv_iload F.1 F.2.1 dL_isSo_196 (lv_at hl 10 rfl) ?_
        refine lv_iconst (v := (nI 3)) F.1 F.2.1 dL_isSo_198 (by decide) ?_
        obtain ⟨z6, ez6, hf⟩ := qn_x hf
        refine qr_irem F (by decide) ez6 dL_isSo_199 ?_
        obtain ⟨r7, k8, hf⟩ := qb1_x hf
        refine qr_cVi F G hP hS (qc_X2_slot l G.2.1 hv k8) (qw_rcR hv.1) gL_isSo_X2_slot rfl ⟨rfl, rfl⟩ e_X2_slot ⟨Nat.le_of_ble_eq_true rfl, Nat.le_of_ble_eq_true rfl⟩ rfl hl.1 rfl (Nat.le_of_ble_eq_true rfl) ⟨Nat.zero_le _, Nat.zero_le _⟩ dL_isSo_200 (fun H locs hP hS => ?_)
        refine lv_aload_n F.1 F.2.1 dL_isSo_203 rfl (lv_at hl 2 rfl) ?_
        refine lv_iload F.1 F.2.1 dL_isSo_204 (lv_at hl 10 rfl) ?_
        obtain ⟨g10, hf⟩ := qg_x hf
        obtain ⟨z9, ez9, hf⟩ := qn_x hf
        refine qr_ald F G hP rfl (qw_I9 (c := 3) (n := 48) hv9 (by decide)) g10 rfl ez9 dL_isSo_206 ?_
        refine lv_icmp_ne (tgt := 214) F.1 F.2.1 dL_isSo_207 (by decide) (fun c11 => ?_) (fun c11 => ?_)
        · replace hf := qi_f c11 hf
          refine lv_iconst (v := (nI 0)) F.1 F.2.1 dL_isSo_214 (by decide) ?_
          refine lv_istore (lv' := [(10, .int (nI 0)), (0, .ref (qw_ad L 8 0)), (1, .ref (qw_ad L 9 1)), (3, .ref (qw_ad L 9 3)), (4, .ref (qw_ad L 9 5)), (5, .ref (qw_ad L 9 6)), (6, .int x6), (7, .int x7), (8, .int x8), (9, .int x9), (11, .int x11)]) F.1 F.2.1 dL_isSo_215 hl (by decide) rfl (fun ls hl => ?_)
          obtain ⟨z12, ez12, hf⟩ := qn_x hf
          refine lv_iinc (v := z12) (lv' := [(11, .int z12), (10, .int (nI 0)), (0, .ref (qw_ad L 8 0)), (1, .ref (qw_ad L 9 1)), (3, .ref (qw_ad L 9 3)), (4, .ref (qw_ad L 9 5)), (5, .ref (qw_ad L 9 6)), (6, .int x6), (7, .int x7), (8, .int x8), (9, .int x9)]) F.1 F.2.1 dL_isSo_217 hl (k := 10) rfl ((qw_ii1 _).trans ez12.symm) (by decide) rfl (fun ls hl => ?_)
          refine lv_goto (tgt := 175) F.1 F.2.1 dL_isSo_220 (by decide) ?_
          exact ih _ _ _ _ _ _ _ _ _ hf hP hS (lv_sub hl [2, 3, 4, 5, 6, 7, 8, 9, 10, 1, 0] rfl)
        · replace hf := qi_t c11 hf
          refine lv_iconst (v := (nI 1)) F.1 F.2.1 dL_isSo_210 (by decide) ?_
          refine lv_goto (tgt := 215) F.1 F.2.1 dL_isSo_211 (by decide) ?_
          refine lv_istore (lv' := [(10, .int (nI 1)), (0, .ref (qw_ad L 8 0)), (1, .ref (qw_ad L 9 1)), (3, .ref (qw_ad L 9 3)), (4, .ref (qw_ad L 9 5)), (5, .ref (qw_ad L 9 6)), (6, .int x6), (7, .int x7), (8, .int x8), (9, .int x9), (11, .int x11)]) F.1 F.2.1 dL_isSo_215 hl (by decide) rfl (fun ls hl => ?_)
          obtain ⟨z13, ez13, hf⟩ := qn_x hf
          refine lv_iinc (v := z13) (lv' := [(11, .int z13), (10, .int (nI 1)), (0, .ref (qw_ad L 8 0)), (1, .ref (qw_ad L 9 1)), (3, .ref (qw_ad L 9 3)), (4, .ref (qw_ad L 9 5)), (5, .ref (qw_ad L 9 6)), (6, .int x6), (7, .int x7), (8, .int x8), (9, .int x9)]) F.1 F.2.1 dL_isSo_217 hl (k := 10) rfl ((qw_ii1 _).trans ez13.symm) (by decide) rfl (fun ls hl => ?_)
          refine lv_goto (tgt := 175) F.1 F.2.1 dL_isSo_220 (by decide) ?_
          exact ih _ _ _ _ _ _ _ _ _ hf hP hS (lv_sub hl [2, 3, 4, 5, 6, 7, 8, 9, 10, 1, 0] rfl)
set_option maxRecDepth 100000 in
set_option maxHeartbeats 4000000 in
theorem qb_L_isSo_172 {p : Program} {l : Launch} {e : Env} {s : State} {mi : MethodId} {args : Array Value} {below : List Frame} {meth : Method} {co : Code} {Q : State → Prop} {L : wL} {r : Int32} {M : wM} {h : (Nat → Nat)} (F : CallFix p mi co cL_isSo 15 s args wsL_isSo RL) (G : qw_G L (qw_A L) s) (hv : qw_R L) (hv9 : qw_9 L) (hQ : qw_RI p l e rm_L_isSo s mi args below meth co cL_isSo .boolean Q L r M h) : ∀ (x6 : Int32) (x7 : Int32) (x8 : Int32) (x9 : Int32) (x10 : Int32) (H : Heap) (locs : List Loc) (ls : Array Slot), qf_L_isSo_172 x6 x7 x8 x9 x10 M h = some r → qw_P L M h H → va_S (qw_A L) s.heap H locs → lv_has ls 15 [(0, .ref (qw_ad L 8 0)), (1, .ref (qw_ad L 9 1)), (3, .ref (qw_ad L 9 3)), (4, .ref (qw_ad L 9 5)), (5, .ref (qw_ad L 9 6)), (6, .int x6), (7, .int x7), (8, .int x8), (9, .int x9), (10, .int x10)] → W p l e rm_L_isSo s mi args below meth co H locs 0 0 Q (F0 mi 172 ls []) := by
  intro x6 x7 x8 x9 x10 H locs ls hf hP hS hl
  unfold qf_L_isSo_172 at hf
  refine lv_iconst (v := (nI 0)) F.1 F.2.1 dL_isSo_172 (by decide) ?_
  refine lv_istore (lv' := [(11, .int (nI 0)), (0, .ref (qw_ad L 8 0)), (1, .ref (qw_ad L 9 1)), (3, .ref (qw_ad L 9 3)), (4, .ref (qw_ad L 9 5)), (5, .ref (qw_ad L 9 6)), (6, .int x6), (7, .int x7), (8, .int x8), (9, .int x9), (10, .int x10)]) F.1 F.2.1 dL_isSo_173 hl (by decide) rfl (fun ls hl => ?_)
  exact qb_L_isSo_175 F G hv hv9 hQ _ _ _ _ _ _ _ _ _ _ hf hP hS (lv_sub hl [1, 2, 3, 4, 5, 6, 7, 8, 9, 10, 0] rfl)
set_option maxRecDepth 100000 in
set_option maxHeartbeats 4000000 in
theorem qb_L_isSo_19 {p : Program} {l : Launch} {e : Env} {s : State} {mi : MethodId} {args : Array Value} {below : List Frame} {meth : Method} {co : Code} {Q : State → Prop} {L : wL} {r : Int32} {M : wM} {h : (Nat → Nat)} (F : CallFix p mi co cL_isSo 15 s args wsL_isSo RL) (G : qw_G L (qw_A L) s) (hv : qw_R L) (hv9 : qw_9 L) (hQ : qw_RI p l e rm_L_isSo s mi args below meth co cL_isSo .boolean Q L r M h) : ∀ (n : Nat) (x6 : Int32) (x7 : Int32) (x8 : Int32) (x9 : Int32) (x10 : Int32) (x11 : Int32) (H : Heap) (locs : List Loc) (ls : Array Slot), qf_L_isSo_19 n x6 x7 x8 x9 x10 x11 M h = some r → qw_P L M h H → va_S (qw_A L) s.heap H locs → lv_has ls 15 [(0, .ref (qw_ad L 8 0)), (1, .ref (qw_ad L 9 1)), (2, .ref (qw_ad L 9 2)), (3, .ref (qw_ad L 9 3)), (4, .ref (qw_ad L 9 5)), (5, .ref (qw_ad L 9 6)), (6, .int x6), (7, .int x7), (8, .int x8), (9, .int x9), (10, .int x10), (11, .int x11)] → W p l e rm_L_isSo s mi args below meth co H locs 0 0 Q (F0 mi 19 ls []) := by
  intro n
  induction n with
  | zero =>
    intro x6 x7 x8 x9 x10 x11 H locs ls hf hP hS hl
    rw [qf_L_isSo_19] at hf
    cases hf
  | succ n ih =>
    intro x6 x7 x8 x9 x10 x11 H locs ls hf hP hS hl
    rw [qf_L_isSo_19] at hf
    refine lv_iload F.1 F.2.1 dL_isSo_19 (lv_at hl 11 rfl) ?_
    refine lv_aload_n F.1 F.2.1 dL_isSo_21 rfl (lv_at hl 1 rfl) ?_
    refine lv_iconst (v := (nI 0)) F.1 F.2.1 dL_isSo_22 (by decide) ?_
    obtain ⟨z1, ez1, hf⟩ := qn_x hf
    refine qr_ald F G hP rfl (qw_I9 (c := 1) (n := 15) hv9 (by decide)) (by unfold vp_in; decide) (by decide) ez1 dL_isSo_23 ?_
    refine lv_icmp_ge (tgt := 172) F.1 F.2.1 dL_isSo_24 (by decide) (fun c2 => ?_) (fun c2 => ?_)
    · replace hf := qi_t c2 hf
      exact qb_L_isSo_172 F G hv hv9 hQ _ _ _ _ _ _ _ _ hf hP hS (lv_sub hl [0, 1, 3, 4, 5, 6, 7, 8, 9, 10] rfl)
    · replace hf := qi_f c2 hf
      refine lv_iload F.1 F.2.1 dL_isSo_27 (lv_at hl 10 rfl) ?_
      refine lv_if_eq (tgt := 172) F.1 F.2.1 dL_isSo_29 (by decide) (fun c3 => ?_) (fun c3 => ?_)
      · replace hf := qi_t c3 hf
        exact qb_L_isSo_172 F G hv hv9 hQ _ _ _ _ _ _ _ _ hf hP hS (lv_sub hl [0, 1, 3, 4, 5, 6, 7, 8, 9, 10] rfl)
      · replace hf := qi_f c3 hf
        refine lv_aload_n F.1 F.2.1 dL_isSo_32 rfl (lv_at hl 2 rfl) ?_
        refine lv_aload_n F.1 F.2.1 dL_isSo_33 rfl (lv_at hl 1 rfl) ?_
        refine lv_iconst (v := (nI 0)) F.1 F.2.1 dL_isSo_34 (by decide) ?_
        obtain ⟨z4, ez4, hf⟩ := qn_x hf
        refine qr_ald F G hP rfl (qw_I9 (c := 1) (n := 15) hv9 (by decide)) (by unfold vp_in; decide) (by decide) ez4 dL_isSo_35 ?_
        refine lv_iconst (v := (nI 1)) F.1 F.2.1 dL_isSo_36 (by decide) ?_
        obtain ⟨z5, ez5, hf⟩ := qn_x hf
        refine qr_isub F ez5 dL_isSo_37 ?_
        refine lv_iload F.1 F.2.1 dL_isSo_38 (lv_at hl 11 rfl) ?_
        obtain ⟨z6, ez6, hf⟩ := qn_x hf
        refine qr_isub F ez6 dL_isSo_40 ?_
        obtain ⟨g8, hf⟩ := qg_x hf
        obtain ⟨z7, ez7, hf⟩ := qn_x hf
        refine qr_ldL F G hP rfl (qw_IL9 (c := 2) (n := 40) hv9 (by decide)) g8 rfl ez7 dL_isSo_41 ?_
        refine lv_lstore (lv' := [(12, .long z7), (0, .ref (qw_ad L 8 0)), (1, .ref (qw_ad L 9 1)), (2, .ref (qw_ad L 9 2)), (3, .ref (qw_ad L 9 3)), (4, .ref (qw_ad L 9 5)), (5, .ref (qw_ad L 9 6)), (6, .int x6), (7, .int x7), (8, .int x8), (9, .int x9), (10, .int x10), (11, .int x11)]) F.1 F.2.1 dL_isSo_42 hl (by decide) rfl (fun ls hl => ?_)
        refine lv_lload F.1 F.2.1 dL_isSo_44 (lv_at hl 0 rfl) ?_
        obtain ⟨r9, k10, hf⟩ := qb1_x hf
        refine qr_cSi F G hP hS (qc_L_by l G.2.1 k10) gL_isSo_L_by rfl ⟨rfl, rfl⟩ e_L_by ⟨Nat.le_of_ble_eq_true rfl, Nat.le_of_ble_eq_true rfl⟩ rfl hl.1 rfl (Nat.le_of_ble_eq_true rfl) ⟨Nat.zero_le _, Nat.zero_le _⟩ dL_isSo_46 (fun H locs hP hS => ?_)
        refine lv_istore (lv' := [(14, .int r9), (12, .long z7), (0, .ref (qw_ad L 8 0)), (1, .ref (qw_ad L 9 1)), (2, .ref (qw_ad L 9 2)), (3, .ref (qw_ad L 9 3)), (4, .ref (qw_ad L 9 5)), (5, .ref (qw_ad L 9 6)), (6, .int x6), (7, .int x7), (8, .int x8), (9, .int x9), (10, .int x10), (11, .int x11)]) F.1 F.2.1 dL_isSo_49 hl (by decide) rfl (fun ls hl => ?_)
        refine lv_iload F.1 F.2.1 dL_isSo_51 (lv_at hl 8 rfl) ?_
        refine lv_iload F.1 F.2.1 dL_isSo_53 (lv_at hl 0 rfl) ?_
        refine lv_if_lt (tgt := 62) F.1 F.2.1 dL_isSo_55 (by decide) (fun c11 => ?_) (fun c11 => ?_)
        · replace hf := qi_t c11 hf
          refine lv_iconst (v := (nI 0)) F.1 F.2.1 dL_isSo_62 (by decide) ?_
          obtain ⟨z12, ez12, hf⟩ := qn_x hf
          refine qr_iadd F ez12 dL_isSo_63 ?_
          refine lv_istore (lv' := [(6, .int z12), (14, .int r9), (12, .long z7), (0, .ref (qw_ad L 8 0)), (1, .ref (qw_ad L 9 1)), (2, .ref (qw_ad L 9 2)), (3, .ref (qw_ad L 9 3)), (4, .ref (qw_ad L 9 5)), (5, .ref (qw_ad L 9 6)), (7, .int x7), (8, .int x8), (9, .int x9), (10, .int x10), (11, .int x11)]) F.1 F.2.1 dL_isSo_64 hl (by decide) rfl (fun ls hl => ?_)
          refine lv_aload_n F.1 F.2.1 dL_isSo_66 rfl (lv_at hl 3 rfl) ?_
          refine lv_iload F.1 F.2.1 dL_isSo_67 (lv_at hl 13 rfl) ?_
          refine lv_iconst (v := (nI 0)) F.1 F.2.1 dL_isSo_69 (by decide) ?_
          obtain ⟨r13, k14, hf⟩ := qb1_x hf
          refine qr_cVi F G hP hS (qc_X2_frame l G.2.1 hv k14) (qw_rcR hv.1) gL_isSo_X2_frame rfl ⟨rfl, rfl⟩ e_X2_frame ⟨Nat.le_of_ble_eq_true rfl, Nat.le_of_ble_eq_true rfl⟩ rfl hl.1 rfl (Nat.le_of_ble_eq_true rfl) ⟨Nat.zero_le _, Nat.zero_le _⟩ dL_isSo_70 (fun H locs hP hS => ?_)
          obtain ⟨z15, ez15, hf⟩ := qn_x hf
          refine qr_i2l F ez15 dL_isSo_73 ?_
          refine lv_lload F.1 F.2.1 dL_isSo_74 (lv_at hl 2 rfl) ?_
          refine qr_ldc2 F (v := (255 : Int64)) (List.mem_of_getElem? (i := 1) rfl) dL_isSo_76 ?_
          obtain ⟨z16, ez16, hf⟩ := qn_x hf
          refine qr_land F ez16 dL_isSo_79 ?_
          obtain ⟨z17, ez17, hf⟩ := qn_x hf
          refine qr_lcmp F ez17 dL_isSo_80 ?_
          refine lv_if_ne (tgt := 163) F.1 F.2.1 dL_isSo_81 (by decide) (fun c18 => ?_) (fun c18 => ?_)
          · replace hf := qi_f c18 hf
            refine lv_iconst (v := (nI 0)) F.1 F.2.1 dL_isSo_163 (by decide) ?_
            refine lv_istore (lv' := [(10, .int (nI 0)), (6, .int z12), (14, .int r9), (12, .long z7), (0, .ref (qw_ad L 8 0)), (1, .ref (qw_ad L 9 1)), (2, .ref (qw_ad L 9 2)), (3, .ref (qw_ad L 9 3)), (4, .ref (qw_ad L 9 5)), (5, .ref (qw_ad L 9 6)), (7, .int x7), (8, .int x8), (9, .int x9), (11, .int x11)]) F.1 F.2.1 dL_isSo_164 hl (by decide) rfl (fun ls hl => ?_)
            obtain ⟨z19, ez19, hf⟩ := qn_x hf
            refine lv_iinc (v := z19) (lv' := [(11, .int z19), (10, .int (nI 0)), (6, .int z12), (14, .int r9), (12, .long z7), (0, .ref (qw_ad L 8 0)), (1, .ref (qw_ad L 9 1)), (2, .ref (qw_ad L 9 2)), (3, .ref (qw_ad L 9 3)), (4, .ref (qw_ad L 9 5)), (5, .ref (qw_ad L 9 6)), (7, .int x7), (8, .int x8), (9, .int x9)]) F.1 F.2.1 dL_isSo_166 hl (k := 13) rfl ((qw_ii1 _).trans ez19.symm) (by decide) rfl (fun ls hl => ?_)
            refine lv_goto (tgt := 19) F.1 F.2.1 dL_isSo_169 (by decide) ?_
            exact ih _ _ _ _ _ _ _ _ _ hf hP hS (lv_sub hl [5, 6, 7, 8, 9, 10, 2, 11, 12, 13, 1, 0] rfl)
          · replace hf := qi_t c18 hf
            refine lv_aload_n F.1 F.2.1 dL_isSo_84 rfl (lv_at hl 3 rfl) ?_
            refine lv_iload F.1 F.2.1 dL_isSo_85 (lv_at hl 13 rfl) ?_
            refine lv_iconst (v := (nI 1)) F.1 F.2.1 dL_isSo_87 (by decide) ?_
            obtain ⟨r20, k21, hf⟩ := qb1_x hf
            refine qr_cVi F G hP hS (qc_X2_frame l G.2.1 hv k21) (qw_rcR hv.1) gL_isSo_X2_frame rfl ⟨rfl, rfl⟩ e_X2_frame ⟨Nat.le_of_ble_eq_true rfl, Nat.le_of_ble_eq_true rfl⟩ rfl hl.1 rfl (Nat.le_of_ble_eq_true rfl) ⟨Nat.zero_le _, Nat.zero_le _⟩ dL_isSo_88 (fun H locs hP hS => ?_)
            obtain ⟨z22, ez22, hf⟩ := qn_x hf
            refine qr_i2l F ez22 dL_isSo_91 ?_
            refine lv_lload F.1 F.2.1 dL_isSo_92 (lv_at hl 2 rfl) ?_
            refine lv_bipush (v := (nI 8)) F.1 F.2.1 dL_isSo_94 (by decide) ?_
            obtain ⟨z23, ez23, hf⟩ := qn_x hf
            refine qr_lshr F ez23 dL_isSo_96 ?_
            refine qr_ldc2 F (v := (15 : Int64)) (List.mem_of_getElem? (i := 2) rfl) dL_isSo_97 ?_
            obtain ⟨z24, ez24, hf⟩ := qn_x hf
            refine qr_land F ez24 dL_isSo_100 ?_
            obtain ⟨z25, ez25, hf⟩ := qn_x hf
            refine qr_lcmp F ez25 dL_isSo_101 ?_
            refine lv_if_ne (tgt := 163) F.1 F.2.1 dL_isSo_102 (by decide) (fun c26 => ?_) (fun c26 => ?_)
            · replace hf := qi_f c26 hf
              refine lv_iconst (v := (nI 0)) F.1 F.2.1 dL_isSo_163 (by decide) ?_
              refine lv_istore (lv' := [(10, .int (nI 0)), (6, .int z12), (14, .int r9), (12, .long z7), (0, .ref (qw_ad L 8 0)), (1, .ref (qw_ad L 9 1)), (2, .ref (qw_ad L 9 2)), (3, .ref (qw_ad L 9 3)), (4, .ref (qw_ad L 9 5)), (5, .ref (qw_ad L 9 6)), (7, .int x7), (8, .int x8), (9, .int x9), (11, .int x11)]) F.1 F.2.1 dL_isSo_164 hl (by decide) rfl (fun ls hl => ?_)
              obtain ⟨z27, ez27, hf⟩ := qn_x hf
              refine lv_iinc (v := z27) (lv' := [(11, .int z27), (10, .int (nI 0)), (6, .int z12), (14, .int r9), (12, .long z7), (0, .ref (qw_ad L 8 0)), (1, .ref (qw_ad L 9 1)), (2, .ref (qw_ad L 9 2)), (3, .ref (qw_ad L 9 3)), (4, .ref (qw_ad L 9 5)), (5, .ref (qw_ad L 9 6)), (7, .int x7), (8, .int x8), (9, .int x9)]) F.1 F.2.1 dL_isSo_166 hl (k := 13) rfl ((qw_ii1 _).trans ez27.symm) (by decide) rfl (fun ls hl => ?_)
              refine lv_goto (tgt := 19) F.1 F.2.1 dL_isSo_169 (by decide) ?_
              exact ih _ _ _ _ _ _ _ _ _ hf hP hS (lv_sub hl [5, 6, 7, 8, 9, 10, 2, 11, 12, 13, 1, 0] rfl)
            · replace hf := qi_t c26 hf
              refine lv_aload_n F.1 F.2.1 dL_isSo_105 rfl (lv_at hl 3 rfl) ?_
              refine lv_iload F.1 F.2.1 dL_isSo_106 (lv_at hl 13 rfl) ?_
              refine lv_iconst (v := (nI 2)) F.1 F.2.1 dL_isSo_108 (by decide) ?_
              obtain ⟨r28, k29, hf⟩ := qb1_x hf
              refine qr_cVi F G hP hS (qc_X2_frame l G.2.1 hv k29) (qw_rcR hv.1) gL_isSo_X2_frame rfl ⟨rfl, rfl⟩ e_X2_frame ⟨Nat.le_of_ble_eq_true rfl, Nat.le_of_ble_eq_true rfl⟩ rfl hl.1 rfl (Nat.le_of_ble_eq_true rfl) ⟨Nat.zero_le _, Nat.zero_le _⟩ dL_isSo_109 (fun H locs hP hS => ?_)
              obtain ⟨z30, ez30, hf⟩ := qn_x hf
              refine qr_i2l F ez30 dL_isSo_112 ?_
              refine lv_lload F.1 F.2.1 dL_isSo_113 (lv_at hl 2 rfl) ?_
              refine lv_bipush (v := (nI 12)) F.1 F.2.1 dL_isSo_115 (by decide) ?_
              obtain ⟨z31, ez31, hf⟩ := qn_x hf
              refine qr_lshr F ez31 dL_isSo_117 ?_
              refine qr_ldc2 F (v := (1023 : Int64)) (List.mem_of_getElem? (i := 3) rfl) dL_isSo_118 ?_
              obtain ⟨z32, ez32, hf⟩ := qn_x hf
              refine qr_land F ez32 dL_isSo_121 ?_
              obtain ⟨z33, ez33, hf⟩ := qn_x hf
              refine qr_lcmp F ez33 dL_isSo_122 ?_
              refine lv_if_ne (tgt := 163) F.1 F.2.1 dL_isSo_123 (by decide) (fun c34 => ?_) (fun c34 => ?_)
              · replace hf := qi_f c34 hf
                refine lv_iconst (v := (nI 0)) F.1 F.2.1 dL_isSo_163 (by decide) ?_
                refine lv_istore (lv' := [(10, .int (nI 0)), (6, .int z12), (14, .int r9), (12, .long z7), (0, .ref (qw_ad L 8 0)), (1, .ref (qw_ad L 9 1)), (2, .ref (qw_ad L 9 2)), (3, .ref (qw_ad L 9 3)), (4, .ref (qw_ad L 9 5)), (5, .ref (qw_ad L 9 6)), (7, .int x7), (8, .int x8), (9, .int x9), (11, .int x11)]) F.1 F.2.1 dL_isSo_164 hl (by decide) rfl (fun ls hl => ?_)
                obtain ⟨z35, ez35, hf⟩ := qn_x hf
                refine lv_iinc (v := z35) (lv' := [(11, .int z35), (10, .int (nI 0)), (6, .int z12), (14, .int r9), (12, .long z7), (0, .ref (qw_ad L 8 0)), (1, .ref (qw_ad L 9 1)), (2, .ref (qw_ad L 9 2)), (3, .ref (qw_ad L 9 3)), (4, .ref (qw_ad L 9 5)), (5, .ref (qw_ad L 9 6)), (7, .int x7), (8, .int x8), (9, .int x9)]) F.1 F.2.1 dL_isSo_166 hl (k := 13) rfl ((qw_ii1 _).trans ez35.symm) (by decide) rfl (fun ls hl => ?_)
                refine lv_goto (tgt := 19) F.1 F.2.1 dL_isSo_169 (by decide) ?_
                exact ih _ _ _ _ _ _ _ _ _ hf hP hS (lv_sub hl [5, 6, 7, 8, 9, 10, 2, 11, 12, 13, 1, 0] rfl)
              · replace hf := qi_t c34 hf
                refine lv_aload_n F.1 F.2.1 dL_isSo_126 rfl (lv_at hl 3 rfl) ?_
                refine lv_iload F.1 F.2.1 dL_isSo_127 (lv_at hl 13 rfl) ?_
                refine lv_iconst (v := (nI 3)) F.1 F.2.1 dL_isSo_129 (by decide) ?_
                obtain ⟨r36, k37, hf⟩ := qb1_x hf
                refine qr_cVi F G hP hS (qc_X2_frame l G.2.1 hv k37) (qw_rcR hv.1) gL_isSo_X2_frame rfl ⟨rfl, rfl⟩ e_X2_frame ⟨Nat.le_of_ble_eq_true rfl, Nat.le_of_ble_eq_true rfl⟩ rfl hl.1 rfl (Nat.le_of_ble_eq_true rfl) ⟨Nat.zero_le _, Nat.zero_le _⟩ dL_isSo_130 (fun H locs hP hS => ?_)
                obtain ⟨z38, ez38, hf⟩ := qn_x hf
                refine qr_i2l F ez38 dL_isSo_133 ?_
                refine lv_lload F.1 F.2.1 dL_isSo_134 (lv_at hl 2 rfl) ?_
                refine lv_bipush (v := (nI 22)) F.1 F.2.1 dL_isSo_136 (by decide) ?_
                obtain ⟨z39, ez39, hf⟩ := qn_x hf
                refine qr_lshr F ez39 dL_isSo_138 ?_
                refine qr_ldc2 F (v := (15 : Int64)) (List.mem_of_getElem? (i := 2) rfl) dL_isSo_139 ?_
                obtain ⟨z40, ez40, hf⟩ := qn_x hf
                refine qr_land F ez40 dL_isSo_142 ?_
                obtain ⟨z41, ez41, hf⟩ := qn_x hf
                refine qr_lcmp F ez41 dL_isSo_143 ?_
                refine lv_if_ne (tgt := 163) F.1 F.2.1 dL_isSo_144 (by decide) (fun c42 => ?_) (fun c42 => ?_)
                · replace hf := qi_f c42 hf
                  refine lv_iconst (v := (nI 0)) F.1 F.2.1 dL_isSo_163 (by decide) ?_
                  refine lv_istore (lv' := [(10, .int (nI 0)), (6, .int z12), (14, .int r9), (12, .long z7), (0, .ref (qw_ad L 8 0)), (1, .ref (qw_ad L 9 1)), (2, .ref (qw_ad L 9 2)), (3, .ref (qw_ad L 9 3)), (4, .ref (qw_ad L 9 5)), (5, .ref (qw_ad L 9 6)), (7, .int x7), (8, .int x8), (9, .int x9), (11, .int x11)]) F.1 F.2.1 dL_isSo_164 hl (by decide) rfl (fun ls hl => ?_)
                  obtain ⟨z43, ez43, hf⟩ := qn_x hf
                  refine lv_iinc (v := z43) (lv' := [(11, .int z43), (10, .int (nI 0)), (6, .int z12), (14, .int r9), (12, .long z7), (0, .ref (qw_ad L 8 0)), (1, .ref (qw_ad L 9 1)), (2, .ref (qw_ad L 9 2)), (3, .ref (qw_ad L 9 3)), (4, .ref (qw_ad L 9 5)), (5, .ref (qw_ad L 9 6)), (7, .int x7), (8, .int x8), (9, .int x9)]) F.1 F.2.1 dL_isSo_166 hl (k := 13) rfl ((qw_ii1 _).trans ez43.symm) (by decide) rfl (fun ls hl => ?_)
                  refine lv_goto (tgt := 19) F.1 F.2.1 dL_isSo_169 (by decide) ?_
                  exact ih _ _ _ _ _ _ _ _ _ hf hP hS (lv_sub hl [5, 6, 7, 8, 9, 10, 2, 11, 12, 13, 1, 0] rfl)
                · replace hf := qi_t c42 hf
                  refine lv_aload_n F.1 F.2.1 dL_isSo_147 rfl (lv_at hl 3 rfl) ?_
                  refine lv_iload F.1 F.2.1 dL_isSo_148 (lv_at hl 13 rfl) ?_
                  refine lv_iconst (v := (nI 4)) F.1 F.2.1 dL_isSo_150 (by decide) ?_
                  obtain ⟨r44, k45, hf⟩ := qb1_x hf
                  refine qr_cVi F G hP hS (qc_X2_frame l G.2.1 hv k45) (qw_rcR hv.1) gL_isSo_X2_frame rfl ⟨rfl, rfl⟩ e_X2_frame ⟨Nat.le_of_ble_eq_true rfl, Nat.le_of_ble_eq_true rfl⟩ rfl hl.1 rfl (Nat.le_of_ble_eq_true rfl) ⟨Nat.zero_le _, Nat.zero_le _⟩ dL_isSo_151 (fun H locs hP hS => ?_)
                  refine lv_iload F.1 F.2.1 dL_isSo_154 (lv_at hl 1 rfl) ?_
                  refine lv_icmp_ne (tgt := 163) F.1 F.2.1 dL_isSo_156 (by decide) (fun c46 => ?_) (fun c46 => ?_)
                  · replace hf := qi_f c46 hf
                    refine lv_iconst (v := (nI 0)) F.1 F.2.1 dL_isSo_163 (by decide) ?_
                    refine lv_istore (lv' := [(10, .int (nI 0)), (6, .int z12), (14, .int r9), (12, .long z7), (0, .ref (qw_ad L 8 0)), (1, .ref (qw_ad L 9 1)), (2, .ref (qw_ad L 9 2)), (3, .ref (qw_ad L 9 3)), (4, .ref (qw_ad L 9 5)), (5, .ref (qw_ad L 9 6)), (7, .int x7), (8, .int x8), (9, .int x9), (11, .int x11)]) F.1 F.2.1 dL_isSo_164 hl (by decide) rfl (fun ls hl => ?_)
                    obtain ⟨z47, ez47, hf⟩ := qn_x hf
                    refine lv_iinc (v := z47) (lv' := [(11, .int z47), (10, .int (nI 0)), (6, .int z12), (14, .int r9), (12, .long z7), (0, .ref (qw_ad L 8 0)), (1, .ref (qw_ad L 9 1)), (2, .ref (qw_ad L 9 2)), (3, .ref (qw_ad L 9 3)), (4, .ref (qw_ad L 9 5)), (5, .ref (qw_ad L 9 6)), (7, .int x7), (8, .int x8), (9, .int x9)]) F.1 F.2.1 dL_isSo_166 hl (k := 13) rfl ((qw_ii1 _).trans ez47.symm) (by decide) rfl (fun ls hl => ?_)
                    refine lv_goto (tgt := 19) F.1 F.2.1 dL_isSo_169 (by decide) ?_
                    exact ih _ _ _ _ _ _ _ _ _ hf hP hS (lv_sub hl [5, 6, 7, 8, 9, 10, 2, 11, 12, 13, 1, 0] rfl)
                  · replace hf := qi_t c46 hf
                    refine lv_iconst (v := (nI 1)) F.1 F.2.1 dL_isSo_159 (by decide) ?_
                    refine lv_goto (tgt := 164) F.1 F.2.1 dL_isSo_160 (by decide) ?_
                    refine lv_istore (lv' := [(10, .int (nI 1)), (6, .int z12), (14, .int r9), (12, .long z7), (0, .ref (qw_ad L 8 0)), (1, .ref (qw_ad L 9 1)), (2, .ref (qw_ad L 9 2)), (3, .ref (qw_ad L 9 3)), (4, .ref (qw_ad L 9 5)), (5, .ref (qw_ad L 9 6)), (7, .int x7), (8, .int x8), (9, .int x9), (11, .int x11)]) F.1 F.2.1 dL_isSo_164 hl (by decide) rfl (fun ls hl => ?_)
                    obtain ⟨z48, ez48, hf⟩ := qn_x hf
                    refine lv_iinc (v := z48) (lv' := [(11, .int z48), (10, .int (nI 1)), (6, .int z12), (14, .int r9), (12, .long z7), (0, .ref (qw_ad L 8 0)), (1, .ref (qw_ad L 9 1)), (2, .ref (qw_ad L 9 2)), (3, .ref (qw_ad L 9 3)), (4, .ref (qw_ad L 9 5)), (5, .ref (qw_ad L 9 6)), (7, .int x7), (8, .int x8), (9, .int x9)]) F.1 F.2.1 dL_isSo_166 hl (k := 13) rfl ((qw_ii1 _).trans ez48.symm) (by decide) rfl (fun ls hl => ?_)
                    refine lv_goto (tgt := 19) F.1 F.2.1 dL_isSo_169 (by decide) ?_
                    exact ih _ _ _ _ _ _ _ _ _ hf hP hS (lv_sub hl [5, 6, 7, 8, 9, 10, 2, 11, 12, 13, 1, 0] rfl)
        · replace hf := qi_f c11 hf
          refine lv_iconst (v := (nI 1)) F.1 F.2.1 dL_isSo_58 (by decide) ?_
          refine lv_goto (tgt := 63) F.1 F.2.1 dL_isSo_59 (by decide) ?_
          obtain ⟨z49, ez49, hf⟩ := qn_x hf
          refine qr_iadd F ez49 dL_isSo_63 ?_
          refine lv_istore (lv' := [(6, .int z49), (14, .int r9), (12, .long z7), (0, .ref (qw_ad L 8 0)), (1, .ref (qw_ad L 9 1)), (2, .ref (qw_ad L 9 2)), (3, .ref (qw_ad L 9 3)), (4, .ref (qw_ad L 9 5)), (5, .ref (qw_ad L 9 6)), (7, .int x7), (8, .int x8), (9, .int x9), (10, .int x10), (11, .int x11)]) F.1 F.2.1 dL_isSo_64 hl (by decide) rfl (fun ls hl => ?_)
          refine lv_aload_n F.1 F.2.1 dL_isSo_66 rfl (lv_at hl 3 rfl) ?_
          refine lv_iload F.1 F.2.1 dL_isSo_67 (lv_at hl 13 rfl) ?_
          refine lv_iconst (v := (nI 0)) F.1 F.2.1 dL_isSo_69 (by decide) ?_
          obtain ⟨r50, k51, hf⟩ := qb1_x hf
          refine qr_cVi F G hP hS (qc_X2_frame l G.2.1 hv k51) (qw_rcR hv.1) gL_isSo_X2_frame rfl ⟨rfl, rfl⟩ e_X2_frame ⟨Nat.le_of_ble_eq_true rfl, Nat.le_of_ble_eq_true rfl⟩ rfl hl.1 rfl (Nat.le_of_ble_eq_true rfl) ⟨Nat.zero_le _, Nat.zero_le _⟩ dL_isSo_70 (fun H locs hP hS => ?_)
          obtain ⟨z52, ez52, hf⟩ := qn_x hf
          refine qr_i2l F ez52 dL_isSo_73 ?_
          refine lv_lload F.1 F.2.1 dL_isSo_74 (lv_at hl 2 rfl) ?_
          refine qr_ldc2 F (v := (255 : Int64)) (List.mem_of_getElem? (i := 1) rfl) dL_isSo_76 ?_
          obtain ⟨z53, ez53, hf⟩ := qn_x hf
          refine qr_land F ez53 dL_isSo_79 ?_
          obtain ⟨z54, ez54, hf⟩ := qn_x hf
          refine qr_lcmp F ez54 dL_isSo_80 ?_
          refine lv_if_ne (tgt := 163) F.1 F.2.1 dL_isSo_81 (by decide) (fun c55 => ?_) (fun c55 => ?_)
          · replace hf := qi_f c55 hf
            refine lv_iconst (v := (nI 0)) F.1 F.2.1 dL_isSo_163 (by decide) ?_
            refine lv_istore (lv' := [(10, .int (nI 0)), (6, .int z49), (14, .int r9), (12, .long z7), (0, .ref (qw_ad L 8 0)), (1, .ref (qw_ad L 9 1)), (2, .ref (qw_ad L 9 2)), (3, .ref (qw_ad L 9 3)), (4, .ref (qw_ad L 9 5)), (5, .ref (qw_ad L 9 6)), (7, .int x7), (8, .int x8), (9, .int x9), (11, .int x11)]) F.1 F.2.1 dL_isSo_164 hl (by decide) rfl (fun ls hl => ?_)
            obtain ⟨z56, ez56, hf⟩ := qn_x hf
            refine lv_iinc (v := z56) (lv' := [(11, .int z56), (10, .int (nI 0)), (6, .int z49), (14, .int r9), (12, .long z7), (0, .ref (qw_ad L 8 0)), (1, .ref (qw_ad L 9 1)), (2, .ref (qw_ad L 9 2)), (3, .ref (qw_ad L 9 3)), (4, .ref (qw_ad L 9 5)), (5, .ref (qw_ad L 9 6)), (7, .int x7), (8, .int x8), (9, .int x9)]) F.1 F.2.1 dL_isSo_166 hl (k := 13) rfl ((qw_ii1 _).trans ez56.symm) (by decide) rfl (fun ls hl => ?_)
            refine lv_goto (tgt := 19) F.1 F.2.1 dL_isSo_169 (by decide) ?_
            exact ih _ _ _ _ _ _ _ _ _ hf hP hS (lv_sub hl [5, 6, 7, 8, 9, 10, 2, 11, 12, 13, 1, 0] rfl)
          · replace hf := qi_t c55 hf
            refine lv_aload_n F.1 F.2.1 dL_isSo_84 rfl (lv_at hl 3 rfl) ?_
            refine lv_iload F.1 F.2.1 dL_isSo_85 (lv_at hl 13 rfl) ?_
            refine lv_iconst (v := (nI 1)) F.1 F.2.1 dL_isSo_87 (by decide) ?_
            obtain ⟨r57, k58, hf⟩ := qb1_x hf
            refine qr_cVi F G hP hS (qc_X2_frame l G.2.1 hv k58) (qw_rcR hv.1) gL_isSo_X2_frame rfl ⟨rfl, rfl⟩ e_X2_frame ⟨Nat.le_of_ble_eq_true rfl, Nat.le_of_ble_eq_true rfl⟩ rfl hl.1 rfl (Nat.le_of_ble_eq_true rfl) ⟨Nat.zero_le _, Nat.zero_le _⟩ dL_isSo_88 (fun H locs hP hS => ?_)
            obtain ⟨z59, ez59, hf⟩ := qn_x hf
            refine qr_i2l F ez59 dL_isSo_91 ?_
            refine lv_lload F.1 F.2.1 dL_isSo_92 (lv_at hl 2 rfl) ?_
            refine lv_bipush (v := (nI 8)) F.1 F.2.1 dL_isSo_94 (by decide) ?_
            obtain ⟨z60, ez60, hf⟩ := qn_x hf
            refine qr_lshr F ez60 dL_isSo_96 ?_
            refine qr_ldc2 F (v := (15 : Int64)) (List.mem_of_getElem? (i := 2) rfl) dL_isSo_97 ?_
            obtain ⟨z61, ez61, hf⟩ := qn_x hf
            refine qr_land F ez61 dL_isSo_100 ?_
            obtain ⟨z62, ez62, hf⟩ := qn_x hf
            refine qr_lcmp F ez62 dL_isSo_101 ?_
            refine lv_if_ne (tgt := 163) F.1 F.2.1 dL_isSo_102 (by decide) (fun c63 => ?_) (fun c63 => ?_)
            · replace hf := qi_f c63 hf
              refine lv_iconst (v := (nI 0)) F.1 F.2.1 dL_isSo_163 (by decide) ?_
              refine lv_istore (lv' := [(10, .int (nI 0)), (6, .int z49), (14, .int r9), (12, .long z7), (0, .ref (qw_ad L 8 0)), (1, .ref (qw_ad L 9 1)), (2, .ref (qw_ad L 9 2)), (3, .ref (qw_ad L 9 3)), (4, .ref (qw_ad L 9 5)), (5, .ref (qw_ad L 9 6)), (7, .int x7), (8, .int x8), (9, .int x9), (11, .int x11)]) F.1 F.2.1 dL_isSo_164 hl (by decide) rfl (fun ls hl => ?_)
              obtain ⟨z64, ez64, hf⟩ := qn_x hf
              refine lv_iinc (v := z64) (lv' := [(11, .int z64), (10, .int (nI 0)), (6, .int z49), (14, .int r9), (12, .long z7), (0, .ref (qw_ad L 8 0)), (1, .ref (qw_ad L 9 1)), (2, .ref (qw_ad L 9 2)), (3, .ref (qw_ad L 9 3)), (4, .ref (qw_ad L 9 5)), (5, .ref (qw_ad L 9 6)), (7, .int x7), (8, .int x8), (9, .int x9)]) F.1 F.2.1 dL_isSo_166 hl (k := 13) rfl ((qw_ii1 _).trans ez64.symm) (by decide) rfl (fun ls hl => ?_)
              refine lv_goto (tgt := 19) F.1 F.2.1 dL_isSo_169 (by decide) ?_
              exact ih _ _ _ _ _ _ _ _ _ hf hP hS (lv_sub hl [5, 6, 7, 8, 9, 10, 2, 11, 12, 13, 1, 0] rfl)
            · replace hf := qi_t c63 hf
              refine lv_aload_n F.1 F.2.1 dL_isSo_105 rfl (lv_at hl 3 rfl) ?_
              refine lv_iload F.1 F.2.1 dL_isSo_106 (lv_at hl 13 rfl) ?_
              refine lv_iconst (v := (nI 2)) F.1 F.2.1 dL_isSo_108 (by decide) ?_
              obtain ⟨r65, k66, hf⟩ := qb1_x hf
              refine qr_cVi F G hP hS (qc_X2_frame l G.2.1 hv k66) (qw_rcR hv.1) gL_isSo_X2_frame rfl ⟨rfl, rfl⟩ e_X2_frame ⟨Nat.le_of_ble_eq_true rfl, Nat.le_of_ble_eq_true rfl⟩ rfl hl.1 rfl (Nat.le_of_ble_eq_true rfl) ⟨Nat.zero_le _, Nat.zero_le _⟩ dL_isSo_109 (fun H locs hP hS => ?_)
              obtain ⟨z67, ez67, hf⟩ := qn_x hf
              refine qr_i2l F ez67 dL_isSo_112 ?_
              refine lv_lload F.1 F.2.1 dL_isSo_113 (lv_at hl 2 rfl) ?_
              refine lv_bipush (v := (nI 12)) F.1 F.2.1 dL_isSo_115 (by decide) ?_
              obtain ⟨z68, ez68, hf⟩ := qn_x hf
              refine qr_lshr F ez68 dL_isSo_117 ?_
              refine qr_ldc2 F (v := (1023 : Int64)) (List.mem_of_getElem? (i := 3) rfl) dL_isSo_118 ?_
              obtain ⟨z69, ez69, hf⟩ := qn_x hf
              refine qr_land F ez69 dL_isSo_121 ?_
              obtain ⟨z70, ez70, hf⟩ := qn_x hf
              refine qr_lcmp F ez70 dL_isSo_122 ?_
              refine lv_if_ne (tgt := 163) F.1 F.2.1 dL_isSo_123 (by decide) (fun c71 => ?_) (fun c71 => ?_)
              · replace hf := qi_f c71 hf
                refine lv_iconst (v := (nI 0)) F.1 F.2.1 dL_isSo_163 (by decide) ?_
                refine lv_istore (lv' := [(10, .int (nI 0)), (6, .int z49), (14, .int r9), (12, .long z7), (0, .ref (qw_ad L 8 0)), (1, .ref (qw_ad L 9 1)), (2, .ref (qw_ad L 9 2)), (3, .ref (qw_ad L 9 3)), (4, .ref (qw_ad L 9 5)), (5, .ref (qw_ad L 9 6)), (7, .int x7), (8, .int x8), (9, .int x9), (11, .int x11)]) F.1 F.2.1 dL_isSo_164 hl (by decide) rfl (fun ls hl => ?_)
                obtain ⟨z72, ez72, hf⟩ := qn_x hf
                refine lv_iinc (v := z72) (lv' := [(11, .int z72), (10, .int (nI 0)), (6, .int z49), (14, .int r9), (12, .long z7), (0, .ref (qw_ad L 8 0)), (1, .ref (qw_ad L 9 1)), (2, .ref (qw_ad L 9 2)), (3, .ref (qw_ad L 9 3)), (4, .ref (qw_ad L 9 5)), (5, .ref (qw_ad L 9 6)), (7, .int x7), (8, .int x8), (9, .int x9)]) F.1 F.2.1 dL_isSo_166 hl (k := 13) rfl ((qw_ii1 _).trans ez72.symm) (by decide) rfl (fun ls hl => ?_)
                refine lv_goto (tgt := 19) F.1 F.2.1 dL_isSo_169 (by decide) ?_
                exact ih _ _ _ _ _ _ _ _ _ hf hP hS (lv_sub hl [5, 6, 7, 8, 9, 10, 2, 11, 12, 13, 1, 0] rfl)
              · replace hf := qi_t c71 hf
                refine lv_aload_n F.1 F.2.1 dL_isSo_126 rfl (lv_at hl 3 rfl) ?_
                refine lv_iload F.1 F.2.1 dL_isSo_127 (lv_at hl 13 rfl) ?_
                refine lv_iconst (v := (nI 3)) F.1 F.2.1 dL_isSo_129 (by decide) ?_
                obtain ⟨r73, k74, hf⟩ := qb1_x hf
                refine qr_cVi F G hP hS (qc_X2_frame l G.2.1 hv k74) (qw_rcR hv.1) gL_isSo_X2_frame rfl ⟨rfl, rfl⟩ e_X2_frame ⟨Nat.le_of_ble_eq_true rfl, Nat.le_of_ble_eq_true rfl⟩ rfl hl.1 rfl (Nat.le_of_ble_eq_true rfl) ⟨Nat.zero_le _, Nat.zero_le _⟩ dL_isSo_130 (fun H locs hP hS => ?_)
                obtain ⟨z75, ez75, hf⟩ := qn_x hf
                refine qr_i2l F ez75 dL_isSo_133 ?_
                refine lv_lload F.1 F.2.1 dL_isSo_134 (lv_at hl 2 rfl) ?_
                refine lv_bipush (v := (nI 22)) F.1 F.2.1 dL_isSo_136 (by decide) ?_
                obtain ⟨z76, ez76, hf⟩ := qn_x hf
                refine qr_lshr F ez76 dL_isSo_138 ?_
                refine qr_ldc2 F (v := (15 : Int64)) (List.mem_of_getElem? (i := 2) rfl) dL_isSo_139 ?_
                obtain ⟨z77, ez77, hf⟩ := qn_x hf
                refine qr_land F ez77 dL_isSo_142 ?_
                obtain ⟨z78, ez78, hf⟩ := qn_x hf
                refine qr_lcmp F ez78 dL_isSo_143 ?_
                refine lv_if_ne (tgt := 163) F.1 F.2.1 dL_isSo_144 (by decide) (fun c79 => ?_) (fun c79 => ?_)
                · replace hf := qi_f c79 hf
                  refine lv_iconst (v := (nI 0)) F.1 F.2.1 dL_isSo_163 (by decide) ?_
                  refine lv_istore (lv' := [(10, .int (nI 0)), (6, .int z49), (14, .int r9), (12, .long z7), (0, .ref (qw_ad L 8 0)), (1, .ref (qw_ad L 9 1)), (2, .ref (qw_ad L 9 2)), (3, .ref (qw_ad L 9 3)), (4, .ref (qw_ad L 9 5)), (5, .ref (qw_ad L 9 6)), (7, .int x7), (8, .int x8), (9, .int x9), (11, .int x11)]) F.1 F.2.1 dL_isSo_164 hl (by decide) rfl (fun ls hl => ?_)
                  obtain ⟨z80, ez80, hf⟩ := qn_x hf
                  refine lv_iinc (v := z80) (lv' := [(11, .int z80), (10, .int (nI 0)), (6, .int z49), (14, .int r9), (12, .long z7), (0, .ref (qw_ad L 8 0)), (1, .ref (qw_ad L 9 1)), (2, .ref (qw_ad L 9 2)), (3, .ref (qw_ad L 9 3)), (4, .ref (qw_ad L 9 5)), (5, .ref (qw_ad L 9 6)), (7, .int x7), (8, .int x8), (9, .int x9)]) F.1 F.2.1 dL_isSo_166 hl (k := 13) rfl ((qw_ii1 _).trans ez80.symm) (by decide) rfl (fun ls hl => ?_)
                  refine lv_goto (tgt := 19) F.1 F.2.1 dL_isSo_169 (by decide) ?_
                  exact ih _ _ _ _ _ _ _ _ _ hf hP hS (lv_sub hl [5, 6, 7, 8, 9, 10, 2, 11, 12, 13, 1, 0] rfl)
                · replace hf := qi_t c79 hf
                  refine lv_aload_n F.1 F.2.1 dL_isSo_147 rfl (lv_at hl 3 rfl) ?_
                  refine lv_iload F.1 F.2.1 dL_isSo_148 (lv_at hl 13 rfl) ?_
                  refine lv_iconst (v := (nI 4)) F.1 F.2.1 dL_isSo_150 (by decide) ?_
                  obtain ⟨r81, k82, hf⟩ := qb1_x hf
                  refine qr_cVi F G hP hS (qc_X2_frame l G.2.1 hv k82) (qw_rcR hv.1) gL_isSo_X2_frame rfl ⟨rfl, rfl⟩ e_X2_frame ⟨Nat.le_of_ble_eq_true rfl, Nat.le_of_ble_eq_true rfl⟩ rfl hl.1 rfl (Nat.le_of_ble_eq_true rfl) ⟨Nat.zero_le _, Nat.zero_le _⟩ dL_isSo_151 (fun H locs hP hS => ?_)
                  refine lv_iload F.1 F.2.1 dL_isSo_154 (lv_at hl 1 rfl) ?_
                  refine lv_icmp_ne (tgt := 163) F.1 F.2.1 dL_isSo_156 (by decide) (fun c83 => ?_) (fun c83 => ?_)
                  · replace hf := qi_f c83 hf
                    refine lv_iconst (v := (nI 0)) F.1 F.2.1 dL_isSo_163 (by decide) ?_
                    refine lv_istore (lv' := [(10, .int (nI 0)), (6, .int z49), (14, .int r9), (12, .long z7), (0, .ref (qw_ad L 8 0)), (1, .ref (qw_ad L 9 1)), (2, .ref (qw_ad L 9 2)), (3, .ref (qw_ad L 9 3)), (4, .ref (qw_ad L 9 5)), (5, .ref (qw_ad L 9 6)), (7, .int x7), (8, .int x8), (9, .int x9), (11, .int x11)]) F.1 F.2.1 dL_isSo_164 hl (by decide) rfl (fun ls hl => ?_)
                    obtain ⟨z84, ez84, hf⟩ := qn_x hf
                    refine lv_iinc (v := z84) (lv' := [(11, .int z84), (10, .int (nI 0)), (6, .int z49), (14, .int r9), (12, .long z7), (0, .ref (qw_ad L 8 0)), (1, .ref (qw_ad L 9 1)), (2, .ref (qw_ad L 9 2)), (3, .ref (qw_ad L 9 3)), (4, .ref (qw_ad L 9 5)), (5, .ref (qw_ad L 9 6)), (7, .int x7), (8, .int x8), (9, .int x9)]) F.1 F.2.1 dL_isSo_166 hl (k := 13) rfl ((qw_ii1 _).trans ez84.symm) (by decide) rfl (fun ls hl => ?_)
                    refine lv_goto (tgt := 19) F.1 F.2.1 dL_isSo_169 (by decide) ?_
                    exact ih _ _ _ _ _ _ _ _ _ hf hP hS (lv_sub hl [5, 6, 7, 8, 9, 10, 2, 11, 12, 13, 1, 0] rfl)
                  · replace hf := qi_t c83 hf
                    refine lv_iconst (v := (nI 1)) F.1 F.2.1 dL_isSo_159 (by decide) ?_
                    refine lv_goto (tgt := 164) F.1 F.2.1 dL_isSo_160 (by decide) ?_
                    refine lv_istore (lv' := [(10, .int (nI 1)), (6, .int z49), (14, .int r9), (12, .long z7), (0, .ref (qw_ad L 8 0)), (1, .ref (qw_ad L 9 1)), (2, .ref (qw_ad L 9 2)), (3, .ref (qw_ad L 9 3)), (4, .ref (qw_ad L 9 5)), (5, .ref (qw_ad L 9 6)), (7, .int x7), (8, .int x8), (9, .int x9), (11, .int x11)]) F.1 F.2.1 dL_isSo_164 hl (by decide) rfl (fun ls hl => ?_)
                    obtain ⟨z85, ez85, hf⟩ := qn_x hf
                    refine lv_iinc (v := z85) (lv' := [(11, .int z85), (10, .int (nI 1)), (6, .int z49), (14, .int r9), (12, .long z7), (0, .ref (qw_ad L 8 0)), (1, .ref (qw_ad L 9 1)), (2, .ref (qw_ad L 9 2)), (3, .ref (qw_ad L 9 3)), (4, .ref (qw_ad L 9 5)), (5, .ref (qw_ad L 9 6)), (7, .int x7), (8, .int x8), (9, .int x9)]) F.1 F.2.1 dL_isSo_166 hl (k := 13) rfl ((qw_ii1 _).trans ez85.symm) (by decide) rfl (fun ls hl => ?_)
                    refine lv_goto (tgt := 19) F.1 F.2.1 dL_isSo_169 (by decide) ?_
                    exact ih _ _ _ _ _ _ _ _ _ hf hP hS (lv_sub hl [5, 6, 7, 8, 9, 10, 2, 11, 12, 13, 1, 0] rfl)
set_option maxRecDepth 100000 in
set_option maxHeartbeats 4000000 in
theorem qb_L_isSo {p : Program} {l : Launch} {e : Env} {s : State} {mi : MethodId} {args : Array Value} {below : List Frame} {meth : Method} {co : Code} {Q : State → Prop} {L : wL} {r : Int32} {M : wM} {h : (Nat → Nat)} (F : CallFix p mi co cL_isSo 15 s args wsL_isSo RL) (G : qw_G L (qw_A L) s) (hv : qw_R L) (hv9 : qw_9 L) (hQ : qw_RI p l e rm_L_isSo s mi args below meth co cL_isSo .boolean Q L r M h) : ∀ (H : Heap) (locs : List Loc) (ls : Array Slot), qf_L_isSo M h = some r → qw_P L M h H → va_S (qw_A L) s.heap H locs → lv_has ls 15 [(0, .ref (qw_ad L 8 0)), (1, .ref (qw_ad L 9 1)), (2, .ref (qw_ad L 9 2)), (3, .ref (qw_ad L 9 3)), (4, .ref (qw_ad L 9 5)), (5, .ref (qw_ad L 9 6))] → W p l e rm_L_isSo s mi args below meth co H locs 0 0 Q (F0 mi 0 ls []) := by
  intro  H locs ls hf hP hS hl
  unfold qf_L_isSo at hf
  refine lv_iconst (v := (nI 0)) F.1 F.2.1 dL_isSo_0 (by decide) ?_
  refine lv_istore (lv' := [(6, .int (nI 0)), (0, .ref (qw_ad L 8 0)), (1, .ref (qw_ad L 9 1)), (2, .ref (qw_ad L 9 2)), (3, .ref (qw_ad L 9 3)), (4, .ref (qw_ad L 9 5)), (5, .ref (qw_ad L 9 6))]) F.1 F.2.1 dL_isSo_1 hl (by decide) rfl (fun ls hl => ?_)
  refine lv_iconst (v := (nI 0)) F.1 F.2.1 dL_isSo_3 (by decide) ?_
  refine lv_istore (lv' := [(7, .int (nI 0)), (6, .int (nI 0)), (0, .ref (qw_ad L 8 0)), (1, .ref (qw_ad L 9 1)), (2, .ref (qw_ad L 9 2)), (3, .ref (qw_ad L 9 3)), (4, .ref (qw_ad L 9 5)), (5, .ref (qw_ad L 9 6))]) F.1 F.2.1 dL_isSo_4 hl (by decide) rfl (fun ls hl => ?_)
  refine lv_bipush (v := (-9 : Int32)) F.1 F.2.1 dL_isSo_6 (by decide) ?_
  refine lv_istore (lv' := [(8, .int (-9 : Int32)), (7, .int (nI 0)), (6, .int (nI 0)), (0, .ref (qw_ad L 8 0)), (1, .ref (qw_ad L 9 1)), (2, .ref (qw_ad L 9 2)), (3, .ref (qw_ad L 9 3)), (4, .ref (qw_ad L 9 5)), (5, .ref (qw_ad L 9 6))]) F.1 F.2.1 dL_isSo_8 hl (by decide) rfl (fun ls hl => ?_)
  refine lv_iconst (v := (nI 0)) F.1 F.2.1 dL_isSo_10 (by decide) ?_
  refine lv_istore (lv' := [(9, .int (nI 0)), (8, .int (-9 : Int32)), (7, .int (nI 0)), (6, .int (nI 0)), (0, .ref (qw_ad L 8 0)), (1, .ref (qw_ad L 9 1)), (2, .ref (qw_ad L 9 2)), (3, .ref (qw_ad L 9 3)), (4, .ref (qw_ad L 9 5)), (5, .ref (qw_ad L 9 6))]) F.1 F.2.1 dL_isSo_11 hl (by decide) rfl (fun ls hl => ?_)
  refine lv_iconst (v := (nI 1)) F.1 F.2.1 dL_isSo_13 (by decide) ?_
  refine lv_istore (lv' := [(10, .int (nI 1)), (9, .int (nI 0)), (8, .int (-9 : Int32)), (7, .int (nI 0)), (6, .int (nI 0)), (0, .ref (qw_ad L 8 0)), (1, .ref (qw_ad L 9 1)), (2, .ref (qw_ad L 9 2)), (3, .ref (qw_ad L 9 3)), (4, .ref (qw_ad L 9 5)), (5, .ref (qw_ad L 9 6))]) F.1 F.2.1 dL_isSo_14 hl (by decide) rfl (fun ls hl => ?_)
  refine lv_iconst (v := (nI 0)) F.1 F.2.1 dL_isSo_16 (by decide) ?_
  refine lv_istore (lv' := [(11, .int (nI 0)), (10, .int (nI 1)), (9, .int (nI 0)), (8, .int (-9 : Int32)), (7, .int (nI 0)), (6, .int (nI 0)), (0, .ref (qw_ad L 8 0)), (1, .ref (qw_ad L 9 1)), (2, .ref (qw_ad L 9 2)), (3, .ref (qw_ad L 9 3)), (4, .ref (qw_ad L 9 5)), (5, .ref (qw_ad L 9 6))]) F.1 F.2.1 dL_isSo_17 hl (by decide) rfl (fun ls hl => ?_)
  exact qb_L_isSo_19 F G hv hv9 hQ _ _ _ _ _ _ _ _ _ _ hf hP hS (lv_sub hl [6, 7, 8, 9, 10, 11, 5, 4, 3, 2, 1, 0] rfl)
set_option maxRecDepth 100000 in
set_option maxHeartbeats 4000000 in
theorem qc_L_isSo (l : Launch) {L : wL} (hJ : qw_J L) {M : wM} {h : Nat → Nat} {r : Int32} (hv : qw_R L) (hv9 : qw_9 L) (hf : qf_L_isSo M h = some r) : qw_MI l yL_isSo wsL_isSo rm_L_isSo L [.ref (qw_ad L 8 0), .ref (qw_ad L 9 1), .ref (qw_ad L 9 2), .ref (qw_ad L 9 3), .ref (qw_ad L 9 5), .ref (qw_ad L 9 6)] M h r M h := by
  refine qw_MI_of (cc := cL_isSo) (maxL := 15) (ty := .boolean) (by decide) rfl hJ (Nat.le_of_ble_eq_true rfl) ?_
  intro p e s mi below meth co Q ls F G hP hQ hl
  exact qb_L_isSo F G hv hv9 hQ _ _ _ hf hP va_S.rf hl
