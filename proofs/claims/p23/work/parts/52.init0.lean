def qz_ord : List Nat := [0, 1, 2, 3, 4, 8, 9, 10, 11, 12, 5, 13, 14, 15, 6, 16, 17, 18, 7, 19, 20, 21, 22, 23, 24]
def qz_ct (cI cT : ClassId) (a : Nat → Nat) (m : wm) (c : Nat) : va_E :=
  if c = 0 then .inr (0, [.int (m 0 0), .int (m 0 1), .int (m 0 2), .int (m 0 3), .int (m 0 4), .int (m 0 5), .int (m 0 6), .ref (a 1), .ref (a 2), .ref (a 3), .ref (a 4), .ref (a 5), .ref (a 6), .ref (a 7)])
  else if 4 ≤ c ∧ c < 8 then .inl (cT, qw_nr c, .inr (.inr (.inr (.inr (fun i => if i < qw_nr c then some (a (qw_rb c + i)) else none)))))
  else .inl (cI, qw_lnS c, .inl (m c))
def qz_S (cI cT : ClassId) (a : Nat → Nat) (m : wm) : va_W := qz_ord.map (fun c => (a c, qz_ct cI cT a m c))
theorem qz_ct_w {L : wL} {M : wM} {hp : Nat → Nat} {k c : Nat} (hk : k < 8) : qw_ct L M hp k c = qz_ct L.2.1 L.2.2.2.1 (qw_ad L k) (M k) c := by
  unfold qw_ct qz_ct
  rw [if_pos hk]
  by_cases h0 : c = 0
  · rw [if_pos h0, if_pos h0]
  · rw [if_neg h0, if_neg h0]
    by_cases h4 : 4 ≤ c ∧ c < 8
    · rw [if_pos h4, if_pos h4]
    · rw [if_neg h4, if_neg h4]
      unfold qw_ln
      rw [if_pos hk]
theorem qz_S_w {L : wL} {M : wM} {hp : Nat → Nat} {k : Nat} (hk : k < 8) : (qz_ord.map (fun c => (k, c))).map (fun q => (qw_ad L q.1 q.2, qw_ct L M hp q.1 q.2)) = qz_S L.2.1 L.2.2.2.1 (qw_ad L k) (M k) := by
  unfold qz_S
  rw [List.map_map]
  apply List.map_congr_left
  intro c _
  show (qw_ad L k c, qw_ct L M hp k c) = _
  rw [qz_ct_w hk]
/-- cells once each, and apart: the world's own words -/
theorem qz_J {L : wL} {M : wM} {hp : Nat → Nat} {A : Nat → Prop} (hn : (qw_cl L).Nodup) (hD : va_D A (qw_WD L M hp)) : qw_J L := by
  have hu : ∀ (i j : Nat) (x : Nat × Nat), (qw_cl L)[i]? = some x → (qw_cl L)[j]? = some x → i = j := by
    intro i j x hi hj
    obtain ⟨h1, e1⟩ := List.getElem?_eq_some_iff.mp hi
    obtain ⟨h2, e2⟩ := List.getElem?_eq_some_iff.mp hj
    have hw := List.pairwise_iff_getElem.mp hn
    rcases Nat.lt_trichotomy i j with h | h | h
    · exact absurd (e1.trans e2.symm) (hw i j h1 h2 h)
    · exact h
    · exact absurd (e2.trans e1.symm) (hw j i h2 h1 h)
  refine ⟨hu, fun k c k' c' h1 h2 e => ?_⟩
  obtain ⟨i, hi⟩ := qw_ix h1
  obtain ⟨j, hj⟩ := qw_ix h2
  have hij := hD.1 i j _ _ (qw_get hi (M := M) (hp := hp) rfl) (qw_get hj (M := M) (hp := hp) rfl) e
  subst hij
  have := Option.some.inj (hi.symm.trans hj)
  exact ⟨congrArg Prod.fst this, congrArg Prod.snd this⟩
theorem qz_D1 {A : Nat → Prop} {q : Nat} {e : va_E} (h : A q) : va_D A [(q, e)] := by
  refine ⟨fun i j x y hi hj _ => ?_, fun k x hk => ?_⟩
  · have h1 : i < 1 := (List.getElem?_eq_some_iff.mp hi).1
    have h2 : j < 1 := (List.getElem?_eq_some_iff.mp hj).1
    omega
  · have h1 : k < 1 := (List.getElem?_eq_some_iff.mp hk).1
    rw [show k = 0 by omega] at hk
    cases hk
    exact h
def qz_mF : wm := qx_new 8 (fun _ _ => 0)
def qz_F0 : List Value := [.int 0, .int 0, .int 0, .int 0, .int 0, .int 0, .int 0, .null, .null, .null, .null, .null, .null, .null]
def qz_ad (a q1 q2 q3 q4 q5 q6 q7 : Nat) (r4 r5 r6 r7 : Nat → Nat) (c : Nat) : Nat :=
  if c < 8 then (if c = 0 then a else if c = 1 then q1 else if c = 2 then q2 else if c = 3 then q3 else if c = 4 then q4 else if c = 5 then q5 else if c = 6 then q6 else q7)
  else if c < 13 then r4 (c - 8) else if c < 16 then r5 (c - 13) else if c < 19 then r6 (c - 16) else r7 (c - 19)
theorem qz_ad4 (a q1 q2 q3 q4 q5 q6 q7 : Nat) (r4 r5 r6 r7 : Nat → Nat) : (fun i => if i < 5 then some (r4 i) else none) = (fun i => if i < qw_nr 4 then some (qz_ad a q1 q2 q3 q4 q5 q6 q7 r4 r5 r6 r7 (qw_rb 4 + i)) else none) := by
  funext i
  have e1 : qw_nr 4 = 5 := rfl
  have e2 : qw_rb 4 = 8 := rfl
  rw [e1, e2]
  by_cases h : i < 5
  · rw [if_pos h, if_pos h]
    unfold qz_ad
    rw [if_neg (by omega), if_pos (by omega), Nat.add_sub_cancel_left]
  · rw [if_neg h, if_neg h]
theorem qz_ad5 (a q1 q2 q3 q4 q5 q6 q7 : Nat) (r4 r5 r6 r7 : Nat → Nat) : (fun i => if i < 3 then some (r5 i) else none) = (fun i => if i < qw_nr 5 then some (qz_ad a q1 q2 q3 q4 q5 q6 q7 r4 r5 r6 r7 (qw_rb 5 + i)) else none) := by
  funext i
  have e1 : qw_nr 5 = 3 := rfl
  have e2 : qw_rb 5 = 13 := rfl
  rw [e1, e2]
  by_cases h : i < 3
  · rw [if_pos h, if_pos h]
    unfold qz_ad
    rw [if_neg (by omega), if_neg (by omega), if_pos (by omega), Nat.add_sub_cancel_left]
  · rw [if_neg h, if_neg h]
theorem qz_ad6 (a q1 q2 q3 q4 q5 q6 q7 : Nat) (r4 r5 r6 r7 : Nat → Nat) : (fun i => if i < 3 then some (r6 i) else none) = (fun i => if i < qw_nr 6 then some (qz_ad a q1 q2 q3 q4 q5 q6 q7 r4 r5 r6 r7 (qw_rb 6 + i)) else none) := by
  funext i
  have e1 : qw_nr 6 = 3 := rfl
  have e2 : qw_rb 6 = 16 := rfl
  rw [e1, e2]
  by_cases h : i < 3
  · rw [if_pos h, if_pos h]
    unfold qz_ad
    rw [if_neg (by omega), if_neg (by omega), if_neg (by omega), if_pos (by omega), Nat.add_sub_cancel_left]
  · rw [if_neg h, if_neg h]
theorem qz_ad7 (a q1 q2 q3 q4 q5 q6 q7 : Nat) (r4 r5 r6 r7 : Nat → Nat) : (fun i => if i < 6 then some (r7 i) else none) = (fun i => if i < qw_nr 7 then some (qz_ad a q1 q2 q3 q4 q5 q6 q7 r4 r5 r6 r7 (qw_rb 7 + i)) else none) := by
  funext i
  have e1 : qw_nr 7 = 6 := rfl
  have e2 : qw_rb 7 = 19 := rfl
  rw [e1, e2]
  by_cases h : i < 6
  · rw [if_pos h, if_pos h]
    unfold qz_ad
    rw [if_neg (by omega), if_neg (by omega), if_neg (by omega), if_neg (by omega), Nat.add_sub_cancel_left]
  · rw [if_neg h, if_neg h]
def qz_L (D : va_G) (cI cS cT cJ : ClassId) (a : Nat → Nat) : wL := (D, cI, cS, cT, cJ, fun _ c => a c, qz_ord.map (fun c => (0, c)))
theorem qz_Lk (D : va_G) (cI cS cT cJ : ClassId) (a : Nat → Nat) : qw_k (qz_L D cI cS cT cJ a) 0 := by
  refine ⟨by decide, fun c hc => ?_⟩
  show (0, c) ∈ qz_ord.map (fun c => (0, c))
  refine List.mem_map.mpr ⟨c, ?_, rfl⟩
  have all : ∀ c : Nat, c < 25 → c ∈ qz_ord := by decide +kernel
  exact all c hc
def rm_X0_init : Room := { frames := 2, cells := 24, slots := 1145, locals := 44 }
theorem e_X0_init : yX0_init.cls = RX0 ∧ yX0_init.cls ≠ "java/lang/invoke/MethodHandle" ∧ yX0_init.cls ≠ "java/lang/invoke/VarHandle" ∧ (parseMethodDescriptor yX0_init.desc).map (fun d => d.parameters.length) = some 0 := by decide +kernel
set_option maxRecDepth 100000 in
set_option maxHeartbeats 4000000 in
theorem qc_X0_init (l : Launch) (D : va_G) (cI cS cT cJ : ClassId) (a sz : Nat) : Met l yX0_init wsX0_init rm_X0_init (va_Pc [.ref a] (fun U => U.heap.size = sz ∧ va_P D vwCl [(a, .inr (0, qz_F0))] U.heap ∧ qz_K D cI cS cT cJ U)) (va_Qv (fun u : Nat → Nat => u 0 = a) (fun u t => va_P D vwCl (qz_S cI cT u qz_mF) t.heap ∧ va_D (va_A [(a, .inr (0, qz_F0))] sz) (qz_S cI cT u qz_mF)) (va_A [(a, .inr (0, qz_F0))] sz)) 24 1145 (va_A [(a, .inr (0, qz_F0))] sz) := by
  refine Met.ofW (cc := cX0_init) (maxL := 1) (ret := none) (by decide) rfl ?_
  intro p e s m args below meth c s₁ B hml hv
  obtain ⟨rfl, hsz, hP, K⟩ := hv
  have hts := atoms_spec (ws := wsX0_init) B.pre
  have hown : s.vm.findClass RX0 = some m.cls := findClass_of_methodNamed B.named
  have hlocks := B.notSynchronized
  have hin : meth.name = "<init>" := (name_of_methodNamed B.named B.method).1
  have F : CallFix p m c cX0_init 1 s [Value.ref a].toArray wsX0_init RX0 := ⟨B.exec, B.bytes, hml, hown, hts⟩
  have hw : ∀ w ∈ wsX00, w.before [Value.ref a].toArray s = true := fun w h => hts w (List.mem_cons_of_mem _ (List.mem_append_right _ h))
  subst hsz
  have hD : va_D (va_A [(a, .inr (0, qz_F0))] s.heap.size) [(a, .inr (0, qz_F0))] := qz_D1 (Or.inl ⟨0, _, rfl⟩)
  generalize hAe : va_A [(a, .inr (0, qz_F0))] s.heap.size = A at hD ⊢
  have hA : ∀ q : Nat, s.heap.size ≤ q → A q := fun q h => by rw [← hAe]; exact Or.inr h
  have hS : va_S A s.heap s.heap [] := va_S.rf
  have hP : va_P D vwCl [(a, .inr (0, qz_F0))] s.heap := hP
  have hl := lv_entry ([.ref a]) (n := 1) (Nat.le_of_ble_eq_true rfl)
  rw [lg_entry_eq]
  generalize (lg_sl ([.ref a]) ++ List.replicate (1 - (lg_sl ([.ref a])).length) Slot.unset).toArray = ls at hl ⊢
  have hl : lv_has ls 1 [(0, .ref a)] := hl
  refine lv_aload_n F.1 F.2.1 dX0_init_0 rfl (lv_at hl 0 rfl) ?_
  refine W.objInit F.1 F.2.1 hown (hts _ (List.mem_of_getElem? (i := 1) rfl)) (hts _ (List.mem_of_getElem? (i := 2) rfl)) (hts _ (List.mem_of_getElem? (i := 3) rfl)) rfl (by rw [hml]; exact hl.1) rfl dX0_init_1 (Nat.le_of_ble_eq_true rfl) (Nat.le_of_ble_eq_true rfl) ?_
  refine W.eq (g2 := F0 m 4 ls []) rfl ?_
  refine lv_aload_n F.1 F.2.1 dX0_init_4 rfl (lv_at hl 0 rfl) ?_
  refine lv_iconst (v := (4 : Int32)) F.1 F.2.1 dX0_init_5 (by decide) ?_
  refine qz_newa (N' := 4) F K (List.mem_of_getElem? (i := 4) rfl) hP hD hS hA (by decide) (by decide) (Nat.le_of_ble_eq_true rfl) (Nat.le_of_ble_eq_true rfl) (Nat.le_of_ble_eq_true rfl) dX0_init_6 (fun q1 H hP hD hS => ?_)
  refine qz_put (q := q1) (ty := .array .int) (C := RX0) (T := TX0) (N := 14) (ci := 0) (Ws := wsX00) F hw tyX0 tyX0_ok nmX0 K hP hD hS rfl 7 (by decide) (List.mem_of_getElem? (i := 5) rfl) rfl rfl hin rfl (by decide +kernel) rfl rfl (Nat.le_of_ble_eq_true rfl) dX0_init_8 (fun H locs hP hD hS => ?_)
  refine lv_aload_n F.1 F.2.1 dX0_init_11 rfl (lv_at hl 0 rfl) ?_
  refine lv_iconst (v := (4 : Int32)) F.1 F.2.1 dX0_init_12 (by decide) ?_
  refine qz_newa (N' := 4) F K (List.mem_of_getElem? (i := 4) rfl) hP hD hS hA (by decide) (by decide) (Nat.le_of_ble_eq_true rfl) (Nat.le_of_ble_eq_true rfl) (Nat.le_of_ble_eq_true rfl) dX0_init_13 (fun q2 H hP hD hS => ?_)
  refine qz_put (q := q2) (ty := .array .int) (C := RX0) (T := TX0) (N := 14) (ci := 0) (Ws := wsX00) F hw tyX0 tyX0_ok nmX0 K hP hD hS rfl 8 (by decide) (List.mem_of_getElem? (i := 6) rfl) rfl rfl hin rfl (by decide +kernel) rfl rfl (Nat.le_of_ble_eq_true rfl) dX0_init_15 (fun H locs hP hD hS => ?_)
  refine lv_aload_n F.1 F.2.1 dX0_init_18 rfl (lv_at hl 0 rfl) ?_
  refine lv_sipush (v := (200 : Int32)) F.1 F.2.1 dX0_init_19 (by decide) ?_
  refine qz_newa (N' := 200) F K (List.mem_of_getElem? (i := 4) rfl) hP hD hS hA (by decide) (by decide) (Nat.le_of_ble_eq_true rfl) (Nat.le_of_ble_eq_true rfl) (Nat.le_of_ble_eq_true rfl) dX0_init_22 (fun q3 H hP hD hS => ?_)
  refine qz_put (q := q3) (ty := .array .int) (C := RX0) (T := TX0) (N := 14) (ci := 0) (Ws := wsX00) F hw tyX0 tyX0_ok nmX0 K hP hD hS rfl 9 (by decide) (List.mem_of_getElem? (i := 7) rfl) rfl rfl hin rfl (by decide +kernel) rfl rfl (Nat.le_of_ble_eq_true rfl) dX0_init_24 (fun H locs hP hD hS => ?_)
  refine lv_aload_n F.1 F.2.1 dX0_init_27 rfl (lv_at hl 0 rfl) ?_
  refine lv_iconst (v := (5 : Int32)) F.1 F.2.1 dX0_init_28 (by decide) ?_
  refine lv_bipush (v := (40 : Int32)) F.1 F.2.1 dX0_init_29 (by decide) ?_
  refine qz_mna (N' := 5) (K' := 40) F K (List.mem_of_getElem? (i := 8) rfl) (List.mem_of_getElem? (i := 4) rfl) hP hD hS hA (by decide) (by decide) (by decide) (by decide) (Nat.le_of_ble_eq_true rfl) (Nat.le_of_ble_eq_true rfl) (Nat.le_of_ble_eq_true rfl) (Nat.le_of_ble_eq_true rfl) dX0_init_31 (fun q4 r4 H hP hD hS => ?_)
  refine qz_put (q := q4) (ty := .array (.array .int)) (C := RX0) (T := TX0) (N := 14) (ci := 0) (Ws := wsX00) F hw tyX0 tyX0_ok nmX0 K hP hD hS rfl 10 (by decide) (List.mem_of_getElem? (i := 9) rfl) rfl rfl hin rfl (by decide +kernel) rfl rfl (Nat.le_of_ble_eq_true rfl) dX0_init_35 (fun H locs hP hD hS => ?_)
  refine lv_aload_n F.1 F.2.1 dX0_init_38 rfl (lv_at hl 0 rfl) ?_
  refine lv_iconst (v := (3 : Int32)) F.1 F.2.1 dX0_init_39 (by decide) ?_
  refine lv_bipush (v := (16 : Int32)) F.1 F.2.1 dX0_init_40 (by decide) ?_
  refine qz_mna (N' := 3) (K' := 16) F K (List.mem_of_getElem? (i := 8) rfl) (List.mem_of_getElem? (i := 4) rfl) hP hD hS hA (by decide) (by decide) (by decide) (by decide) (Nat.le_of_ble_eq_true rfl) (Nat.le_of_ble_eq_true rfl) (Nat.le_of_ble_eq_true rfl) (Nat.le_of_ble_eq_true rfl) dX0_init_42 (fun q5 r5 H hP hD hS => ?_)
  refine qz_put (q := q5) (ty := .array (.array .int)) (C := RX0) (T := TX0) (N := 14) (ci := 0) (Ws := wsX00) F hw tyX0 tyX0_ok nmX0 K hP hD hS rfl 11 (by decide) (List.mem_of_getElem? (i := 10) rfl) rfl rfl hin rfl (by decide +kernel) rfl rfl (Nat.le_of_ble_eq_true rfl) dX0_init_46 (fun H locs hP hD hS => ?_)
  refine lv_aload_n F.1 F.2.1 dX0_init_49 rfl (lv_at hl 0 rfl) ?_
  refine lv_iconst (v := (3 : Int32)) F.1 F.2.1 dX0_init_50 (by decide) ?_
  refine lv_sipush (v := (200 : Int32)) F.1 F.2.1 dX0_init_51 (by decide) ?_
  refine qz_mna (N' := 3) (K' := 200) F K (List.mem_of_getElem? (i := 8) rfl) (List.mem_of_getElem? (i := 4) rfl) hP hD hS hA (by decide) (by decide) (by decide) (by decide) (Nat.le_of_ble_eq_true rfl) (Nat.le_of_ble_eq_true rfl) (Nat.le_of_ble_eq_true rfl) (Nat.le_of_ble_eq_true rfl) dX0_init_54 (fun q6 r6 H hP hD hS => ?_)
  refine qz_put (q := q6) (ty := .array (.array .int)) (C := RX0) (T := TX0) (N := 14) (ci := 0) (Ws := wsX00) F hw tyX0 tyX0_ok nmX0 K hP hD hS rfl 12 (by decide) (List.mem_of_getElem? (i := 11) rfl) rfl rfl hin rfl (by decide +kernel) rfl rfl (Nat.le_of_ble_eq_true rfl) dX0_init_58 (fun H locs hP hD hS => ?_)
  refine lv_aload_n F.1 F.2.1 dX0_init_61 rfl (lv_at hl 0 rfl) ?_
  refine lv_bipush (v := (6 : Int32)) F.1 F.2.1 dX0_init_62 (by decide) ?_
  refine lv_bipush (v := (12 : Int32)) F.1 F.2.1 dX0_init_64 (by decide) ?_
  refine qz_mna (N' := 6) (K' := 12) F K (List.mem_of_getElem? (i := 8) rfl) (List.mem_of_getElem? (i := 4) rfl) hP hD hS hA (by decide) (by decide) (by decide) (by decide) (Nat.le_of_ble_eq_true rfl) (Nat.le_of_ble_eq_true rfl) (Nat.le_of_ble_eq_true rfl) (Nat.le_of_ble_eq_true rfl) dX0_init_66 (fun q7 r7 H hP hD hS => ?_)
  refine qz_put (q := q7) (ty := .array (.array .int)) (C := RX0) (T := TX0) (N := 14) (ci := 0) (Ws := wsX00) F hw tyX0 tyX0_ok nmX0 K hP hD hS rfl 13 (by decide) (List.mem_of_getElem? (i := 12) rfl) rfl rfl hin rfl (by decide +kernel) rfl rfl (Nat.le_of_ble_eq_true rfl) dX0_init_70 (fun H locs hP hD hS => ?_)
  generalize hu : qz_ad a q1 q2 q3 q4 q5 q6 q7 r4 r5 r6 r7 = u
  have e4 := qz_ad4 a q1 q2 q3 q4 q5 q6 q7 r4 r5 r6 r7
  have e5 := qz_ad5 a q1 q2 q3 q4 q5 q6 q7 r4 r5 r6 r7
  have e6 := qz_ad6 a q1 q2 q3 q4 q5 q6 q7 r4 r5 r6 r7
  have e7 := qz_ad7 a q1 q2 q3 q4 q5 q6 q7 r4 r5 r6 r7
  have eW : (a, (.inr (0, [.int 0, .int 0, .int 0, .int 0, .int 0, .int 0, .int 0, .ref q1, .ref q2, .ref q3, .ref q4, .ref q5, .ref q6, .ref q7]) : va_E)) :: ([] ++ [(q1, qz_int cI 4)] ++ [(q2, qz_int cI 4)] ++ [(q3, qz_int cI 200)] ++ [(q4, .inl (cT, 5, .inr (.inr (.inr (.inr (fun i => if i < 5 then some (r4 i) else none))))))] ++ (List.range 5).map (fun i => (r4 i, qz_int cI 40)) ++ [(q5, .inl (cT, 3, .inr (.inr (.inr (.inr (fun i => if i < 3 then some (r5 i) else none))))))] ++ (List.range 3).map (fun i => (r5 i, qz_int cI 16)) ++ [(q6, .inl (cT, 3, .inr (.inr (.inr (.inr (fun i => if i < 3 then some (r6 i) else none))))))] ++ (List.range 3).map (fun i => (r6 i, qz_int cI 200)) ++ [(q7, .inl (cT, 6, .inr (.inr (.inr (.inr (fun i => if i < 6 then some (r7 i) else none))))))] ++ (List.range 6).map (fun i => (r7 i, qz_int cI 12))) = qz_S cI cT u (fun _ _ => 0) := by
    rw [e4, e5, e6, e7]
    subst hu
    rfl
  have hP : va_P D vwCl ((a, (.inr (0, [.int 0, .int 0, .int 0, .int 0, .int 0, .int 0, .int 0, .ref q1, .ref q2, .ref q3, .ref q4, .ref q5, .ref q6, .ref q7]) : va_E)) :: ([] ++ [(q1, qz_int cI 4)] ++ [(q2, qz_int cI 4)] ++ [(q3, qz_int cI 200)] ++ [(q4, .inl (cT, 5, .inr (.inr (.inr (.inr (fun i => if i < 5 then some (r4 i) else none))))))] ++ (List.range 5).map (fun i => (r4 i, qz_int cI 40)) ++ [(q5, .inl (cT, 3, .inr (.inr (.inr (.inr (fun i => if i < 3 then some (r5 i) else none))))))] ++ (List.range 3).map (fun i => (r5 i, qz_int cI 16)) ++ [(q6, .inl (cT, 3, .inr (.inr (.inr (.inr (fun i => if i < 3 then some (r6 i) else none))))))] ++ (List.range 3).map (fun i => (r6 i, qz_int cI 200)) ++ [(q7, .inl (cT, 6, .inr (.inr (.inr (.inr (fun i => if i < 6 then some (r7 i) else none))))))] ++ (List.range 6).map (fun i => (r7 i, qz_int cI 12)))) H := hP
  have hD : va_D A ((a, (.inr (0, [.int 0, .int 0, .int 0, .int 0, .int 0, .int 0, .int 0, .ref q1, .ref q2, .ref q3, .ref q4, .ref q5, .ref q6, .ref q7]) : va_E)) :: ([] ++ [(q1, qz_int cI 4)] ++ [(q2, qz_int cI 4)] ++ [(q3, qz_int cI 200)] ++ [(q4, .inl (cT, 5, .inr (.inr (.inr (.inr (fun i => if i < 5 then some (r4 i) else none))))))] ++ (List.range 5).map (fun i => (r4 i, qz_int cI 40)) ++ [(q5, .inl (cT, 3, .inr (.inr (.inr (.inr (fun i => if i < 3 then some (r5 i) else none))))))] ++ (List.range 3).map (fun i => (r5 i, qz_int cI 16)) ++ [(q6, .inl (cT, 3, .inr (.inr (.inr (.inr (fun i => if i < 3 then some (r6 i) else none))))))] ++ (List.range 3).map (fun i => (r6 i, qz_int cI 200)) ++ [(q7, .inl (cT, 6, .inr (.inr (.inr (.inr (fun i => if i < 6 then some (r7 i) else none))))))] ++ (List.range 6).map (fun i => (r7 i, qz_int cI 12)))) := hD
  rw [eW] at hP hD
  have hu0 : u 0 = a := by
    rw [← hu]
    rfl
  have eS : ∀ m9 : wm, qw_WD (qz_L D cI cS cT cJ u) (fun _ => m9) id = qz_S cI cT u m9 := fun m9 => qz_S_w (L := qz_L D cI cS cT cJ u) (M := fun _ => m9) (hp := id) (k := 0) (by decide)
  have hJ : qw_J (qz_L D cI cS cT cJ u) := qz_J (M := fun _ _ _ => 0) (hp := id) (A := A) (by show (qz_ord.map (fun c => (0, c))).Nodup; decide +kernel) (by rw [eS]; exact hD)
  have G : qw_G (qz_L D cI cS cT cJ u) A s := ⟨K.1, hJ, fun k c h => by
    obtain ⟨n, hn⟩ := qw_ix h
    exact hD.2 n (u c, _) (by rw [← eS]; exact qw_get hn rfl)⟩
  have hPw : qw_P (qz_L D cI cS cT cJ u) (fun _ _ _ => 0) id H := by
    unfold qw_P
    rw [eS]
    exact hP
  refine lv_aload_n F.1 F.2.1 dX0_init_73 rfl (lv_at hl 0 rfl) ?_
  refine lv_bipush (v := (8 : Int32)) F.1 F.2.1 dX0_init_74 (by decide) ?_
  refine W.eq (g2 := F0 m 76 ls [.int 8, .ref (qw_ad (qz_L D cI cS cT cJ u) 0 0)]) (by show _ = F0 m 76 ls [.int 8, .ref (u 0)]; rw [hu0]) ?_
  have hnew : qf_X0_beginAnew 8 (fun _ _ => 0) = some qz_mF := qe_new (Z := 8) (by decide) (by decide)
  refine qr_cVv (rest := []) F G hPw hS (qc_X0_beginAnew l hJ (X := fun _ _ _ => 0) (X9 := qw_u1 (fun _ _ _ => 0) 0 qz_mF) (h := id) rfl rfl (qz_Lk D cI cS cT cJ u) hnew) (qw_rcS (qz_Lk D cI cS cT cJ u)) gX0_init_X0_beginAnew rfl ⟨rfl, rfl⟩ e_X0_beginAnew ⟨Nat.le_of_ble_eq_true rfl, Nat.le_of_ble_eq_true rfl⟩ rfl hl.1 rfl (Nat.le_of_ble_eq_true rfl) ⟨Nat.le_of_ble_eq_true rfl, Nat.le_of_ble_eq_true rfl⟩ dX0_init_76 (fun H locs hP9 hS => ?_)
  have eS9 : qw_WD (qz_L D cI cS cT cJ u) (qw_u1 (fun _ _ _ => 0) 0 qz_mF) id = qz_S cI cT u qz_mF := qz_S_w (L := qz_L D cI cS cT cJ u) (M := qw_u1 (fun _ _ _ => 0) 0 qz_mF) (hp := id) (k := 0) (by decide)
  have hP9 : va_P D vwCl (qz_S cI cT u qz_mF) H := by
    rw [← eS9]
    exact hP9
  have hD9 : va_D A (qz_S cI cT u qz_mF) := by
    have := qw_D (A := A) hJ G.2.2 (qw_u1 (fun _ _ _ => 0) 0 qz_mF) id
    rw [eS9] at this
    exact this
  exact W.vret B.exec B.bytes B.returns (fun t ht hW => ⟨⟨u, rfl, hu0, by rw [ht]; exact hP9, hD9⟩, hS.F ht⟩) hS.2.2 dX0_init_79
