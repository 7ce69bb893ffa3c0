def rm_X1_init : Room := { frames := 1, cells := 1, slots := 120, locals := 12 }
def qz_F1 : List Value := [.null, .int 0, .int 0]
def qz_X (cI : ClassId) (x q : Nat) : va_W := [(x, .inr (1, [.ref q, .int 0, .int 0])), (q, qz_int cI 120)]
set_option maxRecDepth 100000 in
set_option maxHeartbeats 4000000 in
theorem qc_X1_init (l : Launch) (D : va_G) (cI cS cT : ClassId) (a sz : Nat) : Met l yX1_init wsX1_init rm_X1_init (va_Pc [.ref a] (fun U => U.heap.size = sz ∧ va_P D vwCl [(a, .inr (1, qz_F1))] U.heap ∧ qz_K D cI cS cT U)) (va_Qv (fun _ : Nat => True) (fun u t => va_P D vwCl (qz_X cI a u) t.heap ∧ va_D (va_A [(a, .inr (1, qz_F1))] sz) (qz_X cI a u)) (va_A [(a, .inr (1, qz_F1))] sz)) 1 120 (va_A [(a, .inr (1, qz_F1))] sz) := by
  refine Met.ofW (cc := cX1_init) (maxL := 1) (ret := none) (by decide) rfl ?_
  intro p e s m args below meth c s₁ B hml hv
  obtain ⟨rfl, hsz, hP, K⟩ := hv
  have hts := atoms_spec (ws := wsX1_init) B.pre
  have hown : s.vm.findClass RX1 = some m.cls := findClass_of_methodNamed B.named
  have hlocks := B.notSynchronized
  have hin : meth.name = "<init>" := (name_of_methodNamed B.named B.method).1
  have F : CallFix p m c cX1_init 1 s [Value.ref a].toArray wsX1_init RX1 := ⟨B.exec, B.bytes, hml, hown, hts⟩
  have hw : ∀ w ∈ wsX10, w.before [Value.ref a].toArray s = true := fun w h => hts w (List.mem_cons_of_mem _ (List.mem_append_right _ h))
  subst hsz
  have hD : va_D (va_A [(a, .inr (1, qz_F1))] s.heap.size) [(a, .inr (1, qz_F1))] := qz_D1 (Or.inl ⟨0, _, rfl⟩)
  generalize hAe : va_A [(a, .inr (1, qz_F1))] s.heap.size = A at hD ⊢
  have hA : ∀ q : Nat, s.heap.size ≤ q → A q := fun q h => by rw [← hAe]; exact Or.inr h
  have hS : va_S A s.heap s.heap [] := va_S.rf
  have hP : va_P D vwCl [(a, .inr (1, qz_F1))] s.heap := hP
  have hl := lv_entry ([.ref a]) (n := 1) (Nat.le_of_ble_eq_true rfl)
  rw [lg_entry_eq]
  generalize (lg_sl ([.ref a]) ++ List.replicate (1 - (lg_sl ([.ref a])).length) Slot.unset).toArray = ls at hl ⊢
  have hl : lv_has ls 1 [(0, .ref a)] := hl
  refine lv_aload_n F.1 F.2.1 dX1_init_0 rfl (lv_at hl 0 rfl) ?_
  refine W.objInit F.1 F.2.1 hown (hts _ (List.mem_of_getElem? (i := 1) rfl)) (hts _ (List.mem_of_getElem? (i := 2) rfl)) (hts _ (List.mem_of_getElem? (i := 3) rfl)) rfl (by rw [hml]; exact hl.1) rfl dX1_init_1 (Nat.le_of_ble_eq_true rfl) (Nat.le_of_ble_eq_true rfl) ?_
  refine W.eq (g2 := F0 m 4 ls []) rfl ?_
  refine lv_aload_n F.1 F.2.1 dX1_init_4 rfl (lv_at hl 0 rfl) ?_
  refine lv_bipush (v := (120 : Int32)) F.1 F.2.1 dX1_init_5 (by decide) ?_
  refine qz_newa (N' := 120) F K (List.mem_of_getElem? (i := 4) rfl) hP hD hS hA (by decide) (by decide) (Nat.le_of_ble_eq_true rfl) (Nat.le_of_ble_eq_true rfl) (Nat.le_of_ble_eq_true rfl) dX1_init_7 (fun q H hP hD hS => ?_)
  refine qz_put (q := q) (ty := .array .int) (C := RX1) (T := TX1) (N := 3) (ci := 1) (Ws := wsX10) F hw tyX1 tyX1_ok nmX1 K hP hD hS rfl 0 (by decide) (List.mem_of_getElem? (i := 5) rfl) rfl rfl hin rfl (by decide +kernel) rfl rfl (Nat.le_of_ble_eq_true rfl) dX1_init_9 (fun H locs hP hD hS => ?_)
  have hP9 : va_P D vwCl (qz_X cI a q) H := hP
  have hD9 : va_D A (qz_X cI a q) := hD
  exact W.vret B.exec B.bytes B.returns (fun t ht hW => ⟨⟨q, rfl, trivial, by rw [ht]; exact hP9, hD9⟩, hS.F ht⟩) hS.2.2 dX1_init_12
/-! the reference's -/
def qz_F3 : List Value := [.null, .null, .null, .int 0, .int 0, .null, .int 0, .int 0, .int 0, .null, .null]
def qz_o9 : List Nat := [0, 1, 2, 3, 4, 5, 6]
def qz_c9 (cI : ClassId) (a : Nat → Nat) (m : wm) (c : Nat) : va_E :=
  if c = 0 then .inr (3, [.ref (a 1), .ref (a 2), .ref (a 3), .int (m 0 3), .int (m 0 4), .ref (a 4), .int (m 0 6), .int (m 0 7), .int (m 0 8), .ref (a 5), .ref (a 6)])
  else .inl (cI, qw_ln9 c, .inl (m c))
def qz_M (cI : ClassId) (a : Nat → Nat) (m : wm) : va_W := qz_o9.map (fun c => (a c, qz_c9 cI a m c))
theorem qz_c9_w {L : wL} {M : wM} {hp : Nat → Nat} {c : Nat} : qw_ct L M hp 9 c = qz_c9 L.2.1 (qw_ad L 9) (M 9) c := by
  unfold qw_ct qz_c9
  rw [if_neg (by decide), if_neg (by decide)]
  by_cases h0 : c = 0
  · rw [if_pos h0, if_pos h0]
  · rw [if_neg h0, if_neg h0]
    rfl
theorem qz_M_w {L : wL} {M : wM} {hp : Nat → Nat} : (qz_o9.map (fun c => (9, c))).map (fun q => (qw_ad L q.1 q.2, qw_ct L M hp q.1 q.2)) = qz_M L.2.1 (qw_ad L 9) (M 9) := by
  unfold qz_M
  rw [List.map_map]
  apply List.map_congr_left
  intro c _
  show (qw_ad L 9 c, qw_ct L M hp 9 c) = _
  rw [qz_c9_w]
def qz_mR : wm := qx_beg 8 (fun _ _ => 0)
def qz_L9 (D : va_G) (cI cS cT : ClassId) (a : Nat → Nat) : wL := (D, cI, cS, cT, fun _ c => a c, qz_o9.map (fun c => (9, c)))
theorem qz_L9k (D : va_G) (cI cS cT : ClassId) (a : Nat → Nat) : qw_9 (qz_L9 D cI cS cT a) := by
  intro c hc
  show (9, c) ∈ qz_o9.map (fun c => (9, c))
  refine List.mem_map.mpr ⟨c, ?_, rfl⟩
  have all : ∀ c : Nat, c < 7 → c ∈ qz_o9 := by decide +kernel
  exact all c hc
def qz_a9 (a q1 q2 q3 q4 q5 q6 : Nat) (c : Nat) : Nat := if c = 0 then a else if c = 1 then q1 else if c = 2 then q2 else if c = 3 then q3 else if c = 4 then q4 else if c = 5 then q5 else q6
def rm_X3_init : Room := { frames := rm_X3_begins.frames + 1, cells := 6, slots := 6721, locals := 23 + rm_X3_begins.locals }
set_option maxRecDepth 100000 in
set_option maxHeartbeats 4000000 in
theorem qc_X3_init (l : Launch) (D : va_G) (cI cS cT : ClassId) (a sz : Nat) : Met l yX3_init wsX3_init rm_X3_init (va_Pc [.ref a] (fun U => U.heap.size = sz ∧ va_P D vwCl [(a, .inr (3, qz_F3))] U.heap ∧ qz_K D cI cS cT U)) (va_Qv (fun u : Nat → Nat => u 0 = a) (fun u t => va_P D vwCl (qz_M cI u qz_mR) t.heap ∧ va_D (va_A [(a, .inr (3, qz_F3))] sz) (qz_M cI u qz_mR)) (va_A [(a, .inr (3, qz_F3))] sz)) 6 6721 (va_A [(a, .inr (3, qz_F3))] sz) := by
  refine Met.ofW (cc := cX3_init) (maxL := 1) (ret := none) (by decide) rfl ?_
  intro p e s m args below meth c s₁ B hml hv
  obtain ⟨rfl, hsz, hP, K⟩ := hv
  have hts := atoms_spec (ws := wsX3_init) B.pre
  have hown : s.vm.findClass RX3 = some m.cls := findClass_of_methodNamed B.named
  have hlocks := B.notSynchronized
  have hin : meth.name = "<init>" := (name_of_methodNamed B.named B.method).1
  have F : CallFix p m c cX3_init 1 s [Value.ref a].toArray wsX3_init RX3 := ⟨B.exec, B.bytes, hml, hown, hts⟩
  have hw : ∀ w ∈ wsX30, w.before [Value.ref a].toArray s = true := fun w h => hts w (List.mem_cons_of_mem _ (List.mem_append_right _ h))
  subst hsz
  have hD : va_D (va_A [(a, .inr (3, qz_F3))] s.heap.size) [(a, .inr (3, qz_F3))] := qz_D1 (Or.inl ⟨0, _, rfl⟩)
  generalize hAe : va_A [(a, .inr (3, qz_F3))] s.heap.size = A at hD ⊢
  have hA : ∀ q : Nat, s.heap.size ≤ q → A q := fun q h => by rw [← hAe]; exact Or.inr h
  have hS : va_S A s.heap s.heap [] := va_S.rf
  have hP : va_P D vwCl [(a, .inr (3, qz_F3))] s.heap := hP
  have hl := lv_entry ([.ref a]) (n := 1) (Nat.le_of_ble_eq_true rfl)
  rw [lg_entry_eq]
  generalize (lg_sl ([.ref a]) ++ List.replicate (1 - (lg_sl ([.ref a])).length) Slot.unset).toArray = ls at hl ⊢
  have hl : lv_has ls 1 [(0, .ref a)] := hl
  refine lv_aload_n F.1 F.2.1 dX3_init_0 rfl (lv_at hl 0 rfl) ?_
  refine W.objInit F.1 F.2.1 hown (hts _ (List.mem_of_getElem? (i := 1) rfl)) (hts _ (List.mem_of_getElem? (i := 2) rfl)) (hts _ (List.mem_of_getElem? (i := 3) rfl)) rfl (by rw [hml]; exact hl.1) rfl dX3_init_1 (Nat.le_of_ble_eq_true rfl) (Nat.le_of_ble_eq_true rfl) ?_
  refine W.eq (g2 := F0 m 4 ls []) rfl ?_
  refine lv_aload_n F.1 F.2.1 dX3_init_4 rfl (lv_at hl 0 rfl) ?_
  refine lv_sipush (v := (935 : Int32)) F.1 F.2.1 dX3_init_5 (by decide) ?_
  refine qz_newa (N' := 935) F K (List.mem_of_getElem? (i := 4) rfl) hP hD hS hA (by decide) (by decide) (Nat.le_of_ble_eq_true rfl) (Nat.le_of_ble_eq_true rfl) (Nat.le_of_ble_eq_true rfl) dX3_init_8 (fun q1 H hP hD hS => ?_)
  refine qz_put (q := q1) (ty := .array .int) (C := RX3) (T := TX3) (N := 11) (ci := 3) (Ws := wsX30) F hw tyX3 tyX3_ok nmX3 K hP hD hS rfl 0 (by decide) (List.mem_of_getElem? (i := 5) rfl) rfl rfl hin rfl (by decide +kernel) rfl rfl (Nat.le_of_ble_eq_true rfl) dX3_init_10 (fun H locs hP hD hS => ?_)
  refine lv_aload_n F.1 F.2.1 dX3_init_13 rfl (lv_at hl 0 rfl) ?_
  refine lv_sipush (v := (4675 : Int32)) F.1 F.2.1 dX3_init_14 (by decide) ?_
  refine qz_newa (N' := 4675) F K (List.mem_of_getElem? (i := 4) rfl) hP hD hS hA (by decide) (by decide) (Nat.le_of_ble_eq_true rfl) (Nat.le_of_ble_eq_true rfl) (Nat.le_of_ble_eq_true rfl) dX3_init_17 (fun q2 H hP hD hS => ?_)
  refine qz_put (q := q2) (ty := .array .int) (C := RX3) (T := TX3) (N := 11) (ci := 3) (Ws := wsX30) F hw tyX3 tyX3_ok nmX3 K hP hD hS rfl 1 (by decide) (List.mem_of_getElem? (i := 6) rfl) rfl rfl hin rfl (by decide +kernel) rfl rfl (Nat.le_of_ble_eq_true rfl) dX3_init_19 (fun H locs hP hD hS => ?_)
  refine lv_aload_n F.1 F.2.1 dX3_init_22 rfl (lv_at hl 0 rfl) ?_
  refine lv_sipush (v := (935 : Int32)) F.1 F.2.1 dX3_init_23 (by decide) ?_
  refine qz_newa (N' := 935) F K (List.mem_of_getElem? (i := 4) rfl) hP hD hS hA (by decide) (by decide) (Nat.le_of_ble_eq_true rfl) (Nat.le_of_ble_eq_true rfl) (Nat.le_of_ble_eq_true rfl) dX3_init_26 (fun q3 H hP hD hS => ?_)
  refine qz_put (q := q3) (ty := .array .int) (C := RX3) (T := TX3) (N := 11) (ci := 3) (Ws := wsX30) F hw tyX3 tyX3_ok nmX3 K hP hD hS rfl 2 (by decide) (List.mem_of_getElem? (i := 7) rfl) rfl rfl hin rfl (by decide +kernel) rfl rfl (Nat.le_of_ble_eq_true rfl) dX3_init_28 (fun H locs hP hD hS => ?_)
  refine lv_aload_n F.1 F.2.1 dX3_init_31 rfl (lv_at hl 0 rfl) ?_
  refine lv_bipush (v := (120 : Int32)) F.1 F.2.1 dX3_init_32 (by decide) ?_
  refine qz_newa (N' := 120) F K (List.mem_of_getElem? (i := 4) rfl) hP hD hS hA (by decide) (by decide) (Nat.le_of_ble_eq_true rfl) (Nat.le_of_ble_eq_true rfl) (Nat.le_of_ble_eq_true rfl) dX3_init_34 (fun q4 H hP hD hS => ?_)
  refine qz_put (q := q4) (ty := .array .int) (C := RX3) (T := TX3) (N := 11) (ci := 3) (Ws := wsX30) F hw tyX3 tyX3_ok nmX3 K hP hD hS rfl 5 (by decide) (List.mem_of_getElem? (i := 8) rfl) rfl rfl hin rfl (by decide +kernel) rfl rfl (Nat.le_of_ble_eq_true rfl) dX3_init_36 (fun H locs hP hD hS => ?_)
  refine lv_aload_n F.1 F.2.1 dX3_init_39 rfl (lv_at hl 0 rfl) ?_
  refine lv_bipush (v := (16 : Int32)) F.1 F.2.1 dX3_init_40 (by decide) ?_
  refine qz_newa (N' := 16) F K (List.mem_of_getElem? (i := 4) rfl) hP hD hS hA (by decide) (by decide) (Nat.le_of_ble_eq_true rfl) (Nat.le_of_ble_eq_true rfl) (Nat.le_of_ble_eq_true rfl) dX3_init_42 (fun q5 H hP hD hS => ?_)
  refine qz_put (q := q5) (ty := .array .int) (C := RX3) (T := TX3) (N := 11) (ci := 3) (Ws := wsX30) F hw tyX3 tyX3_ok nmX3 K hP hD hS rfl 9 (by decide) (List.mem_of_getElem? (i := 9) rfl) rfl rfl hin rfl (by decide +kernel) rfl rfl (Nat.le_of_ble_eq_true rfl) dX3_init_44 (fun H locs hP hD hS => ?_)
  refine lv_aload_n F.1 F.2.1 dX3_init_47 rfl (lv_at hl 0 rfl) ?_
  refine lv_bipush (v := (40 : Int32)) F.1 F.2.1 dX3_init_48 (by decide) ?_
  refine qz_newa (N' := 40) F K (List.mem_of_getElem? (i := 4) rfl) hP hD hS hA (by decide) (by decide) (Nat.le_of_ble_eq_true rfl) (Nat.le_of_ble_eq_true rfl) (Nat.le_of_ble_eq_true rfl) dX3_init_50 (fun q6 H hP hD hS => ?_)
  refine qz_put (q := q6) (ty := .array .int) (C := RX3) (T := TX3) (N := 11) (ci := 3) (Ws := wsX30) F hw tyX3 tyX3_ok nmX3 K hP hD hS rfl 10 (by decide) (List.mem_of_getElem? (i := 10) rfl) rfl rfl hin rfl (by decide +kernel) rfl rfl (Nat.le_of_ble_eq_true rfl) dX3_init_52 (fun H locs hP hD hS => ?_)
  generalize hu : qz_a9 a q1 q2 q3 q4 q5 q6 = u
  have eW : (a, (.inr (3, [.ref q1, .ref q2, .ref q3, .int 0, .int 0, .ref q4, .int 0, .int 0, .int 0, .ref q5, .ref q6]) : va_E)) :: ([] ++ [(q1, qz_int cI 935)] ++ [(q2, qz_int cI 4675)] ++ [(q3, qz_int cI 935)] ++ [(q4, qz_int cI 120)] ++ [(q5, qz_int cI 16)] ++ [(q6, qz_int cI 40)]) = qz_M cI u (fun _ _ => 0) := by
    subst hu
    rfl
  have hP : va_P D vwCl ((a, (.inr (3, [.ref q1, .ref q2, .ref q3, .int 0, .int 0, .ref q4, .int 0, .int 0, .int 0, .ref q5, .ref q6]) : va_E)) :: ([] ++ [(q1, qz_int cI 935)] ++ [(q2, qz_int cI 4675)] ++ [(q3, qz_int cI 935)] ++ [(q4, qz_int cI 120)] ++ [(q5, qz_int cI 16)] ++ [(q6, qz_int cI 40)])) H := hP
  have hD : va_D A ((a, (.inr (3, [.ref q1, .ref q2, .ref q3, .int 0, .int 0, .ref q4, .int 0, .int 0, .int 0, .ref q5, .ref q6]) : va_E)) :: ([] ++ [(q1, qz_int cI 935)] ++ [(q2, qz_int cI 4675)] ++ [(q3, qz_int cI 935)] ++ [(q4, qz_int cI 120)] ++ [(q5, qz_int cI 16)] ++ [(q6, qz_int cI 40)])) := hD
  rw [eW] at hP hD
  have hu0 : u 0 = a := by
    rw [← hu]
    rfl
  have eS : ∀ m9 : wm, qw_WD (qz_L9 D cI cS cT u) (fun _ => m9) id = qz_M cI u m9 := fun m9 => qz_M_w (L := qz_L9 D cI cS cT u) (M := fun _ => m9) (hp := id)
  have hJ : qw_J (qz_L9 D cI cS cT u) := qz_J (M := fun _ _ _ => 0) (hp := id) (A := A) (by show (qz_o9.map (fun c => (9, c))).Nodup; decide +kernel) (by rw [eS]; exact hD)
  have G : qw_G (qz_L9 D cI cS cT u) A s := ⟨K.1, hJ, fun k c h => by
    obtain ⟨n, hn⟩ := qw_ix h
    exact hD.2 n (u c, _) (by rw [← eS]; exact qw_get hn rfl)⟩
  have hPw : qw_P (qz_L9 D cI cS cT u) (fun _ _ _ => 0) id H := by
    unfold qw_P
    rw [eS]
    exact hP
  refine lv_aload_n F.1 F.2.1 dX3_init_55 rfl (lv_at hl 0 rfl) ?_
  refine lv_bipush (v := (8 : Int32)) F.1 F.2.1 dX3_init_56 (by decide) ?_
  refine W.eq (g2 := F0 m 58 ls [.int 8, .ref (qw_ad (qz_L9 D cI cS cT u) 9 0)]) (by show _ = F0 m 58 ls [.int 8, .ref (u 0)]; rw [hu0]) ?_
  have hnew : qf_X3_begins 8 (fun _ _ => 0) = some qz_mR := qm_begins (Z := 8) (by decide) (by decide)
  refine qr_cVv (rest := []) F G hPw hS (qc_X3_begins l hJ (X := fun _ _ _ => 0) (X9 := qw_u1 (fun _ _ _ => 0) 9 qz_mR) (h := id) rfl rfl (qz_L9k D cI cS cT u) hnew) (qw_rcM (qz_L9k D cI cS cT u)) gX3_init_X3_begins rfl ⟨rfl, rfl⟩ e_X3_begins ⟨Nat.le_of_ble_eq_true rfl, Nat.le_of_ble_eq_true rfl⟩ rfl hl.1 rfl (Nat.le_of_ble_eq_true rfl) ⟨Nat.le_of_ble_eq_true rfl, Nat.le_of_ble_eq_true rfl⟩ dX3_init_58 (fun H locs hP9 hS => ?_)
  have eS9 : qw_WD (qz_L9 D cI cS cT u) (qw_u1 (fun _ _ _ => 0) 9 qz_mR) id = qz_M cI u qz_mR := qz_M_w (L := qz_L9 D cI cS cT u) (M := qw_u1 (fun _ _ _ => 0) 9 qz_mR) (hp := id)
  have hP9 : va_P D vwCl (qz_M cI u qz_mR) H := by
    rw [← eS9]
    exact hP9
  have hD9 : va_D A (qz_M cI u qz_mR) := by
    have := qw_D (A := A) hJ G.2.2 (qw_u1 (fun _ _ _ => 0) 9 qz_mR) id
    rw [eS9] at this
    exact this
  exact W.vret B.exec B.bytes B.returns (fun t ht hW => ⟨⟨u, rfl, hu0, by rw [ht]; exact hP9, hD9⟩, hS.F ht⟩) hS.2.2 dX3_init_61
