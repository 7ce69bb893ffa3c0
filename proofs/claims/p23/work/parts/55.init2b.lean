def qz_o (k : Nat) : List (Nat × Nat) := qz_ord.map (fun c => (k, c))
def qz_c8 : List (Nat × Nat) := (8, 0) :: (8, 1) :: ([] ++ qz_o 0 ++ qz_o 1 ++ qz_o 2 ++ [(8, 2), (8, 3)] ++ qz_o 3 ++ qz_o 4 ++ qz_o 5 ++ qz_o 6 ++ qz_o 7)
def qz_LR (D : va_G) (cI cS cT cJ : ClassId) (u : Nat → Nat → Nat) : wL := (D, cI, cS, cT, cJ, u, qz_c8)
def qz_MR : wM := fun k => if k < 8 then qz_mF else fun _ _ => 0
def qz_hR : Nat → Nat := fun i => i + 3
def qz_aR (u0 u1 u2 u3 u4 u5 u6 u7 : Nat → Nat) (b hA x q : Nat) (k c : Nat) : Nat :=
  if k = 0 then u0 c else if k = 1 then u1 c else if k = 2 then u2 c else if k = 3 then u3 c else if k = 4 then u4 c else if k = 5 then u5 c else if k = 6 then u6 c else if k = 7 then u7 c
  else if c = 0 then b else if c = 1 then hA else if c = 2 then x else q
theorem qz_hf (u0 u1 u2 u3 u4 u5 u6 u7 : Nat → Nat) (b hA x q : Nat) : va_up (va_up (va_up (va_up (va_up (fun _ => none) 0 (some (u3 0))) 1 (some (u4 0))) 2 (some (u5 0))) 3 (some (u6 0))) 4 (some (u7 0)) = (fun i => if i < 5 then some (qz_aR u0 u1 u2 u3 u4 u5 u6 u7 b hA x q (qz_hR i) 0) else none) := by
  funext i
  rcases (show i = 0 ∨ i = 1 ∨ i = 2 ∨ i = 3 ∨ i = 4 ∨ 5 ≤ i by omega) with rfl | rfl | rfl | rfl | rfl | h
  · rfl
  · rfl
  · rfl
  · rfl
  · rfl
  · rw [if_neg (show ¬ i < 5 by omega)]
    unfold va_up
    simp (disch := omega) only [if_neg]
def rm_X2_init : Room := { frames := 3, cells := 203, slots := 9400, locals := 64 }
theorem e_X1_init : yX1_init.cls = RX1 ∧ yX1_init.cls ≠ "java/lang/invoke/MethodHandle" ∧ yX1_init.cls ≠ "java/lang/invoke/VarHandle" ∧ (parseMethodDescriptor yX1_init.desc).map (fun d => d.parameters.length) = some 0 := by decide +kernel
abbrev qz_N (U : State) : Prop := va_Nw (.methodLinkNest RX2 28 yX1_init RX2) U
set_option maxRecDepth 100000 in
set_option maxHeartbeats 4000000 in
theorem qc_X2_init (l : Launch) (D : va_G) (cI cS cT cJ : ClassId) (a sz : Nat) : Met l yX2_init wsX2_init rm_X2_init (va_Pc [.ref a] (fun U => U.heap.size = sz ∧ va_P D vwCl [(a, .inr (2, qz_F2))] U.heap ∧ qz_K D cI cS cT cJ U ∧ qz_N U)) (va_Qv (fun u : Nat → Nat → Nat => u 8 0 = a) (fun u t => va_P D vwCl (qw_WD (qz_LR D cI cS cT cJ u) qz_MR qz_hR) t.heap ∧ va_D (va_A [(a, .inr (2, qz_F2))] sz) (qw_WD (qz_LR D cI cS cT cJ u) qz_MR qz_hR)) (va_A [(a, .inr (2, qz_F2))] sz)) 203 9400 (va_A [(a, .inr (2, qz_F2))] sz) := by
  refine Met.ofW (cc := cX2_init) (maxL := 2) (ret := none) (by decide) rfl ?_
  intro p e s m args below meth c s₁ B hml hv
  obtain ⟨rfl, hsz, hP, K, hN⟩ := hv
  have hts := atoms_spec (ws := wsX2_init) B.pre
  have hown : s.vm.findClass RX2 = some m.cls := findClass_of_methodNamed B.named
  have hlocks := B.notSynchronized
  have hin : meth.name = "<init>" := (name_of_methodNamed B.named B.method).1
  have F : CallFix p m c cX2_init 2 s [Value.ref a].toArray wsX2_init RX2 := ⟨B.exec, B.bytes, hml, hown, hts⟩
  have hw : ∀ w ∈ wsX20, w.before [Value.ref a].toArray s = true := fun w h => hts w (List.mem_cons_of_mem _ (List.mem_append_left _ (List.mem_append_right _ h)))
  have hw1 : ∀ w ∈ wsX10, w.before [Value.ref a].toArray s = true := fun w h => hts w (List.mem_cons_of_mem _ (List.mem_append_right _ h))
  subst hsz
  have hD : va_D (va_A [(a, .inr (2, qz_F2))] s.heap.size) [(a, .inr (2, qz_F2))] := qz_D1 (Or.inl ⟨0, _, rfl⟩)
  generalize hAe : va_A [(a, .inr (2, qz_F2))] s.heap.size = A at hD ⊢
  have hA : ∀ q : Nat, s.heap.size ≤ q → A q := fun q h => by rw [← hAe]; exact Or.inr h
  have hS : va_S A s.heap s.heap [] := va_S.rf
  have hP : va_P D vwCl [(a, .inr (2, qz_F2))] s.heap := hP
  have hl := lv_entry ([.ref a]) (n := 2) (Nat.le_of_ble_eq_true rfl)
  rw [lg_entry_eq]
  generalize (lg_sl ([.ref a]) ++ List.replicate (2 - (lg_sl ([.ref a])).length) Slot.unset).toArray = ls at hl ⊢
  have hl : lv_has ls 2 [(0, .ref a)] := hl
  refine lv_aload_n F.1 F.2.1 dX2_init_0 rfl (lv_at hl 0 rfl) ?_
  refine W.objInit F.1 F.2.1 hown (hts _ (List.mem_of_getElem? (i := 1) rfl)) (hts _ (List.mem_of_getElem? (i := 2) rfl)) (hts _ (List.mem_of_getElem? (i := 3) rfl)) rfl (by rw [hml]; exact hl.1) rfl dX2_init_1 (Nat.le_of_ble_eq_true rfl) (Nat.le_of_ble_eq_true rfl) ?_
  refine W.eq (g2 := F0 m 4 ls []) rfl ?_
  refine lv_aload_n F.1 F.2.1 dX2_init_4 rfl (lv_at hl 0 rfl) ?_
  refine qz_newS F K hP hD hS hA hl.1 (Nat.le_of_ble_eq_true rfl) (Nat.le_of_ble_eq_true rfl) (Nat.le_of_ble_eq_true rfl) (Nat.le_of_ble_eq_true rfl) (Nat.le_of_ble_eq_true rfl) dX2_init_5 dX2_init_8 dX2_init_9 (fun u0 H locs hP hD hS => ?_)
  refine qz_put (q := u0 0) (ty := .object "ReturnPile$State") (C := RX2) (T := TX2) (N := 6) (ci := 2) (Ws := wsX20) F hw tyX2 tyX2_ok nmX2 K hP hD hS rfl 0 (by decide) (List.mem_of_getElem? (i := 7) rfl) rfl rfl hin rfl (by decide +kernel) rfl rfl (Nat.le_of_ble_eq_true rfl) dX2_init_12 (fun H locs hP hD hS => ?_)
  refine lv_aload_n F.1 F.2.1 dX2_init_15 rfl (lv_at hl 0 rfl) ?_
  refine qz_newS F K hP hD hS hA hl.1 (Nat.le_of_ble_eq_true rfl) (Nat.le_of_ble_eq_true rfl) (Nat.le_of_ble_eq_true rfl) (Nat.le_of_ble_eq_true rfl) (Nat.le_of_ble_eq_true rfl) dX2_init_16 dX2_init_19 dX2_init_20 (fun u1 H locs hP hD hS => ?_)
  refine qz_put (q := u1 0) (ty := .object "ReturnPile$State") (C := RX2) (T := TX2) (N := 6) (ci := 2) (Ws := wsX20) F hw tyX2 tyX2_ok nmX2 K hP hD hS rfl 1 (by decide) (List.mem_of_getElem? (i := 8) rfl) rfl rfl hin rfl (by decide +kernel) rfl rfl (Nat.le_of_ble_eq_true rfl) dX2_init_23 (fun H locs hP hD hS => ?_)
  refine lv_aload_n F.1 F.2.1 dX2_init_26 rfl (lv_at hl 0 rfl) ?_
  refine qz_newS F K hP hD hS hA hl.1 (Nat.le_of_ble_eq_true rfl) (Nat.le_of_ble_eq_true rfl) (Nat.le_of_ble_eq_true rfl) (Nat.le_of_ble_eq_true rfl) (Nat.le_of_ble_eq_true rfl) dX2_init_27 dX2_init_30 dX2_init_31 (fun u2 H locs hP hD hS => ?_)
  refine qz_put (q := u2 0) (ty := .object "ReturnPile$State") (C := RX2) (T := TX2) (N := 6) (ci := 2) (Ws := wsX20) F hw tyX2 tyX2_ok nmX2 K hP hD hS rfl 2 (by decide) (List.mem_of_getElem? (i := 9) rfl) rfl rfl hin rfl (by decide +kernel) rfl rfl (Nat.le_of_ble_eq_true rfl) dX2_init_34 (fun H locs hP hD hS => ?_)
  refine lv_aload_n F.1 F.2.1 dX2_init_37 rfl (lv_at hl 0 rfl) ?_
  refine lv_iconst (v := (5 : Int32)) F.1 F.2.1 dX2_init_38 (by decide) ?_
  refine va_newq (C := RX0) (N' := 5) F.1 F.2.1 hown (hts _ (List.mem_of_getElem? (i := 4) rfl)) K.2.1 K.1 hP hD hS hA (by decide) (by decide) (Nat.le_of_ble_eq_true rfl) (Nat.le_of_ble_eq_true rfl) (Nat.le_of_ble_eq_true rfl) dX2_init_39 (fun hA0 cA H hK hP hD hS => ?_)
  have eA : cA = cS := by
    obtain ⟨-, -, -, -, -, h1⟩ := (hK.2 4 _ rfl).2
    obtain ⟨-, -, -, -, -, h2⟩ := (K.1.2 1 _ rfl).2
    exact Option.some.inj (h1.symm.trans h2)
  subst eA
  refine qz_put (q := hA0) (ty := .array (.object "ReturnPile$State")) (C := RX2) (T := TX2) (N := 6) (ci := 2) (Ws := wsX20) F hw tyX2 tyX2_ok nmX2 K hP hD hS rfl 3 (by decide) (List.mem_of_getElem? (i := 10) rfl) rfl rfl hin rfl (by decide +kernel) rfl rfl (Nat.le_of_ble_eq_true rfl) dX2_init_42 (fun H locs hP hD hS => ?_)
  have hP : va_P D vwCl (([(a, (.inr (2, [.ref (u0 0), .ref (u1 0), .ref (u2 0), .ref hA0, .int 0, .null]) : va_E))] ++ ([] ++ qz_S cI cT u0 qz_mF ++ qz_S cI cT u1 qz_mF ++ qz_S cI cT u2 qz_mF)) ++ [(hA0, qz_H cA (fun _ => none))]) H := hP
  have hD : va_D A (([(a, (.inr (2, [.ref (u0 0), .ref (u1 0), .ref (u2 0), .ref hA0, .int 0, .null]) : va_E))] ++ ([] ++ qz_S cI cT u0 qz_mF ++ qz_S cI cT u1 qz_mF ++ qz_S cI cT u2 qz_mF)) ++ [(hA0, qz_H cA (fun _ => none))]) := hD
  have hP := va_P.swap hP
  have hD := va_D.swap hD
  have hP : va_P D vwCl ((a, (.inr (2, [.ref (u0 0), .ref (u1 0), .ref (u2 0), .ref hA0, .int 0, .null]) : va_E)) :: (hA0, qz_H cA (fun _ => none)) :: ([] ++ qz_S cI cT u0 qz_mF ++ qz_S cI cT u1 qz_mF ++ qz_S cI cT u2 qz_mF)) H := hP
  have hD : va_D A ((a, (.inr (2, [.ref (u0 0), .ref (u1 0), .ref (u2 0), .ref hA0, .int 0, .null]) : va_E)) :: (hA0, qz_H cA (fun _ => none)) :: ([] ++ qz_S cI cT u0 qz_mF ++ qz_S cI cT u1 qz_mF ++ qz_S cI cT u2 qz_mF)) := hD
  refine lv_aload_n F.1 F.2.1 dX2_init_45 rfl (lv_at hl 0 rfl) ?_
  refine va_new (ci := 1) (fs := qz_F1) (C := RX1) (T := TX1) (N := 3) F.1 F.2.1 hw1 (fun _ h => h) tyX1 tyX1_ok hown (hts _ (List.mem_of_getElem? (i := 11) rfl)) (hts _ (List.mem_of_getElem? (i := 12) rfl)) (hts _ (List.mem_of_getElem? (i := 13) rfl)) K.1 hP hD hS hA rfl (fun j hj => by
    rcases (show j = 0 ∨ j = 1 ∨ j = 2 by omega) with rfl | rfl | rfl <;> rfl) (Nat.le_of_ble_eq_true rfl) (Nat.le_of_ble_eq_true rfl) dX2_init_46 (fun x H hP hD hS => ?_)
  refine lv_dup F.1 F.2.1 dX2_init_49 rfl ?_
  generalize hX : (a, (.inr (2, [.ref (u0 0), .ref (u1 0), .ref (u2 0), .ref hA0, .int 0, .null]) : va_E)) :: (hA0, qz_H cA (fun _ => none)) :: ([] ++ qz_S cI cT u0 qz_mF ++ qz_S cI cT u1 qz_mF ++ qz_S cI cT u2 qz_mF) = ws at hP hD
  have hPc : va_P D vwCl [(x, .inr (1, qz_F1))] H := by
    intro k y hy
    have h1 : k < 1 := (List.getElem?_eq_some_iff.mp hy).1
    rw [show k = 0 by omega] at hy
    cases hy
    exact hP ws.length (x, .inr (1, qz_F1)) (by rw [List.getElem?_append_right (Nat.le_refl _), Nat.sub_self]; rfl)
  have hqA : A x := hD.2 ws.length (x, .inr (1, qz_F1)) (by rw [List.getElem?_append_right (Nat.le_refl _), Nat.sub_self]; rfl)
  have hFc : ∀ y : Nat, va_A [(x, .inr (1, qz_F1))] H.size y → A y := by
    intro y hy
    rcases hy with ⟨k, e2, h⟩ | h
    · have h1 : k < 1 := (List.getElem?_eq_some_iff.mp h).1
      rw [show k = 0 by omega] at h
      have h2 : (x, (.inr (1, qz_F1) : va_E)) = (y, e2) := Option.some.inj h
      cases h2
      exact hqA
    · exact hA y (Nat.le_trans hS.1 h)
  refine va_callv (va_runIN (As := []) (rest := [.ref x, .ref a]) F (qc_X1_init l D cI cA cT cJ x H.size) ⟨va_cnB 0 F.2.2.2.2 gX2_init_X1_init_n28 rfl rfl rfl hN (hts _ (List.mem_of_getElem? (i := 13) rfl)) e_X1_init.2 ⟨Nat.le_of_ble_eq_true rfl, Nat.le_of_ble_eq_true rfl⟩, rfl, hts _ (List.mem_of_getElem? (i := 42) rfl)⟩ ⟨fun a U g mk q => by obtain ⟨q0, q1, qP, qK⟩ := q; exact ⟨q0, q1, qP, qz_K.moved (u := U) (U := U.calling g mk a) (Vm.Alike.refl U.vm) qK⟩, fun U hU hW => ⟨rfl, by rw [hU], by rw [hU]; exact hPc, qz_K.moved hW.alike K⟩⟩ rfl rfl hl.1 rfl (lv_room (Nat.le_of_ble_eq_true rfl)) dX2_init_50 ⟨Nat.le_of_ble_eq_true rfl, Nat.le_of_ble_eq_true rfl⟩) hS (fun q _ h => hFc q h) hFc (fun q t H1 locs ht hvm h5 hB hz1 hk1 hS => ?_)
  obtain ⟨hP1, hD1⟩ := hB
  rw [ht] at hP1
  obtain ⟨hP, hD⟩ := qz_join hP hD hk1 hP1 hD1 hFc
  subst hX
  refine qz_put (q := x) (ty := .object "ReturnPile$Text") (C := RX2) (T := TX2) (N := 6) (ci := 2) (Ws := wsX20) F hw tyX2 tyX2_ok nmX2 K hP hD hS rfl 5 (by decide) (List.mem_of_getElem? (i := 14) rfl) rfl rfl hin rfl (by decide +kernel) rfl rfl (Nat.le_of_ble_eq_true rfl) dX2_init_53 (fun H locs hP hD hS => ?_)
  refine lv_iconst (v := (nI 0)) F.1 F.2.1 dX2_init_56 (by decide) ?_
  refine lv_istore_n (lv' := [(1, .int (nI 0)), (0, .ref a)]) F.1 F.2.1 dX2_init_57 rfl hl (by decide) rfl (fun ls hl => ?_)
  refine qz_turn (cS := cA) F K (i := 0) (by decide) rfl hP hD hS hA hl (Nat.le_of_ble_eq_true rfl) (Nat.le_of_ble_eq_true rfl) (Nat.le_of_ble_eq_true rfl) (Nat.le_of_ble_eq_true rfl) (fun u3 H locs ls hP hD hS hl => ?_)
  refine qz_turn (cS := cA) F K (i := 1) (by decide) rfl hP hD hS hA hl (Nat.le_of_ble_eq_true rfl) (Nat.le_of_ble_eq_true rfl) (Nat.le_of_ble_eq_true rfl) (Nat.le_of_ble_eq_true rfl) (fun u4 H locs ls hP hD hS hl => ?_)
  refine qz_turn (cS := cA) F K (i := 2) (by decide) rfl hP hD hS hA hl (Nat.le_of_ble_eq_true rfl) (Nat.le_of_ble_eq_true rfl) (Nat.le_of_ble_eq_true rfl) (Nat.le_of_ble_eq_true rfl) (fun u5 H locs ls hP hD hS hl => ?_)
  refine qz_turn (cS := cA) F K (i := 3) (by decide) rfl hP hD hS hA hl (Nat.le_of_ble_eq_true rfl) (Nat.le_of_ble_eq_true rfl) (Nat.le_of_ble_eq_true rfl) (Nat.le_of_ble_eq_true rfl) (fun u6 H locs ls hP hD hS hl => ?_)
  refine qz_turn (cS := cA) F K (i := 4) (by decide) rfl hP hD hS hA hl (Nat.le_of_ble_eq_true rfl) (Nat.le_of_ble_eq_true rfl) (Nat.le_of_ble_eq_true rfl) (Nat.le_of_ble_eq_true rfl) (fun u7 H locs ls hP hD hS hl => ?_)
  refine lv_iload_n F.1 F.2.1 dX2_init_58 rfl (lv_at hl 0 rfl) ?_
  refine lv_iconst (v := (nI 5)) F.1 F.2.1 dX2_init_59 (by decide) ?_
  refine lv_icmp_ge (tgt := 82) F.1 F.2.1 dX2_init_60 (by decide) (fun c1 => ?_) (fun c1 => ?_)
  rotate_left
  · exact absurd (show nI 5 ≤ nI (4 + 1) by decide) c1
  have eW : (a, (.inr (2, [.ref (u0 0), .ref (u1 0), .ref (u2 0), .ref hA0, .int 0, .ref x]) : va_E)) :: (hA0, qz_H cA (va_up (va_up (va_up (va_up (va_up (fun _ => none) 0 (some (u3 0))) 1 (some (u4 0))) 2 (some (u5 0))) 3 (some (u6 0))) 4 (some (u7 0)))) :: ([] ++ qz_S cI cT u0 qz_mF ++ qz_S cI cT u1 qz_mF ++ qz_S cI cT u2 qz_mF ++ qz_X cI x q ++ qz_S cI cT u3 qz_mF ++ qz_S cI cT u4 qz_mF ++ qz_S cI cT u5 qz_mF ++ qz_S cI cT u6 qz_mF ++ qz_S cI cT u7 qz_mF) = qw_WD (qz_LR D cI cA cT cJ (qz_aR u0 u1 u2 u3 u4 u5 u6 u7 a hA0 x q)) qz_MR qz_hR := by
    rw [qz_hf u0 u1 u2 u3 u4 u5 u6 u7 a hA0 x q]
    unfold qw_WD
    show _ = List.map _ qz_c8
    unfold qz_c8 qz_o
    rw [List.map_cons, List.map_cons, List.map_append, List.map_append, List.map_append, List.map_append, List.map_append, List.map_append, List.map_append, List.map_append, List.map_append, qz_S_w (k := 0) (by decide), qz_S_w (k := 1) (by decide), qz_S_w (k := 2) (by decide), qz_S_w (k := 3) (by decide), qz_S_w (k := 4) (by decide), qz_S_w (k := 5) (by decide), qz_S_w (k := 6) (by decide), qz_S_w (k := 7) (by decide)]
    rfl
  have hP : va_P D vwCl ((a, (.inr (2, [.ref (u0 0), .ref (u1 0), .ref (u2 0), .ref hA0, .int 0, .ref x]) : va_E)) :: (hA0, qz_H cA (va_up (va_up (va_up (va_up (va_up (fun _ => none) 0 (some (u3 0))) 1 (some (u4 0))) 2 (some (u5 0))) 3 (some (u6 0))) 4 (some (u7 0)))) :: ([] ++ qz_S cI cT u0 qz_mF ++ qz_S cI cT u1 qz_mF ++ qz_S cI cT u2 qz_mF ++ qz_X cI x q ++ qz_S cI cT u3 qz_mF ++ qz_S cI cT u4 qz_mF ++ qz_S cI cT u5 qz_mF ++ qz_S cI cT u6 qz_mF ++ qz_S cI cT u7 qz_mF)) H := hP
  have hD : va_D A ((a, (.inr (2, [.ref (u0 0), .ref (u1 0), .ref (u2 0), .ref hA0, .int 0, .ref x]) : va_E)) :: (hA0, qz_H cA (va_up (va_up (va_up (va_up (va_up (fun _ => none) 0 (some (u3 0))) 1 (some (u4 0))) 2 (some (u5 0))) 3 (some (u6 0))) 4 (some (u7 0)))) :: ([] ++ qz_S cI cT u0 qz_mF ++ qz_S cI cT u1 qz_mF ++ qz_S cI cT u2 qz_mF ++ qz_X cI x q ++ qz_S cI cT u3 qz_mF ++ qz_S cI cT u4 qz_mF ++ qz_S cI cT u5 qz_mF ++ qz_S cI cT u6 qz_mF ++ qz_S cI cT u7 qz_mF)) := hD
  rw [eW] at hP hD
  exact W.vret B.exec B.bytes B.returns (fun t ht hW => ⟨⟨qz_aR u0 u1 u2 u3 u4 u5 u6 u7 a hA0 x q, rfl, rfl, by rw [ht]; exact hP, hD⟩, hS.F ht⟩) hS.2.2 dX2_init_82
