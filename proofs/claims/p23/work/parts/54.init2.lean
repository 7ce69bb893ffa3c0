def qz_F2 : List Value := [.null, .null, .null, .null, .int 0, .null]
section QZ2
variable {p : Program} {l : Launch} {e : Env} {R : Room} {s : State} {mi : MethodId} {args : Array Value} {below : List Frame} {meth : Method} {co : Code} {H : Heap} {locs : List Loc} {cells slots : Nat} {Q : State → Prop}
variable {pc : Nat} {ls : Array Slot} {rest : List Value} {A : Nat → Prop} {H0 : Heap} {D : va_G} {cI cS cT cJ : ClassId} {ws : va_W}
set_option maxRecDepth 100000 in
set_option maxHeartbeats 4000000 in
/-- a new state, made -/
theorem qz_newS (F : CallFix p mi co cX2_init 2 s args wsX2_init RX2) (K : qz_K D cI cS cT cJ s) (hP : va_P D vwCl ws H) (hD : va_D A ws) (hS : va_S A H0 H locs) (hA : ∀ q, H0.size ≤ q → A q) (hsz : ls.size = 2) (hcells : cells + 25 ≤ R.cells) (hslots : slots + 1159 ≤ R.slots) (hfr : 3 ≤ R.frames) (hlo : 64 ≤ R.locals) (hcat : (rest.map fun v => v.category).sum ≤ 6) (hd1 : decode cX2_init pc = .ok (.new 7, 3)) (hd2 : decode cX2_init (pc + 3) = .ok (.dup, 1)) (hd3 : decode cX2_init (pc + 3 + 1) = .ok (.invokespecial 9, 3))
    (kk : ∀ (u : Nat → Nat) (H1 : Heap) (locs1 : List Loc), va_P D vwCl (ws ++ qz_S cI cT u qz_mF) H1 → va_D A (ws ++ qz_S cI cT u qz_mF) → va_S A H0 H1 locs1 → W p l e R s mi args below meth co H1 locs1 (cells + 25) (slots + 1159) Q (F0 mi (pc + 3 + 1 + 3) ls (.ref (u 0) :: rest))) : W p l e R s mi args below meth co H locs cells slots Q (F0 mi pc ls rest) := by
  have hw : ∀ w ∈ wsX00, w.before args s = true := fun w h => F.2.2.2.2 w (List.mem_cons_of_mem _ (List.mem_append_left _ (List.mem_append_left _ (List.mem_append_right _ h))))
  refine va_new (ci := 0) (fs := qz_F0) (C := RX0) (T := TX0) (N := 14) F.1 F.2.1 hw (fun _ h => h) tyX0 tyX0_ok F.2.2.2.1 (F.2.2.2.2 _ (List.mem_of_getElem? (i := 4) rfl)) (F.2.2.2.2 _ (List.mem_of_getElem? (i := 5) rfl)) (F.2.2.2.2 _ (List.mem_of_getElem? (i := 6) rfl)) K.1 hP hD hS hA rfl (fun j hj => by
    rcases (show j = 0 ∨ j = 1 ∨ j = 2 ∨ j = 3 ∨ j = 4 ∨ j = 5 ∨ j = 6 ∨ j = 7 ∨ j = 8 ∨ j = 9 ∨ j = 10 ∨ j = 11 ∨ j = 12 ∨ j = 13 by omega) with rfl | rfl | rfl | rfl | rfl | rfl | rfl | rfl | rfl | rfl | rfl | rfl | rfl | rfl <;> rfl) (by omega) (by omega) hd1 (fun q H hP hD hS => ?_)
  refine lv_dup F.1 F.2.1 hd2 rfl ?_
  have hPc : va_P D vwCl [(q, .inr (0, qz_F0))] H := by
    intro k x hx
    have h1 : k < 1 := (List.getElem?_eq_some_iff.mp hx).1
    rw [show k = 0 by omega] at hx
    cases hx
    exact hP ws.length (q, .inr (0, qz_F0)) (by rw [List.getElem?_append_right (Nat.le_refl _), Nat.sub_self]; rfl)
  have hqA : A q := hD.2 ws.length (q, .inr (0, qz_F0)) (by rw [List.getElem?_append_right (Nat.le_refl _), Nat.sub_self]; rfl)
  have hFc : ∀ x : Nat, va_A [(q, .inr (0, qz_F0))] H.size x → A x := by
    intro x hx
    rcases hx with ⟨k, e2, h⟩ | h
    · have h1 : k < 1 := (List.getElem?_eq_some_iff.mp h).1
      rw [show k = 0 by omega] at h
      have h2 : (q, (.inr (0, qz_F0) : va_E)) = (x, e2) := Option.some.inj h
      cases h2
      exact hqA
    · exact hA x (Nat.le_trans hS.1 h)
  refine va_callv (va_runI (As := []) (rest := .ref q :: rest) F (qc_X0_init l D cI cS cT cJ q H.size) (cwI 0 F.2.2.2.2 gX2_init_X0_init rfl rfl rfl (F.2.2.2.2 _ (List.mem_of_getElem? (i := 6) rfl)) (F.2.2.2.2 _ (List.mem_of_getElem? (i := 15) rfl)) (F.2.2.2.2 _ (List.mem_of_getElem? (i := 16) rfl)) rfl e_X0_init.2 ⟨hfr, hlo⟩) ⟨fun a U g mk q => by obtain ⟨q0, q1, qP, qK⟩ := q; exact ⟨q0, q1, qP, qz_K.moved (u := U) (U := U.calling g mk a) (Vm.Alike.refl U.vm) qK⟩, fun U hU hW => ⟨rfl, by rw [hU], by rw [hU]; exact hPc, qz_K.moved hW.alike K⟩⟩ rfl rfl hsz rfl (lv_room (by show ((Value.ref q :: rest).map fun v => v.category).sum ≤ 8; simp only [List.map_cons, List.sum_cons]; have : (Value.ref q).category = 1 := rfl; omega)) hd3 ⟨by show cells + 1 + 24 ≤ R.cells; omega, by show slots + 14 + 1145 ≤ R.slots; omega⟩) hS (fun q _ h => hFc q h) hFc (fun u t H1 locs ht hvm h5 hB hz1 hk1 hS => ?_)
  obtain ⟨hP1, hD1⟩ := hB
  rw [ht] at hP1
  obtain ⟨hP, hD⟩ := qz_join hP hD hk1 hP1 hD1 hFc
  have := kk u H1 locs hP hD hS
  rw [h5] at this
  exact this
end QZ2
theorem qz_hd {X : va_W} {cI cT : ClassId} {u : Nat → Nat} {m : wm} : ∃ vs : List Value, (X ++ qz_S cI cT u m)[X.length]? = some (u 0, .inr (0, vs)) := by
  refine ⟨[.int (m 0 0), .int (m 0 1), .int (m 0 2), .int (m 0 3), .int (m 0 4), .int (m 0 5), .int (m 0 6), .ref (u 1), .ref (u 2), .ref (u 3), .ref (u 4), .ref (u 5), .ref (u 6), .ref (u 7)], ?_⟩
  rw [List.getElem?_append_right (Nat.le_refl _), Nat.sub_self]
  rfl
abbrev qz_H (cS : ClassId) (f : Nat → Option Nat) : va_E := .inl (cS, 5, .inr (.inr (.inr (.inr f))))
section QZ3
variable {p : Program} {l : Launch} {e : Env} {R : Room} {s : State} {mi : MethodId} {args : Array Value} {below : List Frame} {meth : Method} {co : Code} {H : Heap} {locs : List Loc} {cells slots : Nat} {Q : State → Prop}
variable {ls : Array Slot} {A : Nat → Prop} {H0 : Heap} {D : va_G} {cI cS cT cJ : ClassId} {ws : va_W}
set_option maxRecDepth 100000 in
set_option maxHeartbeats 4000000 in
/-- a turn of the constructor's loop -/
theorem qz_turn (F : CallFix p mi co cX2_init 2 s args wsX2_init RX2) (K : qz_K D cI cS cT cJ s) {b hA0 i : Nat} (hi : i < 5) {f : Nat → Option Nat} {fs : List Value} (hfs : fs[3]? = some (.ref hA0)) (hP : va_P D vwCl ((b, .inr (2, fs)) :: (hA0, qz_H cS f) :: ws) H) (hD : va_D A ((b, .inr (2, fs)) :: (hA0, qz_H cS f) :: ws)) (hS : va_S A H0 H locs) (hA : ∀ q, H0.size ≤ q → A q) (hl : lv_has ls 2 [(1, .int (nI i)), (0, .ref b)]) (hcells : cells + 25 ≤ R.cells) (hslots : slots + 1159 ≤ R.slots) (hfr : 3 ≤ R.frames) (hlo : 64 ≤ R.locals)
    (kk : ∀ (u : Nat → Nat) (H1 : Heap) (locs1 : List Loc) (ls1 : Array Slot), va_P D vwCl ((b, .inr (2, fs)) :: (hA0, qz_H cS (va_up f i (some (u 0)))) :: (ws ++ qz_S cI cT u qz_mF)) H1 → va_D A ((b, .inr (2, fs)) :: (hA0, qz_H cS (va_up f i (some (u 0)))) :: (ws ++ qz_S cI cT u qz_mF)) → va_S A H0 H1 locs1 → lv_has ls1 2 [(1, .int (nI (i + 1))), (0, .ref b)] → W p l e R s mi args below meth co H1 locs1 (cells + 25) (slots + 1159) Q (F0 mi 58 ls1 [])) : W p l e R s mi args below meth co H locs cells slots Q (F0 mi 58 ls []) := by
  have hw2 : ∀ w ∈ wsX20, w.before args s = true := fun w h => F.2.2.2.2 w (List.mem_cons_of_mem _ (List.mem_append_left _ (List.mem_append_right _ h)))
  refine lv_iload_n F.1 F.2.1 dX2_init_58 rfl (lv_at hl 0 rfl) ?_
  refine lv_iconst (v := (nI 5)) F.1 F.2.1 dX2_init_59 (by decide) ?_
  refine lv_icmp_ge (tgt := 82) F.1 F.2.1 dX2_init_60 (by decide) (fun c1 => ?_) (fun c1 => ?_)
  · rw [qa_le (by omega) (by omega)] at c1
    omega
  refine lv_aload_n F.1 F.2.1 dX2_init_63 rfl (lv_at hl 1 rfl) ?_
  refine va_get (own := RX2) (C := RX2) (T := TX2) (N := 6) (ci := 2) F.1 F.2.1 hw2 (fun _ h => h) F.2.2.2.1 K.1 hP 0 rfl rfl 3 (by decide) (F.2.2.2.2 _ (List.mem_of_getElem? (i := 10) rfl)) (fun _ h => h) hfs dX2_init_64 ?_
  refine lv_iload_n F.1 F.2.1 dX2_init_67 rfl (lv_at hl 0 rfl) ?_
  refine qz_newS F K hP hD hS hA hl.1 hcells hslots hfr hlo (Nat.le_of_ble_eq_true rfl) dX2_init_68 dX2_init_71 dX2_init_72 (fun u H locs hP hD hS => ?_)
  obtain ⟨vs, hv⟩ := qz_hd (X := (b, (.inr (2, fs) : va_E)) :: (hA0, qz_H cS f) :: ws) (cI := cI) (cT := cT) (u := u) (m := qz_mF)
  refine va_astq (r := (RX0, TX0, 14)) F.1 F.2.1 K.1 hP hD hS 1 1 _ 0 rfl rfl hv rfl (vp_in_nI hi (by decide)) dX2_init_75 (fun H locs hP hD hS => ?_)
  rw [qa_cl (by omega)] at hP hD
  refine lv_iinc (v := nI (i + 1)) (lv' := [(1, .int (nI (i + 1))), (0, .ref b)]) F.1 F.2.1 dX2_init_76 hl (k := 0) rfl ((qw_ii1 _).trans (nI_add i 1)) (by decide) rfl (fun ls hl => ?_)
  refine lv_goto (tgt := 58) F.1 F.2.1 dX2_init_79 (by decide) ?_
  exact kk u H locs ls hP hD hS hl
end QZ3
