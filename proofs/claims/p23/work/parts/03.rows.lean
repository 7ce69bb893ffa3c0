section QR
variable {p : Program} {l : Launch} {e : Env} {R : Room} {s : State} {mi : MethodId} {args : Array Value} {below : List Frame} {meth : Method} {co : Code} {H : Heap} {locs : List Loc} {cells slots : Nat} {Q : State → Prop}
variable {cc : ByteArray} {pc nL : Nat} {ls : Array Slot} {rest : List Value} {A : Nat → Prop} {H0 : Heap} {L : wL} {X X' : wM} {hp : Nat → Nat} {Ts : List Cond} {own : String} {index : Nat} {k : Nat} {m : wm}
/-- an int of a state -/
theorem qr_gS (F : CallFix p mi co cc nL s args Ts own) (G : qw_G L A s) (hw : ∀ w ∈ wsX00, w.before args s = true) (hP : qw_P L X hp H) (hk : qw_k L k) (hX : X k = m) (j : Nat) (hj : j < 7) (hl : Cond.fieldLink own index "ReturnPile$State" (TX0 j).2.1 (TX0 j).2.2.1 ∈ Ts) {z : Int32} (ez : z = m 0 j) (hdg : decode cc pc = .ok (.getfield index, 3))
    (kk : W p l e R s mi args below meth co H locs cells slots Q (F0 mi (pc + 3) ls (.int z :: rest))) : W p l e R s mi args below meth co H locs cells slots Q (F0 mi pc ls (.ref (qw_ad L k 0) :: rest)) := by
  obtain ⟨n9, h9⟩ := qw_ix (hk.2 0 (by decide))
  have hg := qw_get h9 (qw_ctS (L := L) (hp := hp) hk.1 hX)
  subst ez
  rcases (show j = 0 ∨ j = 1 ∨ j = 2 ∨ j = 3 ∨ j = 4 ∨ j = 5 ∨ j = 6 by omega) with rfl | rfl | rfl | rfl | rfl | rfl | rfl <;>
    exact va_get F.1 F.2.1 hw (fun _ h => h) F.2.2.2.1 G.1 hP _ hg rfl _ (by decide) (F.2.2.2.2 _ hl) (fun _ h => h) rfl hdg kk
/-- a reference of a state -/
theorem qr_gSr (F : CallFix p mi co cc nL s args Ts own) (G : qw_G L A s) (hw : ∀ w ∈ wsX00, w.before args s = true) (hP : qw_P L X hp H) (hk : qw_k L k) (j : Nat) (hj : 1 ≤ j ∧ j < 8) (hl : Cond.fieldLink own index "ReturnPile$State" (TX0 (j + 6)).2.1 (TX0 (j + 6)).2.2.1 ∈ Ts) (hdg : decode cc pc = .ok (.getfield index, 3))
    (kk : W p l e R s mi args below meth co H locs cells slots Q (F0 mi (pc + 3) ls (.ref (qw_ad L k j) :: rest))) : W p l e R s mi args below meth co H locs cells slots Q (F0 mi pc ls (.ref (qw_ad L k 0) :: rest)) := by
  obtain ⟨n9, h9⟩ := qw_ix (hk.2 0 (by decide))
  have hg := qw_get h9 (qw_ctS (L := L) (M := X) (hp := hp) hk.1 rfl)
  rcases (show j = 1 ∨ j = 2 ∨ j = 3 ∨ j = 4 ∨ j = 5 ∨ j = 6 ∨ j = 7 by omega) with rfl | rfl | rfl | rfl | rfl | rfl | rfl <;>
    exact va_get F.1 F.2.1 hw (fun _ h => h) F.2.2.2.1 G.1 hP _ hg rfl _ (by decide) (F.2.2.2.2 _ hl) (fun _ h => h) rfl hdg kk
/-- an int of a state is written -/
theorem qr_pS (F : CallFix p mi co cc nL s args Ts own) (G : qw_G L A s) (hw : ∀ w ∈ wsX00, w.before args s = true) (hP : qw_P L X hp H) (hS : va_S A H0 H locs) (hk : qw_k L k) (hX : X k = m) (j : Nat) (hj : j < 7) (hl : Cond.fieldLink own index "ReturnPile$State" (TX0 j).2.1 (TX0 j).2.2.1 ∈ Ts) {v : Int32} (hX' : qw_u1 X k (qw_u2 m 0 j v) = X') (hdg : decode cc pc = .ok (.putfield index, 3))
    (kk : ∀ (H : Heap) (locs : List Loc), qw_P L X' hp H → va_S A H0 H locs → W p l e R s mi args below meth co H locs cells slots Q (F0 mi (pc + 3) ls rest)) : W p l e R s mi args below meth co H locs cells slots Q (F0 mi pc ls (.int v :: .ref (qw_ad L k 0) :: rest)) := by
  obtain ⟨n9, h9⟩ := qw_ix (hk.2 0 (by decide))
  have hg := qw_get h9 (qw_ctS (L := L) (hp := hp) hk.1 hX)
  have hx' : X' k = qw_uc m 0 (upd (m 0) j v) := qw_X' hX'
  have hc := qw_ctS (L := L) (M := X') (hp := hp) hk.1 hx'
  rcases (show j = 0 ∨ j = 1 ∨ j = 2 ∨ j = 3 ∨ j = 4 ∨ j = 5 ∨ j = 6 by omega) with rfl | rfl | rfl | rfl | rfl | rfl | rfl <;>
    exact va_put (ty := .int) F.1 F.2.1 hw (fun _ h => h) tyX0 tyX0_ok nmX0 F.2.2.2.1 G.1 hP (qw_D G.2.1 G.2.2 X hp) hS _ hg rfl _ (by decide) (F.2.2.2.2 _ hl) (fun _ h => h) rfl (by decide +kernel) rfl rfl (Nat.le_of_ble_eq_true rfl) hdg (fun H locs hP2 _ hS2 => kk H locs (by
      have hw9 := qw_wr (L := L) (hp := hp) G.2.1 h9 hX hX' hc
      unfold qw_P
      rw [← hw9]
      exact hP2) hS2)
/-- the text's ints -/
theorem qr_gX (F : CallFix p mi co cc nL s args Ts own) (G : qw_G L A s) (hv : qw_8 L) (hw : ∀ w ∈ wsX10, w.before args s = true) (hP : qw_P L X hp H) (hX : X 8 = m) (j : Nat) (hj : j = 1 ∨ j = 2) (hl : Cond.fieldLink own index "ReturnPile$Text" (TX1 j).2.1 (TX1 j).2.2.1 ∈ Ts) {z : Int32} (ez : z = m 2 j) (hdg : decode cc pc = .ok (.getfield index, 3))
    (kk : W p l e R s mi args below meth co H locs cells slots Q (F0 mi (pc + 3) ls (.int z :: rest))) : W p l e R s mi args below meth co H locs cells slots Q (F0 mi pc ls (.ref (qw_ad L 8 2) :: rest)) := by
  obtain ⟨n9, h9⟩ := qw_ix (hv 2 (by decide))
  have hg := qw_get h9 (qw_ctX (L := L) (hp := hp) hX)
  subst ez
  rcases hj with rfl | rfl <;>
    exact va_get F.1 F.2.1 hw (fun _ h => h) F.2.2.2.1 G.1 hP _ hg rfl _ (by decide) (F.2.2.2.2 _ hl) (fun _ h => h) rfl hdg kk
theorem qr_gXr (F : CallFix p mi co cc nL s args Ts own) (G : qw_G L A s) (hv : qw_8 L) (hw : ∀ w ∈ wsX10, w.before args s = true) (hP : qw_P L X hp H) (hl : Cond.fieldLink own index "ReturnPile$Text" "characters" "[I" ∈ Ts) (hdg : decode cc pc = .ok (.getfield index, 3))
    (kk : W p l e R s mi args below meth co H locs cells slots Q (F0 mi (pc + 3) ls (.ref (qw_ad L 8 3) :: rest))) : W p l e R s mi args below meth co H locs cells slots Q (F0 mi pc ls (.ref (qw_ad L 8 2) :: rest)) := by
  obtain ⟨n9, h9⟩ := qw_ix (hv 2 (by decide))
  have hg := qw_get h9 (qw_ctX (L := L) (M := X) (hp := hp) rfl)
  exact va_get F.1 F.2.1 hw (fun _ h => h) F.2.2.2.1 G.1 hP _ hg rfl 0 (by decide) (F.2.2.2.2 _ hl) (fun _ h => h) rfl hdg kk
theorem qr_pX (F : CallFix p mi co cc nL s args Ts own) (G : qw_G L A s) (hv : qw_8 L) (hw : ∀ w ∈ wsX10, w.before args s = true) (hP : qw_P L X hp H) (hS : va_S A H0 H locs) (hX : X 8 = m) (j : Nat) (hj : j = 1 ∨ j = 2) (hl : Cond.fieldLink own index "ReturnPile$Text" (TX1 j).2.1 (TX1 j).2.2.1 ∈ Ts) {v : Int32} (hX' : qw_u1 X 8 (qw_u2 m 2 j v) = X') (hdg : decode cc pc = .ok (.putfield index, 3))
    (kk : ∀ (H : Heap) (locs : List Loc), qw_P L X' hp H → va_S A H0 H locs → W p l e R s mi args below meth co H locs cells slots Q (F0 mi (pc + 3) ls rest)) : W p l e R s mi args below meth co H locs cells slots Q (F0 mi pc ls (.int v :: .ref (qw_ad L 8 2) :: rest)) := by
  obtain ⟨n9, h9⟩ := qw_ix (hv 2 (by decide))
  have hg := qw_get h9 (qw_ctX (L := L) (hp := hp) hX)
  have hx' : X' 8 = qw_uc m 2 (upd (m 2) j v) := qw_X' hX'
  have hc := qw_ctX (L := L) (M := X') (hp := hp) hx'
  rcases hj with rfl | rfl <;>
    exact va_put (ty := .int) F.1 F.2.1 hw (fun _ h => h) tyX1 tyX1_ok nmX1 F.2.2.2.1 G.1 hP (qw_D G.2.1 G.2.2 X hp) hS _ hg rfl _ (by decide) (F.2.2.2.2 _ hl) (fun _ h => h) rfl (by decide +kernel) rfl rfl (Nat.le_of_ble_eq_true rfl) hdg (fun H locs hP2 _ hS2 => kk H locs (by
      have hw9 := qw_wr (L := L) (hp := hp) G.2.1 h9 hX hX' hc
      unfold qw_P
      rw [← hw9]
      exact hP2) hS2)
/-- the pile's own fields -/
theorem qr_gR (F : CallFix p mi co cc nL s args Ts own) (G : qw_G L A s) (hv : qw_8 L) (hw : ∀ w ∈ wsX20, w.before args s = true) (hP : qw_P L X hp H) (hX : X 8 = m) (hl : Cond.fieldLink own index "ReturnPile" "historyLength" "I" ∈ Ts) {z : Int32} (ez : z = m 0 4) (hdg : decode cc pc = .ok (.getfield index, 3))
    (kk : W p l e R s mi args below meth co H locs cells slots Q (F0 mi (pc + 3) ls (.int z :: rest))) : W p l e R s mi args below meth co H locs cells slots Q (F0 mi pc ls (.ref (qw_ad L 8 0) :: rest)) := by
  obtain ⟨n9, h9⟩ := qw_ix (hv 0 (by decide))
  have hg := qw_get h9 (qw_ctR (L := L) (hp := hp) hX)
  subst ez
  exact va_get F.1 F.2.1 hw (fun _ h => h) F.2.2.2.1 G.1 hP _ hg rfl 4 (by decide) (F.2.2.2.2 _ hl) (fun _ h => h) rfl hdg kk
theorem qr_gRr (F : CallFix p mi co cc nL s args Ts own) (G : qw_G L A s) (hv : qw_8 L) (hw : ∀ w ∈ wsX20, w.before args s = true) (hP : qw_P L X hp H) (j ko kc : Nat) (hj : (j = 0 ∧ ko = 0 ∧ kc = 0) ∨ (j = 1 ∧ ko = 1 ∧ kc = 0) ∨ (j = 2 ∧ ko = 2 ∧ kc = 0) ∨ (j = 3 ∧ ko = 8 ∧ kc = 1) ∨ (j = 5 ∧ ko = 8 ∧ kc = 2)) (hl : Cond.fieldLink own index "ReturnPile" (TX2 j).2.1 (TX2 j).2.2.1 ∈ Ts) (hdg : decode cc pc = .ok (.getfield index, 3))
    (kk : W p l e R s mi args below meth co H locs cells slots Q (F0 mi (pc + 3) ls (.ref (qw_ad L ko kc) :: rest))) : W p l e R s mi args below meth co H locs cells slots Q (F0 mi pc ls (.ref (qw_ad L 8 0) :: rest)) := by
  obtain ⟨n9, h9⟩ := qw_ix (hv 0 (by decide))
  have hg := qw_get h9 (qw_ctR (L := L) (M := X) (hp := hp) rfl)
  rcases hj with ⟨rfl, rfl, rfl⟩ | ⟨rfl, rfl, rfl⟩ | ⟨rfl, rfl, rfl⟩ | ⟨rfl, rfl, rfl⟩ | ⟨rfl, rfl, rfl⟩ <;>
    exact va_get F.1 F.2.1 hw (fun _ h => h) F.2.2.2.1 G.1 hP _ hg rfl _ (by decide) (F.2.2.2.2 _ hl) (fun _ h => h) rfl hdg kk
theorem qr_pR (F : CallFix p mi co cc nL s args Ts own) (G : qw_G L A s) (hv : qw_8 L) (hw : ∀ w ∈ wsX20, w.before args s = true) (hP : qw_P L X hp H) (hS : va_S A H0 H locs) (hX : X 8 = m) (hl : Cond.fieldLink own index "ReturnPile" "historyLength" "I" ∈ Ts) {v : Int32} (hX' : qw_u1 X 8 (qw_u2 m 0 4 v) = X') (hdg : decode cc pc = .ok (.putfield index, 3))
    (kk : ∀ (H : Heap) (locs : List Loc), qw_P L X' hp H → va_S A H0 H locs → W p l e R s mi args below meth co H locs cells slots Q (F0 mi (pc + 3) ls rest)) : W p l e R s mi args below meth co H locs cells slots Q (F0 mi pc ls (.int v :: .ref (qw_ad L 8 0) :: rest)) := by
  obtain ⟨n9, h9⟩ := qw_ix (hv 0 (by decide))
  have hg := qw_get h9 (qw_ctR (L := L) (hp := hp) hX)
  have hx' : X' 8 = qw_uc m 0 (upd (m 0) 4 v) := qw_X' hX'
  have hc := qw_ctR (L := L) (M := X') (hp := hp) hx'
  exact va_put (ty := .int) F.1 F.2.1 hw (fun _ h => h) tyX2 tyX2_ok nmX2 F.2.2.2.1 G.1 hP (qw_D G.2.1 G.2.2 X hp) hS _ hg rfl 4 (by decide) (F.2.2.2.2 _ hl) (fun _ h => h) rfl (by decide +kernel) rfl rfl (Nat.le_of_ble_eq_true rfl) hdg (fun H locs hP2 _ hS2 => kk H locs (by
      have hw9 := qw_wr (L := L) (hp := hp) G.2.1 h9 hX hX' hc
      unfold qw_P
      rw [← hw9]
      exact hP2) hS2)
/-- the reference's own fields -/
theorem qr_ald (F : CallFix p mi co cc nL s args Ts own) (G : qw_G L A s) (hP : qw_P L X hp H) (hX : X k = m) {c n i' : Nat} (hI : qw_I L k c n) {i : Int32} (hin : vp_in i n) (hi : i.toNatClampNeg = i') {z : Int32} (ez : z = m c i') (hdg : decode cc pc = .ok (.iaload, 1))
    (kk : W p l e R s mi args below meth co H locs cells slots Q (F0 mi (pc + 1) ls (.int z :: rest))) : W p l e R s mi args below meth co H locs cells slots Q (F0 mi pc ls (.int i :: .ref (qw_ad L k c) :: rest)) := by
  obtain ⟨n9, h9⟩ := qw_ix hI.1
  have hg := qw_get h9 (qw_ctI (L := L) (hp := hp) hI hX)
  subst ez
  subst hi
  exact va_iald F.1 F.2.1 G.1 hP _ 0 hg rfl hin hdg kk
theorem qr_ast (F : CallFix p mi co cc nL s args Ts own) (G : qw_G L A s) (hP : qw_P L X hp H) (hS : va_S A H0 H locs) (hX : X k = m) {c n i' : Nat} (hI : qw_I L k c n) {i v : Int32} (hin : vp_in i n) (hi : i.toNatClampNeg = i') (hX' : qw_u1 X k (qw_u2 m c i' v) = X') (hdg : decode cc pc = .ok (.iastore, 1))
    (kk : ∀ (H : Heap) (locs : List Loc), qw_P L X' hp H → va_S A H0 H locs → W p l e R s mi args below meth co H locs cells slots Q (F0 mi (pc + 1) ls rest)) : W p l e R s mi args below meth co H locs cells slots Q (F0 mi pc ls (.int v :: .int i :: .ref (qw_ad L k c) :: rest)) := by
  obtain ⟨n9, h9⟩ := qw_ix hI.1
  have hg := qw_get h9 (qw_ctI (L := L) (hp := hp) hI hX)
  subst hi
  have hx' := qw_X' hX'
  have hc := qw_ctI (L := L) (M := X') (hp := hp) hI hx'
  rw [qw_ucs] at hc
  exact va_iast F.1 F.2.1 G.1 hP (qw_D G.2.1 G.2.2 X hp) hS _ 0 hg rfl hin hdg (fun H locs hP2 _ hS2 => kk H locs (by
      have hw9 := qw_wr (L := L) (hp := hp) G.2.1 h9 hX hX' hc
      unfold qw_P
      rw [← hw9]
      exact hP2) hS2)
theorem qr_len (F : CallFix p mi co cc nL s args Ts own) (G : qw_G L A s) (hP : qw_P L X hp H) {c n : Nat} (hI : qw_I L k c n) {z : Int32} (ez : z = Int32.ofNat n) (hdg : decode cc pc = .ok (.arraylength, 1))
    (kk : W p l e R s mi args below meth co H locs cells slots Q (F0 mi (pc + 1) ls (.int z :: rest))) : W p l e R s mi args below meth co H locs cells slots Q (F0 mi pc ls (.ref (qw_ad L k c) :: rest)) := by
  obtain ⟨n9, h9⟩ := qw_ix hI.1
  have hg := qw_get h9 (qw_ctI (L := L) (M := X) (hp := hp) hI rfl)
  exact va_alen F.1 F.2.1 G.1 hP _ 0 hg rfl ez.symm hdg kk
theorem qr_lenT (F : CallFix p mi co cc nL s args Ts own) (G : qw_G L A s) (hP : qw_P L X hp H) {c : Nat} (hk : qw_k L k) (h4 : 4 ≤ c) (h8 : c < 8) {z : Int32} (ez : z = Int32.ofNat (qw_nr c)) (hdg : decode cc pc = .ok (.arraylength, 1))
    (kk : W p l e R s mi args below meth co H locs cells slots Q (F0 mi (pc + 1) ls (.int z :: rest))) : W p l e R s mi args below meth co H locs cells slots Q (F0 mi pc ls (.ref (qw_ad L k c) :: rest)) := by
  obtain ⟨n9, h9⟩ := qw_ix (hk.2 c (by omega))
  have hg := qw_get h9 (qw_ctT (L := L) (M := X) (hp := hp) hk.1 h4 h8)
  exact va_alen F.1 F.2.1 G.1 hP _ 2 hg rfl ez.symm hdg kk
/-- a row of a table -/
theorem qr_row (F : CallFix p mi co cc nL s args Ts own) (G : qw_G L A s) (hP : qw_P L X hp H) (hk : qw_k L k) {t c n b : Nat} (h4 : 4 ≤ t) (h8 : t < 8) (hn : qw_nr t = n) (hrb : qw_rb t = b) {i : Int32} (hin : vp_in i n) (hc : b + i.toNatClampNeg = c) (hdg : decode cc pc = .ok (.aaload, 1))
    (kk : W p l e R s mi args below meth co H locs cells slots Q (F0 mi (pc + 1) ls (.ref (qw_ad L k c) :: rest))) : W p l e R s mi args below meth co H locs cells slots Q (F0 mi pc ls (.int i :: .ref (qw_ad L k t) :: rest)) := by
  obtain ⟨n9, h9⟩ := qw_ix (hk.2 t (by omega))
  have hg := qw_get h9 (qw_ctT (L := L) (M := X) (hp := hp) hk.1 h4 h8)
  subst hn
  subst hrb
  subst hc
  have hlt : i.toNatClampNeg < qw_nr t := Nat.not_le.mp fun q => hin (Or.inr q)
  exact W.aald (v := .ref (qw_ad L k (qw_rb t + i.toNatClampNeg))) (ty := .array .int) F.1 F.2.1 (hP _ _ hg) ((G.1.2 2 _ rfl).1 _ _) rfl (fun q => by cases q) (by show ¬ (i < 0 ∨ (arrV _ _ _).slots.size ≤ _); rw [arrV_size]; exact hin) (by show (arrV _ _ _).slots[_]? = _; rw [arrV_read _ _ hlt]; simp only [if_pos hlt, va_rf]) rfl rfl hdg kk
/-- the history's states -/
theorem qr_his (F : CallFix p mi co cc nL s args Ts own) (G : qw_G L A s) (hv : qw_8 L) (hP : qw_P L X hp H) {i : Int32} (hin : vp_in i 5) {o : Nat} (ho : hp i.toNatClampNeg = o) (hdg : decode cc pc = .ok (.aaload, 1))
    (kk : W p l e R s mi args below meth co H locs cells slots Q (F0 mi (pc + 1) ls (.ref (qw_ad L o 0) :: rest))) : W p l e R s mi args below meth co H locs cells slots Q (F0 mi pc ls (.int i :: .ref (qw_ad L 8 1) :: rest)) := by
  obtain ⟨n9, h9⟩ := qw_ix (hv 1 (by decide))
  have hg := qw_get h9 (qw_ctH (L := L) (M := X) (hp := hp))
  have hlt : i.toNatClampNeg < 5 := Nat.not_le.mp fun q => hin (Or.inr q)
  subst ho
  refine va_aldq (C := "ReturnPile$State") F.1 F.2.1 G.1 hP _ 1 hg rfl hin hdg ?_
  rw [if_pos hlt]
  exact kk
def qw_hu (hp : Nat → Nat) (i o : Nat) : Nat → Nat := fun j => if j = i then o else hp j
theorem qr_hisW (F : CallFix p mi co cc nL s args Ts own) (G : qw_G L A s) (hv : qw_8 L) (hP : qw_P L X hp H) (hS : va_S A H0 H locs) {i : Int32} (hin : vp_in i 5) {i' o : Nat} (hi : i.toNatClampNeg = i') (ho : qw_k L o) {hp' : Nat → Nat} (hp2 : qw_hu hp i' o = hp') (hdg : decode cc pc = .ok (.aastore, 1))
    (kk : ∀ (H : Heap) (locs : List Loc), qw_P L X hp' H → va_S A H0 H locs → W p l e R s mi args below meth co H locs cells slots Q (F0 mi (pc + 1) ls rest)) : W p l e R s mi args below meth co H locs cells slots Q (F0 mi pc ls (.ref (qw_ad L o 0) :: .int i :: .ref (qw_ad L 8 1) :: rest)) := by
  obtain ⟨n9, h9⟩ := qw_ix (hv 1 (by decide))
  have hg := qw_get h9 (qw_ctH (L := L) (M := X) (hp := hp))
  obtain ⟨n8, h8⟩ := qw_ix (ho.2 0 (by decide))
  have hgo := qw_get h8 (qw_ctS (L := L) (M := X) (hp := hp) ho.1 rfl)
  have hlt : i.toNatClampNeg < 5 := Nat.not_le.mp fun q => hin (Or.inr q)
  subst hi
  subst hp2
  refine va_astq (r := (RX0, TX0, 14)) F.1 F.2.1 G.1 hP (qw_D G.2.1 G.2.2 X hp) hS _ 1 _ 0 hg rfl hgo rfl hin hdg (fun H locs hP2 _ hS2 => kk H locs ?_ hS2)
  have hw9 : (qw_WD L X hp).set n9 (qw_ad L 8 1, .inl (L.2.2.1, 5, .inr (.inr (.inr (.inr (va_up (fun i => if i < 5 then some (qw_ad L (hp i) 0) else none) i.toNatClampNeg (some (qw_ad L o 0)))))))) = qw_WD L X (qw_hu hp i.toNatClampNeg o) := by
    refine qw_set G.2.1.1 h9 ?_ (fun k' c' hne => qw_ct_cg rfl (Or.inr hne))
    rw [qw_ctH]
    congr 7
    funext j
    by_cases hj : j = i.toNatClampNeg
    · subst hj
      simp [va_up, qw_hu, hlt]
    · simp [va_up, qw_hu, hj]
  unfold qw_P
  rw [← hw9]
  exact hP2
/-- a run of cells is copied between two int arrays -/
theorem qr_cpy (F : CallFix p mi co cc nL s args Ts own) (G : qw_G L A s) (hP : qw_P L X hp H) (hS : va_S A H0 H locs) (hX : X k = m) {k0 c0 c n0 n1 : Nat} (hI0 : qw_I L k0 c0 n0) (hI : qw_I L k c n1) {f : Nat → Int32} (hf : X k0 c0 = f) {sp dp n : Int32} {sp' dp' n' : Nat} (h1 : ¬ sp < 0) (h2 : ¬ dp < 0) (h3 : ¬ n < 0) (e1 : sp.toNatClampNeg = sp') (e2 : dp.toNatClampNeg = dp') (e3 : n.toNatClampNeg = n') (h4 : sp' + n' ≤ n0) (h5 : dp' + n' ≤ n1) (hX' : qw_u1 X k (qw_uc m c (va_cpy f (m c) sp' dp' n')) = X')
    (hl : Cond.methodLink own index arraycopyName ∈ Ts) (hnat : Cond.native arraycopyName ∈ Ts) (hstat : Cond.static arraycopyName ∈ Ts) (hini : Cond.initialized "java/lang/System" ∈ Ts) (hls : ls.size = nL) (hframes : 1 ≤ R.frames) (hlocals : (rest.map fun v => v.category).sum + (nativeFrameWords "java/lang/System" "arraycopy" 5 + 11) ≤ R.locals) (hdg : decode cc pc = .ok (.invokestatic index, 3))
    (kk : ∀ (H : Heap) (locs : List Loc), qw_P L X' hp H → va_S A H0 H locs → W p l e R s mi args below meth co H locs cells slots Q (F0 mi (pc + 3) ls rest)) : W p l e R s mi args below meth co H locs cells slots Q (F0 mi pc ls (.int n :: .int dp :: .ref (qw_ad L k c) :: .int sp :: .ref (qw_ad L k0 c0) :: rest)) := by
  obtain ⟨n9, h9⟩ := qw_ix hI.1
  have hg := qw_get h9 (qw_ctI (L := L) (hp := hp) hI hX)
  obtain ⟨n8, h8⟩ := qw_ix hI0.1
  have hg0 := qw_get h8 (qw_ctI (L := L) (M := X) (hp := hp) hI0 rfl)
  rw [hf] at hg0
  subst e1
  subst e2
  subst e3
  have hx' := qw_X' hX'
  have hc := qw_ctI (L := L) (M := X') (hp := hp) hI hx'
  rw [qw_ucs] at hc
  exact va_copyi (ty := .int) F.1 F.2.1 (F.2.2.1.trans hls.symm) F.2.2.2.1 (F.2.2.2.2 _ hl) (F.2.2.2.2 _ hnat) (F.2.2.2.2 _ hstat) (F.2.2.2.2 _ hini) G.1 hP (qw_D G.2.1 G.2.2 X hp) hS _ _ 0 0 hg0 hg rfl rfl rfl h1 h2 h3 h4 h5 (fun _ _ => rfl) hframes hlocals hdg (fun H locs hP2 _ hS2 => kk H locs (by
      have hw9 := qw_wr (L := L) (hp := hp) G.2.1 h9 hX hX' hc
      unfold qw_P
      rw [← hw9]
      exact hP2) hS2)
theorem qr_ldL (F : CallFix p mi co cc nL s args Ts own) (G : qw_G L A s) (hP : qw_P L X hp H) (hX : X 9 = m) {c n i' : Nat} (hI : qw_IL L c n) {i : Int32} (hin : vp_in i n) (hi : i.toNatClampNeg = i') {z : Int64} (ez : z = qj_l (m c) i') (hdg : decode cc pc = .ok (.laload, 1))
    (kk : W p l e R s mi args below meth co H locs cells slots Q (F0 mi (pc + 1) ls (.long z :: rest))) : W p l e R s mi args below meth co H locs cells slots Q (F0 mi pc ls (.int i :: .ref (qw_ad L 9 c) :: rest)) := by
  obtain ⟨n9, h9⟩ := qw_ix hI.1
  have hg := qw_get h9 (qw_ctL (L := L) (hp := hp) hI hX)
  subst ez
  subst hi
  exact va_lald F.1 F.2.1 G.1 hP _ 3 hg rfl hin hdg kk
theorem qr_stL (F : CallFix p mi co cc nL s args Ts own) (G : qw_G L A s) (hP : qw_P L X hp H) (hS : va_S A H0 H locs) (hX : X 9 = m) {c n i' : Nat} (hI : qw_IL L c n) {i : Int32} {v : Int64} (hin : vp_in i n) (hi : i.toNatClampNeg = i') (hX' : qw_u1 X 9 (qw_uc m c (qj_s (m c) i' v)) = X') (hdg : decode cc pc = .ok (.lastore, 1))
    (kk : ∀ (H : Heap) (locs : List Loc), qw_P L X' hp H → va_S A H0 H locs → W p l e R s mi args below meth co H locs cells slots Q (F0 mi (pc + 1) ls rest)) : W p l e R s mi args below meth co H locs cells slots Q (F0 mi pc ls (.long v :: .int i :: .ref (qw_ad L 9 c) :: rest)) := by
  obtain ⟨n9, h9⟩ := qw_ix hI.1
  have hg := qw_get h9 (qw_ctL (L := L) (hp := hp) hI hX)
  subst hi
  have hx' := qw_X' hX'
  have hc := qw_ctL (L := L) (M := X') (hp := hp) hI hx'
  rw [qw_ucs, qj_ls] at hc
  exact va_last F.1 F.2.1 G.1 hP (qw_D G.2.1 G.2.2 X hp) hS _ 3 hg rfl hin hdg (fun H locs hP2 _ hS2 => kk H locs (by
      have hw9 := qw_wr (L := L) (hp := hp) G.2.1 h9 hX hX' hc
      unfold qw_P
      rw [← hw9]
      exact hP2) hS2)
/-- numbers of the law, named -/
theorem qr_ladd (F : CallFix p mi co cc nL s args Ts own) {x y z : Int64} (ez : z = x + y) (hdg : decode cc pc = .ok (.ladd, 1)) (kk : W p l e R s mi args below meth co H locs cells slots Q (F0 mi (pc + 1) ls (.long z :: rest))) : W p l e R s mi args below meth co H locs cells slots Q (F0 mi pc ls (.long y :: .long x :: rest)) := lv_ladd F.1 F.2.1 hdg (ez ▸ kk)
theorem qr_lsub (F : CallFix p mi co cc nL s args Ts own) {x y z : Int64} (ez : z = x - y) (hdg : decode cc pc = .ok (.lsub, 1)) (kk : W p l e R s mi args below meth co H locs cells slots Q (F0 mi (pc + 1) ls (.long z :: rest))) : W p l e R s mi args below meth co H locs cells slots Q (F0 mi pc ls (.long y :: .long x :: rest)) := lv_lsub F.1 F.2.1 hdg (ez ▸ kk)
theorem qr_land (F : CallFix p mi co cc nL s args Ts own) {x y z : Int64} (ez : z = x &&& y) (hdg : decode cc pc = .ok (.land, 1)) (kk : W p l e R s mi args below meth co H locs cells slots Q (F0 mi (pc + 1) ls (.long z :: rest))) : W p l e R s mi args below meth co H locs cells slots Q (F0 mi pc ls (.long y :: .long x :: rest)) := lv_land F.1 F.2.1 hdg (ez ▸ kk)
theorem qr_lor (F : CallFix p mi co cc nL s args Ts own) {x y z : Int64} (ez : z = x ||| y) (hdg : decode cc pc = .ok (.lor, 1)) (kk : W p l e R s mi args below meth co H locs cells slots Q (F0 mi (pc + 1) ls (.long z :: rest))) : W p l e R s mi args below meth co H locs cells slots Q (F0 mi pc ls (.long y :: .long x :: rest)) := lv_lor F.1 F.2.1 hdg (ez ▸ kk)
theorem qr_lshl (F : CallFix p mi co cc nL s args Ts own) {x z : Int64} {y : Int32} (ez : z = x <<< (y.toInt64 &&& 63)) (hdg : decode cc pc = .ok (.lshl, 1)) (kk : W p l e R s mi args below meth co H locs cells slots Q (F0 mi (pc + 1) ls (.long z :: rest))) : W p l e R s mi args below meth co H locs cells slots Q (F0 mi pc ls (.int y :: .long x :: rest)) := lv_lshl F.1 F.2.1 hdg ez.symm kk
theorem qr_lshr (F : CallFix p mi co cc nL s args Ts own) {x z : Int64} {y : Int32} (ez : z = x >>> (y.toInt64 &&& 63)) (hdg : decode cc pc = .ok (.lshr, 1)) (kk : W p l e R s mi args below meth co H locs cells slots Q (F0 mi (pc + 1) ls (.long z :: rest))) : W p l e R s mi args below meth co H locs cells slots Q (F0 mi pc ls (.int y :: .long x :: rest)) := lv_lshr F.1 F.2.1 hdg ez.symm kk
theorem qr_i2l (F : CallFix p mi co cc nL s args Ts own) {x : Int32} {z : Int64} (ez : z = x.toInt64) (hdg : decode cc pc = .ok (.i2l, 1)) (kk : W p l e R s mi args below meth co H locs cells slots Q (F0 mi (pc + 1) ls (.long z :: rest))) : W p l e R s mi args below meth co H locs cells slots Q (F0 mi pc ls (.int x :: rest)) := lv_i2l F.1 F.2.1 hdg ez.symm kk
theorem qr_l2i (F : CallFix p mi co cc nL s args Ts own) {x : Int64} {z : Int32} (ez : z = x.toInt32) (hdg : decode cc pc = .ok (.l2i, 1)) (kk : W p l e R s mi args below meth co H locs cells slots Q (F0 mi (pc + 1) ls (.int z :: rest))) : W p l e R s mi args below meth co H locs cells slots Q (F0 mi pc ls (.long x :: rest)) := lv_l2i F.1 F.2.1 hdg ez.symm kk
theorem qr_lcmp (F : CallFix p mi co cc nL s args Ts own) {x y : Int64} {z : Int32} (ez : z = lg_cmp x y) (hdg : decode cc pc = .ok (.lcmp, 1)) (kk : W p l e R s mi args below meth co H locs cells slots Q (F0 mi (pc + 1) ls (.int z :: rest))) : W p l e R s mi args below meth co H locs cells slots Q (F0 mi pc ls (.long y :: .long x :: rest)) := W.lcmp F.1 F.2.1 hdg (ez ▸ kk)
theorem qr_iand (F : CallFix p mi co cc nL s args Ts own) {x y z : Int32} (ez : z = x &&& y) (hdg : decode cc pc = .ok (.iand, 1)) (kk : W p l e R s mi args below meth co H locs cells slots Q (F0 mi (pc + 1) ls (.int z :: rest))) : W p l e R s mi args below meth co H locs cells slots Q (F0 mi pc ls (.int y :: .int x :: rest)) := lv_iand F.1 F.2.1 hdg (ez ▸ kk)
theorem qr_ixor (F : CallFix p mi co cc nL s args Ts own) {x y z : Int32} (ez : z = x ^^^ y) (hdg : decode cc pc = .ok (.ixor, 1)) (kk : W p l e R s mi args below meth co H locs cells slots Q (F0 mi (pc + 1) ls (.int z :: rest))) : W p l e R s mi args below meth co H locs cells slots Q (F0 mi pc ls (.int y :: .int x :: rest)) := lv_ixor F.1 F.2.1 hdg (ez ▸ kk)
theorem qr_ishr (F : CallFix p mi co cc nL s args Ts own) {x y z : Int32} (ez : z = x >>> (y &&& 31)) (hdg : decode cc pc = .ok (.ishr, 1)) (kk : W p l e R s mi args below meth co H locs cells slots Q (F0 mi (pc + 1) ls (.int z :: rest))) : W p l e R s mi args below meth co H locs cells slots Q (F0 mi pc ls (.int y :: .int x :: rest)) := lv_ishr F.1 F.2.1 hdg (ez ▸ kk)
theorem qr_ishl (F : CallFix p mi co cc nL s args Ts own) {x y z : Int32} (ez : z = x <<< (y &&& 31)) (hdg : decode cc pc = .ok (.ishl, 1)) (kk : W p l e R s mi args below meth co H locs cells slots Q (F0 mi (pc + 1) ls (.int z :: rest))) : W p l e R s mi args below meth co H locs cells slots Q (F0 mi pc ls (.int y :: .int x :: rest)) := lv_ishl F.1 F.2.1 hdg (ez ▸ kk)
theorem qr_idiv (F : CallFix p mi co cc nL s args Ts own) {x y z : Int32} (hy : ¬ y = 0) (ez : z = x / y) (hdg : decode cc pc = .ok (.idiv, 1)) (kk : W p l e R s mi args below meth co H locs cells slots Q (F0 mi (pc + 1) ls (.int z :: rest))) : W p l e R s mi args below meth co H locs cells slots Q (F0 mi pc ls (.int y :: .int x :: rest)) := lv_idiv F.1 F.2.1 hdg hy (ez ▸ kk)
theorem qr_ldc (F : CallFix p mi co cc nL s args Ts own) {index : Nat} {v : Int32} (hl : Cond.constant own index v ∈ Ts) (hdg : decode cc pc = .ok (.ldc index, 2)) (kk : W p l e R s mi args below meth co H locs cells slots Q (F0 mi (pc + 2) ls (.int v :: rest))) : W p l e R s mi args below meth co H locs cells slots Q (F0 mi pc ls rest) := lv_ldc F.1 F.2.1 F.2.2.2.1 (F.2.2.2.2 _ hl) hdg kk
theorem qr_ldc2 (F : CallFix p mi co cc nL s args Ts own) {index : Nat} {v : Int64} (hl : Cond.constantLong own index v ∈ Ts) (hdg : decode cc pc = .ok (.ldc2_w index, 3)) (kk : W p l e R s mi args below meth co H locs cells slots Q (F0 mi (pc + 3) ls (.long v :: rest))) : W p l e R s mi args below meth co H locs cells slots Q (F0 mi pc ls rest) := lv_ldc2 F.1 F.2.1 F.2.2.2.1 (F.2.2.2.2 _ hl) hdg kk
end QR
