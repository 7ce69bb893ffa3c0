/-- the classes, and the three kinds of arrays, at a state -/
def qz_T (cI cS cT cJ : ClassId) : List (ClassId × FieldType) := [(cI, .int), (cS, .object "ReturnPile$State"), (cT, .array .int), (cJ, .long)]
def qz_K (D : va_G) (cI cS cT cJ : ClassId) (U : State) : Prop := va_K D vwCl (qz_T cI cS cT cJ) U ∧ va_AO "ReturnPile$State" U ∧ va_AOA .int U
theorem qz_K.moved {D : va_G} {cI cS cT cJ : ClassId} {u U : State} (hvm : u.vm.Alike U.vm) (h : qz_K D cI cS cT cJ u) : qz_K D cI cS cT cJ U := ⟨va_K.moved hvm h.1, va_AO.moved hvm h.2.1, va_AOA.moved hvm h.2.2⟩
theorem qz_K.of {D : va_G} {U : State} {A B C E : Array Value} (hD : va_K D vwCl [] U) (h1 : (Cond.arrayClass .int).before A U = true) (h2 : (Cond.arrayOver (.object "ReturnPile$State")).before B U = true) (h3 : (Cond.arrayOver (.array .int)).before C U = true) (h4 : (Cond.arrayClass .long).before E U = true) : ∃ cI cS cT cJ : ClassId, qz_K D cI cS cT cJ U := by
  obtain ⟨comp2, c2, k2, a1, a2, a3, a4, a5⟩ := Cond.arrayOver_spec h2
  obtain ⟨comp3, c3, k3, b1, b2, b3, b4, b5⟩ := (va_AOA.of h3).idx
  have e1 : ∃ (c1 : ClassId) (k1 : Class) (comp1 : ClassId), U.vm.findClass ("[" ++ FieldType.int.toString) = some c1 ∧ U.vm.classes[c1]? = some k1 ∧ k1.kind = .array comp1 .int := by
    unfold Cond.before Cond.holds at h1
    simp only [Cond.value, beq_iff_eq, Option.map_eq_some_iff, Option.bind_eq_some_iff] at h1
    obtain ⟨k1, ⟨c1, f1, f2⟩, f3⟩ := h1
    cases hk : k1.kind with
    | array comp1 ty9 =>
      rw [hk] at f3
      simp at f3
      exact ⟨c1, k1, comp1, f1, f2, by rw [hk, f3]⟩
    | _ => rw [hk] at f3; simp at f3
  obtain ⟨c1, k1, comp1, d1, d2, d3⟩ := e1
  have e4 : ∃ (c1 : ClassId) (k1 : Class) (comp1 : ClassId), U.vm.findClass ("[" ++ FieldType.long.toString) = some c1 ∧ U.vm.classes[c1]? = some k1 ∧ k1.kind = .array comp1 .long := by
    unfold Cond.before Cond.holds at h4
    simp only [Cond.value, beq_iff_eq, Option.map_eq_some_iff, Option.bind_eq_some_iff] at h4
    obtain ⟨k1, ⟨c1, f1, f2⟩, f3⟩ := h4
    cases hk : k1.kind with
    | array comp1 ty9 =>
      rw [hk] at f3
      simp at f3
      exact ⟨c1, k1, comp1, f1, f2, by rw [hk, f3]⟩
    | _ => rw [hk] at f3; simp at f3
  obtain ⟨c4, k4, comp4, g1, g2, g3⟩ := e4
  refine ⟨c1, c2, c3, c4, ⟨hD.1, fun k q hq => ?_⟩, va_AO.of h2, va_AOA.of h3⟩
  rcases (show k = 0 ∨ k = 1 ∨ k = 2 ∨ k = 3 by
    have : k < 4 := (List.getElem?_eq_some_iff.mp hq).1
    omega) with rfl | rfl | rfl | rfl
  · cases hq
    exact ⟨fun N z => ⟨(fun k h => by cases h), k1, d2, comp1, d3⟩, d1⟩
  · cases hq
    exact ⟨fun N z => ⟨(fun k h => by cases h), k2, a3, comp2, a4⟩, k2, comp2, a3, a4, a1, a5⟩
  · cases hq
    exact ⟨fun N z => ⟨(fun k h => by cases h), k3, b3, comp3, b4⟩, b5⟩
  · cases hq
    exact ⟨fun N z => ⟨(fun k h => by cases h), k4, g2, comp4, g3⟩, g1⟩
section QZ
variable {p : Program} {l : Launch} {e : Env} {R : Room} {s : State} {mi : MethodId} {args : Array Value} {below : List Frame} {meth : Method} {co : Code} {H : Heap} {locs : List Loc} {cells slots : Nat} {Q : State → Prop}
variable {cc : ByteArray} {pc nL : Nat} {ls : Array Slot} {rest : List Value} {A : Nat → Prop} {H0 : Heap} {Ts : List Cond} {own : String} {index : Nat} {D : va_G} {cI cS cT cJ : ClassId} {ws : va_W}
abbrev qz_int (cI : ClassId) (n : Nat) : va_E := .inl (cI, n, .inl (fun _ => 0))
theorem qz_newa (F : CallFix p mi co cc nL s args Ts own) (K : qz_K D cI cS cT cJ s) (hw : Cond.arrayClass .int ∈ Ts) (hP : va_P D vwCl ws H) (hD : va_D A ws) (hS : va_S A H0 H locs) (hA : ∀ q, H0.size ≤ q → A q) {n : Int32} {N' : Nat} (hn : ¬ n < 0) (hN : n.toNatClampNeg = N') (hb : N' ≤ 5000) (hcells : cells + 1 ≤ R.cells) (hslots : slots + N' ≤ R.slots) (hdg : decode cc pc = .ok (.newarray .int, 2))
    (kk : ∀ (q : Nat) (H1 : Heap), va_P D vwCl (ws ++ [(q, qz_int cI N')]) H1 → va_D A (ws ++ [(q, qz_int cI N')]) → va_S A H0 H1 locs → W p l e R s mi args below meth co H1 locs (cells + 1) (slots + N') Q (F0 mi (pc + 2) ls (.ref q :: rest))) : W p l e R s mi args below meth co H locs cells slots Q (F0 mi pc ls (.int n :: rest)) := by
  refine va_newa (atype := .int) (ty := .int) (a0 := (N', .inl (fun _ => 0))) F.1 F.2.1 (F.2.2.2.2 _ hw) rfl K.1 hP hD hS hA (fun _ => rfl) hn hN (by show N' * 4 ≤ 536870912; omega) hcells hslots hdg (fun q cA H1 hK hP hD hS => ?_)
  have e : cA = cI := by
    have h1 := (hK.2 4 _ rfl).2
    have h2 := (K.1.2 0 _ rfl).2
    exact Option.some.inj (h1.symm.trans h2)
  subst e
  exact kk q H1 hP hD hS
abbrev qz_lng (cJ : ClassId) (n : Nat) : va_E := .inl (cJ, n, .inr (.inl (fun _ => 0)))
theorem qz_newl (F : CallFix p mi co cc nL s args Ts own) (K : qz_K D cI cS cT cJ s) (hw : Cond.arrayClass .long ∈ Ts) (hP : va_P D vwCl ws H) (hD : va_D A ws) (hS : va_S A H0 H locs) (hA : ∀ q, H0.size ≤ q → A q) {n : Int32} {N' : Nat} (hn : ¬ n < 0) (hN : n.toNatClampNeg = N') (hb : N' ≤ 5000) (hcells : cells + 1 ≤ R.cells) (hslots : slots + N' ≤ R.slots) (hdg : decode cc pc = .ok (.newarray .long, 2))
    (kk : ∀ (q : Nat) (H1 : Heap), va_P D vwCl (ws ++ [(q, qz_lng cJ N')]) H1 → va_D A (ws ++ [(q, qz_lng cJ N')]) → va_S A H0 H1 locs → W p l e R s mi args below meth co H1 locs (cells + 1) (slots + N') Q (F0 mi (pc + 2) ls (.ref q :: rest))) : W p l e R s mi args below meth co H locs cells slots Q (F0 mi pc ls (.int n :: rest)) := by
  refine va_newa (atype := .long) (ty := .long) (a0 := (N', .inr (.inl (fun _ => 0)))) F.1 F.2.1 (F.2.2.2.2 _ hw) rfl K.1 hP hD hS hA (fun _ => rfl) hn hN (by show N' * 8 ≤ 536870912; omega) hcells hslots hdg (fun q cA H1 hK hP hD hS => ?_)
  have e : cA = cJ := by
    have h1 := (hK.2 4 _ rfl).2
    have h2 := (K.1.2 3 _ rfl).2
    exact Option.some.inj (h1.symm.trans h2)
  subst e
  exact kk q H1 hP hD hS
theorem qz_mna (F : CallFix p mi co cc nL s args Ts own) (K : qz_K D cI cS cT cJ s) (hl : Cond.classLink own index "[[I" ∈ Ts) (hw : Cond.arrayClass .int ∈ Ts) (hP : va_P D vwCl ws H) (hD : va_D A ws) (hS : va_S A H0 H locs) (hA : ∀ q, H0.size ≤ q → A q) {n k : Int32} {N' K' : Nat} (hn : ¬ n < 0) (hk : ¬ k < 0) (hN : n.toNatClampNeg = N') (hM : k.toNatClampNeg = K') (hb : N' ≤ 5000) (hb2 : K' ≤ 5000) (hcells : cells + (1 + N') ≤ R.cells) (hslots : slots + (N' + N' * K') ≤ R.slots) (hdg : decode cc pc = .ok (.multianewarray index 2, 4))
    (kk : ∀ (q : Nat) (r : Nat → Nat) (H1 : Heap), va_P D vwCl ((ws ++ [(q, .inl (cT, N', .inr (.inr (.inr (.inr (fun i => if i < N' then some (r i) else none))))))]) ++ (List.range N').map (fun i => (r i, qz_int cI K'))) H1 → va_D A ((ws ++ [(q, .inl (cT, N', .inr (.inr (.inr (.inr (fun i => if i < N' then some (r i) else none))))))]) ++ (List.range N').map (fun i => (r i, qz_int cI K'))) → va_S A H0 H1 locs →
      W p l e R s mi args below meth co H1 locs (cells + 1 + N') (slots + N' + N' * K') Q (F0 mi (pc + 4) ls (.ref q :: rest))) : W p l e R s mi args below meth co H locs cells slots Q (F0 mi pc ls (.int k :: .int n :: rest)) := by
  have e0 : ws = ws ++ va_pl [] (fun _ => .inr (0, [])) := (List.append_nil ws).symm
  rw [e0] at hP hD
  have hcI : s.vm.findClass (FieldType.array .int).toString = some cI := (K.1.2 0 _ rfl).2
  refine va_mna (ty := .int) (z := (K', .inl (fun _ => 0))) F.1 F.2.1 F.2.2.2.1 (F.2.2.2.2 _ hl) K.2.2 (F.2.2.2.2 _ hw) hcI K.1 hP hD hS hA hn hk hN hM (by omega) (by show K' * 4 ≤ 536870912; omega) (by omega) rfl rfl hcells hslots (fun c => ?_) hdg (fun q r cA H1 hinj hnin hK hP hD hS => ?_)
  · show ({ cls := c, slots := Array.replicate K' (defaultValue .int), vm := .none } : Cell) = _
    exact arrV_new c K' (defaultValue .int)
  · have e : cA = cT := by
      have h1 := (hK.2 4 _ rfl).2
      have h2 := (K.1.2 2 _ rfl).2
      exact Option.some.inj (h1.symm.trans h2)
    subst e
    have em : va_pl ([] ++ (List.range N').map r) (vr_up (fun _ => (.inr (0, []) : va_E)) ((List.range N').map r) (.inl (cI, (K', .inl (fun _ => 0))))) = (List.range N').map (fun i => (r i, qz_int cI K')) := by
      rw [List.nil_append]
      unfold va_pl
      rw [List.map_map]
      apply List.map_congr_left
      intro i hi
      show (r i, _) = _
      rw [vr_up_in (List.mem_map.mpr ⟨i, hi, rfl⟩)]
    rw [em] at hP hD
    exact kk q r H1 hP hD hS
/-- a final field that holds a reference -/
theorem qz_put (F : CallFix p mi co cc nL s args Ts own) {C : String} {T : u_T} {N ci : Nat} {Ws : List Cond} (hw : ∀ w ∈ u_ws C T N, w.before args s = true) (ty0 : Nat → FieldType) (hty : ∀ k, k < N → parseFieldDescriptor (T k).2.2.1 = some (ty0 k)) (hnm : ∀ a, a < N → ∀ b, b < N → a ≠ b → (T a).2.1 ≠ (T b).2.1) (K : qz_K D cI cS cT cJ s) {a q : Nat} {fs : List Value} (hP : va_P D vwCl ((a, .inr (ci, fs)) :: ws) H) (hD : va_D A ((a, .inr (ci, fs)) :: ws)) (hS : va_S A H0 H locs) (hc : vwCl[ci]? = some (C, T, N)) (k : Nat) (hk : k < N) (hl : Cond.fieldLink own index C (T k).2.1 (T k).2.2.1 ∈ Ts) (hC : (T k).1 = C) (hfin : (T k).2.2.2 = true) (hin : meth.name = "<init>") (hdecl : (T k).1 = own) {ty : FieldType} (hd : parseFieldDescriptor (T k).2.2.1 = some ty) (hn : narrow ty (.ref q) = .ref q) (hfit : fits ty (.ref q) = true) (hlen : k < fs.length) (hdg : decode cc pc = .ok (.putfield index, 3))
    (kk : ∀ (H : Heap) (locs : List Loc), va_P D vwCl ((a, .inr (ci, fs.set k (.ref q))) :: ws) H → va_D A ((a, .inr (ci, fs.set k (.ref q))) :: ws) → va_S A H0 H locs → W p l e R s mi args below meth co H locs cells slots Q (F0 mi (pc + 3) ls rest)) : W p l e R s mi args below meth co H locs cells slots Q (F0 mi pc ls (.ref q :: .ref a :: rest)) :=
  va_putF (D := D) (ci := ci) (v := .ref q) (ty := ty) (C := C) (T := T) (N := N) F.1 F.2.1 hw (fun _ h => h) ty0 hty hnm F.2.2.2.1 K.1 hP hD hS 0 rfl hc k hk (F.2.2.2.2 _ hl) (fun _ h9 => by rw [hC] at h9; exact h9) hfin hin hdecl hd hn hfit hlen hdg (fun H locs hP hD hS => kk H locs hP hD hS)
end QZ
/-- Object.<init>, then on -/
theorem qz_join {D : va_G} {A : Nat → Prop} {ws w1 : va_W} {q : Nat} {e : va_E} {H H1 : Heap} (hP : va_P D vwCl (ws ++ [(q, e)]) H) (hD : va_D A (ws ++ [(q, e)])) (hk : ∀ x : Nat, x < H.size → ¬ va_A [(q, e)] H.size x → H1[x]? = H[x]?) (hP1 : va_P D vwCl w1 H1) (hD1 : va_D (va_A [(q, e)] H.size) w1) (hA : ∀ x, va_A [(q, e)] H.size x → A x) : va_P D vwCl (ws ++ w1) H1 ∧ va_D A (ws ++ w1) := by
  have hin : ∀ (i : Nat) (x : Nat × va_E), ws[i]? = some x → x.1 < H.size ∧ ¬ va_A [(q, e)] H.size x.1 := by
    intro i x hx
    have hi : i < ws.length := (List.getElem?_eq_some_iff.mp hx).1
    have hx2 : (ws ++ [(q, e)])[i]? = some x := by rw [List.getElem?_append_left hi]; exact hx
    have hlt := (hP i x hx2).lt
    refine ⟨hlt, fun h => ?_⟩
    rcases h with ⟨k, e2, h⟩ | h
    · have h0 : k < 1 := (List.getElem?_eq_some_iff.mp h).1
      rw [show k = 0 by omega] at h
      have h2 : (q, e) = (x.1, e2) := Option.some.inj h
      have hq : (ws ++ [(q, e)])[ws.length]? = some (q, e) := by rw [List.getElem?_append_right (Nat.le_refl _), Nat.sub_self]; rfl
      have := hD.1 i ws.length x (q, e) hx2 hq (by rw [h2])
      omega
    · omega
  refine ⟨va_P.app (fun i x hx => ?_) hP1, ?_, ?_⟩
  · obtain ⟨h1, h2⟩ := hin i x hx
    have hi : i < ws.length := (List.getElem?_eq_some_iff.mp hx).1
    exact (hP i x (by rw [List.getElem?_append_left hi]; exact hx)).kept (hk x.1 h1 h2)
  · intro i j x y hx hy hxy
    by_cases h1 : i < ws.length
    · rw [List.getElem?_append_left h1] at hx
      by_cases h2 : j < ws.length
      · rw [List.getElem?_append_left h2] at hy
        exact hD.1 i j x y (by rw [List.getElem?_append_left h1]; exact hx) (by rw [List.getElem?_append_left h2]; exact hy) hxy
      · rw [List.getElem?_append_right (by omega)] at hy
        exact absurd (by rw [hxy]; exact hD1.2 _ y hy) (hin i x hx).2
    · rw [List.getElem?_append_right (by omega)] at hx
      by_cases h2 : j < ws.length
      · rw [List.getElem?_append_left h2] at hy
        exact absurd (by rw [← hxy]; exact hD1.2 _ x hx) (hin j y hy).2
      · rw [List.getElem?_append_right (by omega)] at hy
        have := hD1.1 _ _ x y hx hy hxy
        omega
  · intro i x hx
    by_cases h1 : i < ws.length
    · rw [List.getElem?_append_left h1] at hx
      exact hD.2 i x (by rw [List.getElem?_append_left h1]; exact hx)
    · rw [List.getElem?_append_right (by omega)] at hx
      exact hA _ (hD1.2 _ x hx)
