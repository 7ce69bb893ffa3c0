theorem qa_p0 (x : Int32) : x + nI 0 = x := Int32.add_zero x
theorem qa_ac (a b : Int32) : a + b + nI 1 = a + nI 1 + b := by rw [Int32.add_assoc, Int32.add_comm b, ← Int32.add_assoc]
theorem qa_aa (a b : Int32) : a + b + nI 1 = a + (b + nI 1) := Int32.add_assoc a b (nI 1)
def qx_cf2 (m : wm) (H T C : Nat) (kd cu : Int32) : wm := qw_u2 (qw_u2 (qw_u2 (qw_u2 (qw_u2 (qw_u2 (qw_u2 (qx_sh m) 19 0 kd) 20 0 cu) 21 0 (m 8 (H - 1))) 22 0 (m 14 T)) 23 0 (m 10 (H - 1))) 24 0 (m 0 5)) 0 6 (nI (if C + 1 ≤ 12 then C + 1 else 12))
theorem qx_cf9 (m : wm) (H T C : Nat) (kd : Int32) : qx_cf m H T C kd (-9) = qx_cf2 m H T C kd (-9) := by
  unfold qx_cf
  rw [if_pos rfl]
  rfl
theorem qx_cfq (m : wm) (H T C : Nat) (kd : Int32) {q : Nat} (hq : q < 200) : qx_cf m H T C kd (nI q) = qw_u2 (qx_cf2 m H T C kd (nI q)) 3 q (m 3 q + nI 1) := by
  unfold qx_cf
  rw [if_neg (show ¬ nI q = -9 by rw [qa_n9 (by omega)]; exact fun h => h), qa_cl (by omega)]
  rfl
def qx_mtl2 (t u : wm) (D f T : Nat) (kd cu : Int32) : wm := qw_u2 (qw_u2 (qw_u2 (qw_u2 (qw_u2 (qw_u2 (qw_u2 u 1 (263 + 6 * D) kd) 1 (263 + 6 * D + 1) cu) 1 (263 + 6 * D + 2) (t 1 (15 + 5 * f + 0))) 1 (263 + 6 * D + 3) (t 1 (215 + 3 * T + 1))) 1 (263 + 6 * D + 4) (t 1 (15 + 5 * f + 2))) 1 (263 + 6 * D + 5) (t 1 1)) 1 10 (nI (D + 1))
theorem qx_mtl9 (t u : wm) (D f T : Nat) (kd : Int32) : qx_mtl t u D f T kd (-9) = qx_mtl2 t u D f T kd (-9) := by
  unfold qx_mtl
  rw [if_pos rfl]
  rfl
theorem qx_mtlq (t u : wm) (D f T : Nat) (kd : Int32) {q : Nat} (hq : q < 200) : qx_mtl t u D f T kd (nI q) = qw_u2 (qx_mtl2 t u D f T kd (nI q)) 1 (735 + q) (t 1 (735 + q) + nI 1) := by
  unfold qx_mtl
  rw [if_neg (show ¬ nI q = -9 by rw [qa_n9 (by omega)]; exact fun h => h), qa_cl (by omega)]
  rfl
/-- the relation behind a confession, ahead of the names -/
theorem qo_cf2 {m t u : wm} {T Z H S C N : Nat} {kd cu : Int32} {D C2 : Nat} (ok : qs_ok m T Z H S C N) (rl : qs_rel m (t 1) H S C N) (h1 : 1 ≤ H) (hD : D < 12) (hC2 : C2 = D + 1) (hC3 : C2 = if C + 1 ≤ 12 then C + 1 else 12)
    (hu : ∀ y : Nat, y < 263 ∨ 335 ≤ y → y ≠ 10 → u 1 y = t 1 y) (hs : ∀ j w : Nat, 1 ≤ j → j < C2 → w < 6 → u 1 (263 + 6 * (C2 - 1 - j) + w) = m (19 + w) (j - 1)) :
    qs_rel (qx_cf2 m H T C kd cu) (qx_mtl2 t u D (H - 1) T kd cu 1) H S C2 N := by
  obtain ⟨⟨b1, b2, b3, b4, b5, b6, b7⟩, ⟨e1, e2, e3, e5, e6, eN, er⟩, okF, okS, okN, okV⟩ := ok
  obtain ⟨⟨r0, r1, r2, r3, r4, r5, r6, r7, r8, r9, r10, r11, r12, r13, r14⟩, rF, rS, rT, rP, rN⟩ := rl
  refine ⟨⟨?_, ?_, ?_, ?_, ?_, ?_, ?_, ?_, ?_, ?_, ?_, ?_, ?_, ?_, ?_⟩, ?_, ?_, ?_, ?_, ?_⟩
  · simp (disch := omega) only [qx_cf2, qx_mtl2, qw_u2_n, qw_u2_e, qx_sh_n, hu, r0]
  · simp (disch := omega) only [qx_cf2, qx_mtl2, qw_u2_n, qw_u2_e, qx_sh_n, hu, r1]
  · simp (disch := omega) only [qx_cf2, qx_mtl2, qw_u2_n, qw_u2_e, qx_sh_n, hu, r2]
  · simp (disch := omega) only [qx_cf2, qx_mtl2, qw_u2_n, qw_u2_e, qx_sh_n, hu, r3]
  · simp (disch := omega) only [qx_cf2, qx_mtl2, qw_u2_n, qw_u2_e, qx_sh_n, hu, r4]
  · simp (disch := omega) only [qx_cf2, qx_mtl2, qw_u2_n, qw_u2_e, qx_sh_n, hu, r5]
  · simp (disch := omega) only [qx_cf2, qx_mtl2, qw_u2_n, qw_u2_e, qx_sh_n, hu, r6]
  · simp (disch := omega) only [qx_cf2, qx_mtl2, qw_u2_n, qw_u2_e, qx_sh_n, hu, r7]
  · simp (disch := omega) only [qx_cf2, qx_mtl2, qw_u2_n, qw_u2_e, qx_sh_n, hu, r8]
  · simp (disch := omega) only [qx_cf2, qx_mtl2, qw_u2_n, qw_u2_e, qx_sh_n, hu, r9]
  · simp (disch := omega) only [qx_cf2, qx_mtl2, qw_u2_n, qw_u2_e, ← hC3, hC2]
  · simp (disch := omega) only [qx_cf2, qx_mtl2, qw_u2_n, qw_u2_e, qx_sh_n, hu, r11]
  · simp (disch := omega) only [qx_cf2, qx_mtl2, qw_u2_n, qw_u2_e, qx_sh_n, hu, r12]
  · simp (disch := omega) only [qx_cf2, qx_mtl2, qw_u2_n, qw_u2_e, qx_sh_n, hu, r13]
  · simp (disch := omega) only [qx_cf2, qx_mtl2, qw_u2_n, qw_u2_e, qx_sh_n, hu, r14]
  · intro k w hk hw
    have e : qx_mtl2 t u D (H - 1) T kd cu 1 (15 + 5 * k + w) = t 1 (15 + 5 * k + w) := by
      simp (disch := omega) only [qx_mtl2, qw_u2_n, hu]
    have e2 : qx_cf2 m H T C kd cu (8 + w) k = m (8 + w) k := by
      simp (disch := omega) only [qx_cf2, qw_u2_n, qx_sh_n]
    rw [e, e2]
    exact rF k w hk hw
  · intro k w hk hw
    have e : qx_mtl2 t u D (H - 1) T kd cu 1 (215 + 3 * k + w) = t 1 (215 + 3 * k + w) := by
      simp (disch := omega) only [qx_mtl2, qw_u2_n, hu]
    have e2 : qx_cf2 m H T C kd cu (13 + w) k = m (13 + w) k := by
      simp (disch := omega) only [qx_cf2, qw_u2_n, qx_sh_n]
    rw [e, e2]
    exact rS k w hk hw
  · intro j w hj hw
    rcases Nat.eq_zero_or_pos j with h0 | h0
    · subst h0
      have f0 := rF (H - 1) 0 (by omega) (by decide)
      have f2 := rF (H - 1) 2 (by omega) (by decide)
      have s1 := rS T 1 (by omega) (by decide)
      rcases (show w = 0 ∨ w = 1 ∨ w = 2 ∨ w = 3 ∨ w = 4 ∨ w = 5 by omega) with rfl | rfl | rfl | rfl | rfl | rfl <;>
        simp (disch := omega) only [qx_cf2, qx_mtl2, qw_u2_n, qw_u2_e, f0, f2, s1, r1]
    · have e : qx_mtl2 t u D (H - 1) T kd cu 1 (263 + 6 * (C2 - 1 - j) + w) = u 1 (263 + 6 * (C2 - 1 - j) + w) := by
        simp (disch := omega) only [qx_mtl2, qw_u2_n]
      have e2 : qx_cf2 m H T C kd cu (19 + w) j = m (19 + w) (j - 1) := by
        simp (disch := omega) only [qx_cf2, qw_u2_n]
        unfold qx_sh
        rw [if_pos (by omega)]
      rw [e, e2]
      exact hs j w h0 hj hw
  · intro k hk
    have e : ∀ y : Nat, y = 335 + 2 * k ∨ y = 335 + 2 * k + 1 → qx_mtl2 t u D (H - 1) T kd cu 1 y = t 1 y := by
      intro y hy
      simp (disch := omega) only [qx_mtl2, qw_u2_n, hu]
    have e2 : ∀ x : Nat, 16 ≤ x ∧ x < 19 → qx_cf2 m H T C kd cu x k = m x k := by
      intro x hx
      simp (disch := omega) only [qx_cf2, qw_u2_n, qx_sh_n]
    rw [e _ (Or.inl rfl), e _ (Or.inr rfl), e2 16 (by omega), e2 17 (by omega), e2 18 (by omega)]
    exact rP k hk
  · intro k hk
    have e : qx_mtl2 t u D (H - 1) T kd cu 1 (735 + k) = t 1 (735 + k) := by
      simp (disch := omega) only [qx_mtl2, qw_u2_n, hu]
    have e2 : qx_cf2 m H T C kd cu 3 k = m 3 k := by
      simp (disch := omega) only [qx_cf2, qw_u2_n, qx_sh_n]
    rw [e, e2]
    exact rN k hk
/-- a name more -/
theorem qo_name {m : wm} {s : Nat → Int32} {H S C N q : Nat} {v : Int32} {m' : wm} {s' : Nat → Int32} (rl : qs_rel m s H S C N) (hq : q < N)
    (hm : ∀ x y, m' x y = if x = 3 ∧ y = q then v else m x y) (hs : ∀ y, s' y = if y = 735 + q then v else s y) (hS : S ≤ 200) (hC : C ≤ 12) (hH : H ≤ 40) : qs_rel m' s' H S C N := by
  obtain ⟨⟨r0, r1, r2, r3, r4, r5, r6, r7, r8, r9, r10, r11, r12, r13, r14⟩, rF, rS, rT, rP, rN⟩ := rl
  have em : ∀ x y, ¬ (x = 3 ∧ y = q) → m' x y = m x y := fun x y h => by rw [hm, if_neg h]
  have es : ∀ y, y ≠ 735 + q → s' y = s y := fun y h => by rw [hs, if_neg h]
  refine ⟨⟨?_, ?_, ?_, ?_, ?_, ?_, ?_, ?_, ?_, ?_, ?_, ?_, ?_, ?_, ?_⟩, ?_, ?_, ?_, ?_, ?_⟩
  · simp (disch := omega) only [em, es, r0]
  · simp (disch := omega) only [em, es, r1]
  · simp (disch := omega) only [em, es, r2]
  · simp (disch := omega) only [em, es, r3]
  · simp (disch := omega) only [em, es, r4]
  · simp (disch := omega) only [em, es, r5]
  · simp (disch := omega) only [em, es, r6]
  · simp (disch := omega) only [em, es, r7]
  · simp (disch := omega) only [em, es, r8]
  · simp (disch := omega) only [em, es, r9]
  · simp (disch := omega) only [em, es, r10]
  · simp (disch := omega) only [em, es, r11]
  · simp (disch := omega) only [em, es, r12]
  · simp (disch := omega) only [em, es, r13]
  · simp (disch := omega) only [em, es, r14]
  · intro k w hk hw
    rw [es _ (by omega), em _ _ (by omega)]
    exact rF k w hk hw
  · intro k w hk hw
    rw [es _ (by omega), em _ _ (by omega)]
    exact rS k w hk hw
  · intro j w hj hw
    rw [es _ (by omega), em _ _ (by omega)]
    exact rT j w hj hw
  · intro k hk
    rw [es _ (by omega), es _ (by omega), em _ _ (by omega), em _ _ (by omega), em _ _ (by omega)]
    exact rP k hk
  · intro k hk
    by_cases h : k = q
    · subst h
      rw [hs, if_pos rfl, hm, if_pos ⟨rfl, rfl⟩]
    · rw [es _ (by omega), em _ _ (by omega)]
      exact rN k hk
theorem qo_cf {m t : wm} {T Z H S C N : Nat} {kd cu : Int32} {C2 : Nat} (ok : qs_ok m T Z H S C N) (rl : qs_rel m (t 1) H S C N) (h1 : 1 ≤ H) (hC3 : C2 = if C + 1 ≤ 12 then C + 1 else 12)
    (hcu : cu = -9 ∨ ∃ q : Nat, cu = nI q ∧ q < N) :
    qs_rel (qx_cf m H T C kd cu) (qx_mtell t C (H - 1) T kd cu 1) H S C2 N := by
  have ok0 := ok
  have rl0 := rl
  obtain ⟨⟨b1, b2, b3, b4, b5, b6, b7⟩, -⟩ := ok
  obtain ⟨-, -, -, rT, -, rN⟩ := rl
  have key : ∃ (u : wm) (D : Nat), D < 12 ∧ C2 = D + 1 ∧ (∀ cu, qx_mtell t C (H - 1) T kd cu = qx_mtl t u D (H - 1) T kd cu) ∧ (∀ y : Nat, y < 263 ∨ 335 ≤ y → y ≠ 10 → u 1 y = t 1 y) ∧ (∀ j w : Nat, 1 ≤ j → j < C2 → w < 6 → u 1 (263 + 6 * (C2 - 1 - j) + w) = m (19 + w) (j - 1)) := by
    by_cases h : C = 12
    · refine ⟨qw_u2 (qx_msh 263 t) 1 10 (nI 11), 11, by omega, ?_, fun cu => ?_, fun y hy h10 => ?_, fun j w hj hj2 hw => ?_⟩
      · rw [hC3, if_neg (by omega)]
      · unfold qx_mtell
        rw [if_pos h]
      · rw [qw_u2_n _ _ (by omega), qx_msh_n (by omega)]
      · have hc : C2 = 12 := by rw [hC3, if_neg (by omega)]
        rw [qw_u2_n _ _ (by omega), ← rT (j - 1) w (by omega) hw]
        unfold qx_msh
        rw [if_pos (by omega)]
        congr 1
        omega
    · have hc : C2 = C + 1 := by rw [hC3, if_pos (by omega)]
      refine ⟨t, C, by omega, hc, fun cu => ?_, fun y hy h10 => rfl, fun j w hj hj2 hw => ?_⟩
      · unfold qx_mtell
        rw [if_neg h]
      · rw [← rT (j - 1) w (by omega) hw]
        congr 1
        omega
  obtain ⟨u, D, k1, k2, k3, k4, k5⟩ := key
  rw [k3]
  rcases hcu with h | ⟨q, h, hq⟩
  · subst h
    rw [qx_cf9, qx_mtl9]
    exact qo_cf2 ok0 rl0 h1 k1 k2 hC3 k4 k5
  · subst h
    rw [qx_cfq _ _ _ _ _ (by omega), qx_mtlq _ _ _ _ _ _ (by omega)]
    refine qo_name (q := q) (v := m 3 q + nI 1) (qo_cf2 (kd := kd) (cu := nI q) ok0 rl0 h1 k1 k2 hC3 k4 k5) hq (fun x y => ?_) (fun y => ?_) b5 (by rw [hC3]; split <;> omega) b4
    · rw [qw_u2_at]
    · rw [qw_u2_at]
      by_cases h : y = 735 + q
      · rw [if_pos ⟨rfl, h⟩, if_pos h, rN q hq]
      · rw [if_neg (fun z => h z.2), if_neg h]
