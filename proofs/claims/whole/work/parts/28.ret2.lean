theorem qs_ok_cg {m m' : wm} {T Z H S C N : Nat} (h : ∀ x y : Nat, x ≠ 2 → m' x y = m x y) (ok : qs_ok m T Z H S C N) : qs_ok m' T Z H S C N := by
  obtain ⟨b, ⟨e1, e2, e3, e5, e6, eN, er⟩, okF, okS, okN, v1, v2⟩ := ok
  refine ⟨b, ⟨?_, ?_, ?_, ?_, ?_, ?_, ?_⟩, ?_, ?_, ?_, ?_, ?_⟩
  · rw [h _ _ (by decide), e1]
  · rw [h _ _ (by decide), e2]
  · rw [h _ _ (by decide), e3]
  · rw [h _ _ (by decide), e5]
  · rw [h _ _ (by decide), e6]
  · rw [h _ _ (by decide), eN]
  · rw [h _ _ (by decide)]
    exact er
  · intro i hi
    rw [h _ _ (by decide), h _ _ (by decide), h _ _ (by decide)]
    exact okF i hi
  · intro i hi
    rw [h _ _ (by decide)]
    exact okS i hi
  · intro i hi h2
    rw [h _ _ (by decide)]
    exact okN i hi h2
  · have hc : ∀ n : Nat, qs_hg m' n = qs_hg m n := fun n => qs_hg_cg n (fun i _ => ⟨h _ _ (by decide), h _ _ (by decide)⟩)
    intro i hi
    rw [hc]
    exact qs_step_cg (h _ _ (by decide)) (h _ _ (by decide)) (h _ _ (by decide)) (v1 i hi)
  · rw [qs_hg_cg S (fun i _ => ⟨h _ _ (by decide), h _ _ (by decide)⟩)]
    exact v2
theorem qs_ok_cf {m : wm} {T Z H S C N : Nat} {kd cu : Int32} {C2 : Nat} (ok : qs_ok m T Z H S C N) (hC3 : C2 = if C + 1 ≤ 12 then C + 1 else 12) (hcu : cu = -9 ∨ ∃ q : Nat, cu = nI q ∧ q < N) : qs_ok (qx_cf m H T C kd cu) T Z H S C2 N := by
  obtain ⟨⟨b1, b2, b3, b4, b5, b6, b7⟩, ⟨e1, e2, e3, e5, e6, eN, er⟩, okF, okS, okN, v1, v2⟩ := ok
  have h : ∀ x y : Nat, x < 19 → x ≠ 3 → ¬ (x = 0 ∧ y = 6) → qx_cf m H T C kd cu x y = m x y := fun x y h1 h2 h3 => qx_cf_n h1 h2 h3
  refine ⟨⟨b1, b2, b3, b4, b5, by rw [hC3]; split <;> omega, b7⟩, ⟨?_, ?_, ?_, ?_, ?_, ?_, ?_⟩, ?_, ?_, ?_, ?_, ?_⟩
  · rw [h _ _ (by decide) (by decide) (by decide), e1]
  · rw [h _ _ (by decide) (by decide) (by decide), e2]
  · rw [h _ _ (by decide) (by decide) (by decide), e3]
  · rw [h _ _ (by decide) (by decide) (by decide), e5]
  · rw [hC3]
    rcases hcu with hc | ⟨q, hc, hq⟩
    · subst hc
      rw [qx_cf9]
      simp (disch := omega) only [qx_cf2, qw_u2_n, qw_u2_e]
    · subst hc
      rw [qx_cfq _ _ _ _ _ (by omega)]
      simp (disch := omega) only [qx_cf2, qw_u2_n, qw_u2_e]
  · rw [h _ _ (by decide) (by decide) (by decide), eN]
  · rw [h _ _ (by decide) (by decide) (by decide)]
    exact er
  · intro i hi
    rw [h _ _ (by decide) (by decide) (by omega), h _ _ (by decide) (by decide) (by omega), h _ _ (by decide) (by decide) (by omega)]
    exact okF i hi
  · intro i hi
    rw [h _ _ (by decide) (by decide) (by omega)]
    exact okS i hi
  · intro i hi h2
    have e : qx_cf m H T C kd cu 3 i = m 3 i := by
      rcases hcu with hc | ⟨q, hc, hq⟩
      · subst hc
        rw [qx_cf9]
        simp (disch := omega) only [qx_cf2, qw_u2_n, qx_sh_n]
      · subst hc
        rw [qx_cfq _ _ _ _ _ (by omega)]
        simp (disch := omega) only [qx_cf2, qw_u2_n, qx_sh_n]
    rw [e]
    exact okN i hi h2
  · have hc : ∀ n : Nat, qs_hg (qx_cf m H T C kd cu) n = qs_hg m n := fun n => qs_hg_cg n (fun i _ => ⟨h _ _ (by decide) (by decide) (by omega), h _ _ (by decide) (by decide) (by omega)⟩)
    intro i hi
    rw [hc]
    exact qs_step_cg (h _ _ (by decide) (by decide) (by omega)) (h _ _ (by decide) (by decide) (by omega)) (h _ _ (by decide) (by decide) (by omega)) (v1 i hi)
  · rw [qs_hg_cg S (fun i _ => ⟨h _ _ (by decide) (by decide) (by omega), h _ _ (by decide) (by decide) (by omega)⟩)]
    exact v2
/-- other counts of outcomes -/
theorem qo_cnt {m m' : wm} {s s' : Nat → Int32} {H S C N : Nat} (rl : qs_rel m s H S C N) (hm : ∀ x y : Nat, x ≠ 2 → m' x y = m x y) (hs : ∀ y : Nat, y < 6 ∨ 10 ≤ y → s' y = s y) (h6 : s' 6 = m' 2 0 + m' 2 1) (h7 : s' 7 = m' 2 1) (h8 : s' 8 = m' 2 2) (h9 : s' 9 = m' 2 3) : qs_rel m' s' H S C N := by
  obtain ⟨⟨r0, r1, r2, r3, r4, r5, r6, r7, r8, r9, r10, r11, r12, r13, r14⟩, rF, rS, rT, rP, rN⟩ := rl
  refine ⟨⟨?_, ?_, ?_, ?_, ?_, ?_, h6, h7, h8, h9, ?_, ?_, ?_, ?_, ?_⟩, ?_, ?_, ?_, ?_, ?_⟩
  · rw [hs _ (by decide), hm _ _ (by decide), r0]
  · rw [hs _ (by decide), hm _ _ (by decide), r1]
  · rw [hs _ (by decide), hm _ _ (by decide), r2]
  · rw [hs _ (by decide), hm _ _ (by decide), r3]
  · rw [hs _ (by decide), hm _ _ (by decide), r4]
  · rw [hs _ (by decide), hm _ _ (by decide), r5]
  · rw [hs _ (by decide), hm _ _ (by decide), r10]
  · rw [hs _ (by decide), hm _ _ (by decide), r11]
  · rw [hs _ (by decide), hm _ _ (by decide), r12]
  · rw [hs _ (by decide), hm _ _ (by decide), r13]
  · rw [hs _ (by decide), hm _ _ (by decide), r14]
  · intro k w hk hw
    rw [hs _ (by omega), hm _ _ (by omega)]
    exact rF k w hk hw
  · intro k w hk hw
    rw [hs _ (by omega), hm _ _ (by omega)]
    exact rS k w hk hw
  · intro j w hj hw
    rw [hs _ (by omega), hm _ _ (by omega)]
    exact rT j w hj hw
  · intro k hk
    rw [hs _ (by omega), hs _ (by omega), hm _ _ (by omega), hm _ _ (by omega), hm _ _ (by omega)]
    exact rP k hk
  · intro k hk
    rw [hs _ (by omega), hm _ _ (by omega)]
    exact rN k hk
/-- a frame less, by a return -/
def qx_pop (m : wm) (T2 H S : Nat) : wm := qx_note (qw_u2 (qw_u2 m 0 3 (nI (H - 1))) 0 2 (nI T2)) S 2 (nI 0) (nI 0)
def qx_mpop (t : wm) (T2 H S : Nat) : wm := qx_notes (qw_u2 (qw_u2 t 1 0 (nI (H - 1))) 1 12 (nI T2)) S 2 (nI 0)
theorem qo_popO {m : wm} {T Z H S C N T2 : Nat} (ok : qs_ok m T Z H S C N) (h1 : 1 ≤ H) (hS : S < 200) (hT : T2 < Z) : qs_ok (qx_pop m T2 H S) T2 Z (H - 1) (S + 1) C N := by
  obtain ⟨⟨b1, b2, b3, b4, b5, b6, b7⟩, ⟨e1, e2, e3, e5, e6, eN, er⟩, okF, okS, okN, okV⟩ := ok
  refine ⟨⟨b1, b2, hT, by omega, by omega, b6, by omega⟩, ⟨?_, ?_, ?_, ?_, ?_, ?_, ?_⟩, ?_, ?_, ?_, ?_⟩
  · simp (disch := omega) only [qx_pop, qx_note, qw_u2_n, e1]
  · simp (disch := omega) only [qx_pop, qx_note, qw_u2_n, qw_u2_s]
  · simp (disch := omega) only [qx_pop, qx_note, qw_u2_n, qw_u2_s]
  · simp (disch := omega) only [qx_pop, qx_note, qw_u2_n, qw_u2_s]
  · simp (disch := omega) only [qx_pop, qx_note, qw_u2_n, e6]
  · simp (disch := omega) only [qx_pop, qx_note, qw_u2_n, eN]
  · simp (disch := omega) only [qx_pop, qx_note, qw_u2_n]
    exact er
  · intro i hi
    have e2 : ∀ x : Nat, 8 ≤ x ∧ x < 16 → qx_pop m T2 H S x i = m x i := by
      intro x hx
      simp (disch := omega) only [qx_pop, qx_note, qw_u2_n]
    rw [e2 11 (by omega), e2 12 (by omega), e2 9 (by omega)]
    exact okF i (by omega)
  · intro i hi
    simp (disch := omega) only [qx_pop, qx_note, qw_u2_n]
    exact okS i hi
  · intro i hi h2
    simp (disch := omega) only [qx_pop, qx_note, qw_u2_n]
    exact okN i hi h2
  · refine qs_val_s okV (fun i hi => ?_) ?_ ?_
    · refine ⟨?_, ?_, ?_⟩ <;> simp (disch := omega) only [qx_pop, qx_note, qw_u2_n]
    · refine Or.inr (Or.inr (Or.inl ⟨?_, ?_, ?_, h1⟩))
      · simp (disch := omega) only [qx_pop, qx_note, qw_u2_n, qw_u2_s]
      · simp (disch := omega) only [qx_pop, qx_note, qw_u2_n, qw_u2_s]
      · simp (disch := omega) only [qx_pop, qx_note, qw_u2_n, qw_u2_s]
    · have e : qx_pop m T2 H S 16 S = nI 2 := by simp (disch := omega) only [qx_pop, qx_note, qw_u2_n, qw_u2_s]
      rw [e, if_neg (by decide), if_pos rfl]
theorem qo_popR {m t : wm} {T Z H S C N T2 : Nat} (ok : qs_ok m T Z H S C N) (rl : qs_rel m (t 1) H S C N) (h1 : 1 ≤ H) (hS : S < 200) :
    qs_rel (qx_pop m T2 H S) (qx_mpop t T2 H S 1) (H - 1) (S + 1) C N := by
  obtain ⟨⟨b1, b2, b3, b4, b5, b6, b7⟩, ⟨e1, e2, e3, e5, e6, eN, er⟩, okF, okS, okN, okV⟩ := ok
  obtain ⟨⟨r0, r1, r2, r3, r4, r5, r6, r7, r8, r9, r10, r11, r12, r13, r14⟩, rF, rS, rT, rP, rN⟩ := rl
  refine ⟨⟨?_, ?_, ?_, ?_, ?_, ?_, ?_, ?_, ?_, ?_, ?_, ?_, ?_, ?_, ?_⟩, ?_, ?_, ?_, ?_, ?_⟩
  · simp (disch := omega) only [qx_pop, qx_note, qx_mpop, qx_notes, qw_u2_n, qw_u2_e]
  · simp (disch := omega) only [qx_pop, qx_note, qx_mpop, qx_notes, qw_u2_n, qw_u2_e]
  · simp (disch := omega) only [qx_pop, qx_note, qx_mpop, qx_notes, qw_u2_n, qw_u2_e, r2]
  · simp (disch := omega) only [qx_pop, qx_note, qx_mpop, qx_notes, qw_u2_n, qw_u2_e, r3]
  · simp (disch := omega) only [qx_pop, qx_note, qx_mpop, qx_notes, qw_u2_n, qw_u2_e, r4]
  · simp (disch := omega) only [qx_pop, qx_note, qx_mpop, qx_notes, qw_u2_n, qw_u2_e, r5]
  · simp (disch := omega) only [qx_pop, qx_note, qx_mpop, qx_notes, qw_u2_n, qw_u2_e, r6]
  · simp (disch := omega) only [qx_pop, qx_note, qx_mpop, qx_notes, qw_u2_n, qw_u2_e, r7]
  · simp (disch := omega) only [qx_pop, qx_note, qx_mpop, qx_notes, qw_u2_n, qw_u2_e, r8]
  · simp (disch := omega) only [qx_pop, qx_note, qx_mpop, qx_notes, qw_u2_n, qw_u2_e, r9]
  · simp (disch := omega) only [qx_pop, qx_note, qx_mpop, qx_notes, qw_u2_n, qw_u2_e, r10]
  · simp (disch := omega) only [qx_pop, qx_note, qx_mpop, qx_notes, qw_u2_n, qw_u2_e, r11]
  · simp (disch := omega) only [qx_pop, qx_note, qx_mpop, qx_notes, qw_u2_n, qw_u2_e]
  · simp (disch := omega) only [qx_pop, qx_note, qx_mpop, qx_notes, qw_u2_n, qw_u2_e, r13]
  · simp (disch := omega) only [qx_pop, qx_note, qx_mpop, qx_notes, qw_u2_n, qw_u2_e, r14]
  · intro k w hk hw
    have e : qx_mpop t T2 H S 1 (15 + 5 * k + w) = t 1 (15 + 5 * k + w) := by
      simp (disch := omega) only [qx_mpop, qx_notes, qw_u2_n]
    have e2 : qx_pop m T2 H S (8 + w) k = m (8 + w) k := by
      simp (disch := omega) only [qx_pop, qx_note, qw_u2_n]
    rw [e, e2]
    exact rF k w (by omega) hw
  · intro k w hk hw
    have e : qx_mpop t T2 H S 1 (215 + 3 * k + w) = t 1 (215 + 3 * k + w) := by
      simp (disch := omega) only [qx_mpop, qx_notes, qw_u2_n]
    have e2 : qx_pop m T2 H S (13 + w) k = m (13 + w) k := by
      simp (disch := omega) only [qx_pop, qx_note, qw_u2_n]
    rw [e, e2]
    exact rS k w hk hw
  · intro j w hj hw
    have e : qx_mpop t T2 H S 1 (263 + 6 * (C - 1 - j) + w) = t 1 (263 + 6 * (C - 1 - j) + w) := by
      simp (disch := omega) only [qx_mpop, qx_notes, qw_u2_n]
    have e2 : qx_pop m T2 H S (19 + w) j = m (19 + w) j := by
      simp (disch := omega) only [qx_pop, qx_note, qw_u2_n]
    rw [e, e2]
    exact rT j w hj hw
  · intro k hk
    rcases Nat.lt_or_ge k S with hl | hl
    · obtain ⟨p1, p2⟩ := rP k hl
      have e : ∀ y : Nat, y = 335 + 2 * k ∨ y = 335 + 2 * k + 1 → qx_mpop t T2 H S 1 y = t 1 y := by
        intro y hy
        simp (disch := omega) only [qx_mpop, qx_notes, qw_u2_n]
      have e2 : ∀ x : Nat, 16 ≤ x ∧ x < 19 → qx_pop m T2 H S x k = m x k := by
        intro x hx
        simp (disch := omega) only [qx_pop, qx_note, qw_u2_n]
      rw [e _ (Or.inl rfl), e _ (Or.inr rfl), e2 16 (by omega), e2 17 (by omega), e2 18 (by omega)]
      exact ⟨p1, p2⟩
    · have : k = S := by omega
      subst this
      have e16 : qx_pop m T2 H k 16 k = nI 2 := by simp (disch := omega) only [qx_pop, qx_note, qw_u2_n, qw_u2_e]
      rw [e16, if_neg (show ¬ nI 2 = nI 1 by decide)]
      constructor
      · simp (disch := omega) only [qx_mpop, qx_notes, qw_u2_n, qw_u2_e]
      · simp (disch := omega) only [qx_pop, qx_note, qx_mpop, qx_notes, qw_u2_n, qw_u2_e]
  · intro k hk
    have e : qx_mpop t T2 H S 1 (735 + k) = t 1 (735 + k) := by
      simp (disch := omega) only [qx_mpop, qx_notes, qw_u2_n]
    have e2 : qx_pop m T2 H S 3 k = m 3 k := by
      simp (disch := omega) only [qx_pop, qx_note, qw_u2_n]
    rw [e, e2]
    exact rN k hk
theorem qx_cf_cm (m : wm) (H T C : Nat) (kd cu : Int32) (o : Nat) (v : Int32) : qx_cf (qw_u2 m 2 o v) H T C kd cu = qw_u2 (qx_cf m H T C kd cu) 2 o v := by
  funext x y
  by_cases h : x = 2 ∧ y = o
  · rw [qx_cf_n (by omega) (by omega) (by omega), qw_u2_at, if_pos h, qw_u2_at, if_pos h]
  · have e : qx_sh (qw_u2 m 2 o v) x y = qx_sh m x y := by
      unfold qx_sh
      split
      · rw [qw_u2_n _ _ (by omega)]
      · rw [qw_u2_n _ _ h]
    rw [qw_u2_n _ _ h]
    unfold qx_cf
    by_cases hc : cu = -9
    · rw [if_pos hc, if_pos hc]
      simp only [qw_u2_at _ 0, qw_u2_at _ 24, qw_u2_at _ 23, qw_u2_at _ 22, qw_u2_at _ 21, qw_u2_at _ 20, qw_u2_at _ 19, e]
      simp (disch := omega) only [qw_u2_n]
    · rw [if_neg hc, if_neg hc]
      simp only [qw_u2_at _ 3, qw_u2_at _ 0, qw_u2_at _ 24, qw_u2_at _ 23, qw_u2_at _ 22, qw_u2_at _ 21, qw_u2_at _ 20, qw_u2_at _ 19, e]
      simp (disch := omega) only [qw_u2_n]
