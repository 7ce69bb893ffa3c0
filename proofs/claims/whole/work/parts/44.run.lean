/-- the steps' outcome: how the reference ends, and the class -/
def qv_OO (B : wM) (h : Nat → Nat) (t0 : wm) (A : Option (Int32 × wM × (Nat → Nat))) (C : Option (Int32 × wm)) : Prop :=
  (∃ (m1 : wm) (z : Nat) (x1 : Int32) (s2 : Nat → Int32) (p2 : Nat) (v2 : Int32), z ≤ 120 ∧ A = some (-1, qv_st B m1 z, h) ∧ C = qf_X3_run_74 x1 (nI z) (qv_rt t0 s2 p2 v2)) ∨
  (∃ (m1 : wm) (z c : Nat) (s2 : Nat → Int32) (p2 : Nat) (v2 : Int32), c ≤ 120 ∧ A = some (nI c, qv_st B m1 z, h) ∧ C = qf_X3_run_74 (nI c) (-9) (qv_rt t0 s2 p2 v2) ∧ qs_R m1 s2)
theorem qv_steps {B : wM} {h : Nat → Nat} {D : Nat} {ch : Nat → Int32} {t0 : wm} (hD : D ≤ 120) (X8 : qd_tx (B 8) ch D) (X : qd_rx t0 ch D) (e4 : t0 0 4 = nI 1) : ∀ (d n p c : Nat) (m0 : wm) (s : Nat → Int32) (v : Int32), p ≤ D → D - p = d → d < n → c ≤ p → qs_R m0 s →
    qv_OO B h t0 (qf_X2_takeStepsOfText_10 n (nI c) (qv_st B m0 p) h) (qf_X3_run_46 n (nI c) (-9) (qv_rt t0 s (qd_sk ch D p) v)) := by
  intro d
  induction d using Nat.strongRecOn with
  | _ d ih =>
    intro n p c m0 s v hp hd hn hc R
    obtain ⟨n, rfl⟩ : ∃ k, n = k + 1 := ⟨n - 1, by omega⟩
    have hq := qd_sk_le (ch := ch) (D := D) (D - p) p rfl hp
    rw [qf_X2_takeStepsOfText_10, qf_X3_run_46, if_neg (by rw [qa_lt (by omega) (by omega)]; omega), qv_st_8, qe_skip hD X8 hp, qa_t1, qn_e, qv_st_u8, qv_st_8, qe_atEnd hD X8 hq.2, qa_t1, if_pos rfl]
    simp only [qn_e, qv_rt_7]
    rw [qv_rt_0 _ _ _ _ (by decide) (by decide), X.1]
    by_cases hE : qd_sk ch D p < D
    · rw [if_pos hE, if_pos (show nI 0 = 0 from rfl), if_neg (show ¬ nI D ≤ nI (qd_sk ch D p) by rw [qa_le (by omega) (by omega)]; omega)]
      rcases qv_step (B := B) (h := h) (v := v) hD X8 X e4 hE R with ⟨m1, z, s2, p2, v2, hz, eA, eC⟩ | ⟨m1, s2, p1, v2, h1, h2, eA, eC, R'⟩
      · rw [eA, qa_t3, if_pos (show nI 0 = 0 from rfl), eC, qa_t2]
        refine Or.inl ⟨m1, z, nI c + nI 1, s2, p2, v2, by omega, rfl, ?_⟩
        obtain ⟨n, rfl⟩ : ∃ k, n = k + 1 := ⟨n - 1, by omega⟩
        rw [qf_X3_run_46, if_neg (by rw [qa_n9 (by omega)]; exact fun q => q)]
      · rw [eA, qa_t3, if_neg (show ¬ nI 1 = 0 by decide), eC, qa_t2, nI_add]
        exact ih (D - p1) (by omega) n p1 (c + 1) m1 s2 v2 h2 rfl (by omega) (by omega) R'
    · rw [if_neg hE, if_neg (show ¬ nI 1 = 0 by decide), if_pos (show nI D ≤ nI (qd_sk ch D p) by rw [qa_le (by omega) (by omega)]; omega)]
      exact Or.inr ⟨m0, qd_sk ch D p, c, s, qd_sk ch D p, v, by omega, rfl, rfl, R⟩
/-! the reference's copies -/
def qx_h3 (i : Nat) (t : wm) : wm := fun x y => if x = 3 ∧ i ≤ y ∧ y < 935 then t 1 y else t x y
theorem qx_h3_s {i : Nat} {t : wm} {y : Nat} (g : i ≤ y ∧ y < 935) : qx_h3 i t 3 y = t 1 y := if_pos ⟨rfl, g⟩
theorem qx_h3_n {i : Nat} {t : wm} {x y : Nat} (g : ¬ (x = 3 ∧ i ≤ y ∧ y < 935)) : qx_h3 i t x y = t x y := if_neg g
theorem qm_run_2 : ∀ (d n i : Nat) (t : wm), i ≤ 935 → 935 - i = d → d < n → qf_X3_run_2 n (nI i) t = qf_X3_run_27 (qx_h3 i t) := by
  intro d
  induction d with
  | zero =>
    intro n i t hi hd hn
    obtain ⟨n, rfl⟩ : ∃ k, n = k + 1 := ⟨n - 1, by omega⟩
    rw [qf_X3_run_2]
    simp (disch := omega) only [qa_le]
    rw [if_pos (by omega)]
    congr 1
    funext x y
    rw [qx_h3_n (by omega)]
  | succ d ih =>
    intro n i t hi hd hn
    obtain ⟨n, rfl⟩ : ∃ k, n = k + 1 := ⟨n - 1, by omega⟩
    rw [qf_X3_run_2]
    simp (disch := omega) only [qn_e, qa_le, nI_add, qa_g, qa_cl]
    rw [if_neg (by omega), ih n (i + 1) _ (by omega) (by omega) (by omega)]
    congr 1
    funext x y
    by_cases hx : x = 3
    · subst hx
      by_cases hy : y = i
      · subst hy
        rw [qx_h3_n (by omega), qw_u2_s, qx_h3_s (by omega)]
      · by_cases hr : i ≤ y ∧ y < 935
        · rw [qx_h3_s (by omega), qx_h3_s hr, qw_u2_n _ _ (by omega)]
        · rw [qx_h3_n (by omega), qx_h3_n (by omega), qw_u2_n _ _ (by omega)]
    · rw [qx_h3_n (by omega), qx_h3_n (by omega), qw_u2_n _ _ (by omega)]
def qx_ex (i : Nat) (t : wm) : wm := fun x y => if x = 1 ∧ i ≤ y ∧ y < 935 then t 3 y else if x = 3 ∧ i ≤ y ∧ y < 935 then t 1 y else t x y
theorem qx_ex_1 {i : Nat} {t : wm} {y : Nat} (g : i ≤ y ∧ y < 935) : qx_ex i t 1 y = t 3 y := if_pos ⟨rfl, g⟩
theorem qx_ex_3 {i : Nat} {t : wm} {y : Nat} (g : i ≤ y ∧ y < 935) : qx_ex i t 3 y = t 1 y := by
  unfold qx_ex
  rw [if_neg (by omega), if_pos ⟨rfl, g⟩]
theorem qx_ex_n {i : Nat} {t : wm} {x y : Nat} (g : ¬ (x = 1 ∧ i ≤ y ∧ y < 935)) (g2 : ¬ (x = 3 ∧ i ≤ y ∧ y < 935)) : qx_ex i t x y = t x y := by
  unfold qx_ex
  rw [if_neg g, if_neg g2]
theorem qm_ex_2 : ∀ (d n i : Nat) (t : wm), i ≤ 935 → 935 - i = d → d < n → qf_X3_exchanges_2 n (nI i) t = some (qx_ex i t) := by
  intro d
  induction d with
  | zero =>
    intro n i t hi hd hn
    obtain ⟨n, rfl⟩ : ∃ k, n = k + 1 := ⟨n - 1, by omega⟩
    rw [qf_X3_exchanges_2]
    simp (disch := omega) only [qa_le]
    rw [if_pos (by omega)]
    congr 1
    funext x y
    rw [qx_ex_n (by omega) (by omega)]
  | succ d ih =>
    intro n i t hi hd hn
    obtain ⟨n, rfl⟩ : ∃ k, n = k + 1 := ⟨n - 1, by omega⟩
    rw [qf_X3_exchanges_2]
    simp (disch := omega) only [qn_e, qa_le, nI_add, qa_g, qa_cl]
    rw [if_neg (by omega), ih n (i + 1) _ (by omega) (by omega) (by omega)]
    congr 1
    funext x y
    by_cases hx : x = 1
    · subst hx
      by_cases hy : y = i
      · subst hy
        rw [qx_ex_n (by omega) (by omega), qw_u2_n _ _ (by omega), qw_u2_s, qx_ex_1 (by omega)]
      · by_cases hr : i ≤ y ∧ y < 935
        · rw [qx_ex_1 (by omega), qx_ex_1 hr, qw_u2_n _ _ (by omega), qw_u2_n _ _ (by omega)]
        · rw [qx_ex_n (by omega) (by omega), qx_ex_n (by omega) (by omega), qw_u2_n _ _ (by omega), qw_u2_n _ _ (by omega)]
    · by_cases hx3 : x = 3
      · subst hx3
        by_cases hy : y = i
        · subst hy
          rw [qx_ex_n (by omega) (by omega), qw_u2_s, qx_ex_3 (by omega)]
        · by_cases hr : i ≤ y ∧ y < 935
          · rw [qx_ex_3 (by omega), qx_ex_3 hr, qw_u2_n _ _ (by omega), qw_u2_n _ _ (by omega)]
          · rw [qx_ex_n (by omega) (by omega), qx_ex_n (by omega) (by omega), qw_u2_n _ _ (by omega), qw_u2_n _ _ (by omega)]
      · rw [qx_ex_n (by omega) (by omega), qx_ex_n (by omega) (by omega), qw_u2_n _ _ (by omega), qw_u2_n _ _ (by omega)]
theorem qm_ex (t : wm) : qf_X3_exchanges t = some (qx_ex 0 t) := qm_ex_2 935 qfu 0 t (by omega) (by omega) (by unfold qfu; omega)
