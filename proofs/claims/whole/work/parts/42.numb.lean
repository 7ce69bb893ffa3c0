def qd_dg (c : Int32) : Prop := ¬ c < nI 48 ∧ ¬ nI 57 < c
theorem qd_dg_of {c : Int32} (h : qd_dg c) : ∃ e : Nat, e ≤ 9 ∧ c = nI (48 + e) := by
  rcases qa_rng2 c (a := 48) (n := 57) (by decide) (by decide) with ⟨q, h1, h2, e⟩ | g | g
  · exact ⟨q - 48, by omega, by rw [e]; congr 1; omega⟩
  · exact absurd g h.1
  · exact absurd g h.2
theorem qe_isDg (c : Int32) : (qd_dg c ∧ qf_X1_isDigit c = some (nI 1)) ∨ (¬ qd_dg c ∧ qf_X1_isDigit c = some (nI 0)) := by
  unfold qf_X1_isDigit qd_dg
  by_cases h : c < nI 48
  · rw [if_pos h]
    exact Or.inr ⟨fun q => q.1 h, rfl⟩
  · rw [if_neg h]
    by_cases h2 : nI 57 < c
    · rw [if_pos h2]
      exact Or.inr ⟨fun q => q.2 h2, rfl⟩
    · rw [if_neg h2]
      exact Or.inl ⟨⟨h, h2⟩, rfl⟩
/-- k digits from q, and no more -/
def qd_k (ch : Nat → Int32) (D q k : Nat) : Prop := q + k ≤ D ∧ (∀ j : Nat, j < k → qd_dg (ch (q + j))) ∧ (q + k = D ∨ ¬ qd_dg (ch (q + k)))
theorem qd_kE {ch : Nat → Int32} {D : Nat} : ∀ (d q : Nat), q ≤ D → D - q = d → ∃ k : Nat, qd_k ch D q k := by
  intro d
  induction d with
  | zero =>
    intro q hq hd
    exact ⟨0, by omega, fun j hj => absurd hj (Nat.not_lt_zero j), Or.inl (by omega)⟩
  | succ d ih =>
    intro q hq hd
    by_cases h : qd_dg (ch q)
    · obtain ⟨k, k1, k2, k3⟩ := ih (q + 1) (by omega) (by omega)
      refine ⟨k + 1, by omega, ?_, ?_⟩
      · intro j hj
        by_cases e : j = 0
        · subst e
          exact h
        · have := k2 (j - 1) (by omega)
          have e2 : q + 1 + (j - 1) = q + j := by omega
          rw [e2] at this
          exact this
      · have e2 : q + 1 + k = q + (k + 1) := by omega
        rw [e2] at k3
        exact k3
    · exact ⟨0, by omega, fun j hj => absurd hj (Nat.not_lt_zero j), Or.inr h⟩
/-- the number that j digits name -/
def qd_v (ch : Nat → Int32) (q : Nat) : Nat → Int32
  | 0 => nI 0
  | j + 1 => nI 10 * qd_v ch q j + ch (q + j) - nI 48
theorem qd_v_n {ch : Nat → Int32} {D q k : Nat} (K : qd_k ch D q k) : ∀ j : Nat, j ≤ k → j ≤ 4 → ∃ v : Nat, qd_v ch q j = nI v ∧ v < 10 ^ j := by
  intro j
  induction j with
  | zero =>
    intro _ _
    exact ⟨0, rfl, by decide⟩
  | succ j ih =>
    intro hj h4
    obtain ⟨v, e, hv⟩ := ih (by omega) (by omega)
    obtain ⟨c, hc, ec⟩ := qd_dg_of (K.2.1 j (by omega))
    have h10 : 10 ^ (j + 1) = 10 * 10 ^ j := by rw [Nat.pow_succ, Nat.mul_comm]
    refine ⟨10 * v + c, ?_, by omega⟩
    show nI 10 * qd_v ch q j + ch (q + j) - nI 48 = _
    rw [e, ec, pk_mul, nI_add, qa_sub (by omega)]
    congr 1
    omega
/-! the class's number -/
theorem qe_num_11 {b : wm} {ch : Nat → Int32} {D q k : Nat} (hD : D ≤ 120) (X : qd_tx b ch D) (K : qd_k ch D q k) : ∀ (d n j : Nat), j ≤ k → j ≤ 4 → 4 - j = d → d < n →
    ∃ i : Nat, i ≤ k ∧ i ≤ 4 ∧ (i = k ∨ i = 4) ∧ qf_X1_readNumber_11 n (nI q) (qd_v ch q j) (qw_u2 b 2 2 (nI (q + j))) = qf_X1_readNumber_78 (nI q) (qd_v ch q i) (qw_u2 b 2 2 (nI (q + i))) := by
  have hk := K.1
  intro d
  induction d with
  | zero =>
    intro n j hj h4 hd hn
    obtain ⟨n, rfl⟩ : ∃ k, n = k + 1 := ⟨n - 1, by omega⟩
    refine ⟨j, hj, h4, Or.inr (by omega), ?_⟩
    rw [qf_X1_readNumber_11]
    simp (disch := omega) only [qn_e, qw_u2_s, qw_u2_n, X.1, qa_le, qa_lt, qa_sub]
    by_cases h : D ≤ q + j
    · rw [if_pos h]
    · rw [if_neg h, if_pos (by omega)]
  | succ d ih =>
    intro n j hj h4 hd hn
    obtain ⟨n, rfl⟩ : ∃ k, n = k + 1 := ⟨n - 1, by omega⟩
    by_cases h : q + j < D
    · rcases qe_isDg (ch (q + j)) with ⟨g, e⟩ | ⟨g, e⟩
      · have hjk : j < k := by
          rcases K.2.2 with h2 | h2
          · omega
          · have : j ≠ k := fun q => by subst q; exact h2 g
            omega
        obtain ⟨i, i1, i2, i3, i4⟩ := ih n (j + 1) hjk (by omega) (by omega) (by omega)
        refine ⟨i, i1, i2, i3, ?_⟩
        rw [← i4, qf_X1_readNumber_11]
        have ex := X.2 (q + j) h
        simp (disch := omega) only [qn_e, qw_u2_s, qw_u2_n, X.1, qa_le, qa_lt, qa_sub, qa_g, qa_cl, ex, e, qa_t1, nI_add, qw_u2_u]
        rw [if_neg (by omega), if_neg (by omega), if_neg (show ¬ nI 1 = 0 by decide)]
        rfl
      · have hjk : j = k := by
          rcases Nat.lt_or_ge j k with h2 | h2
          · exact absurd (K.2.1 j h2) g
          · omega
        refine ⟨j, hj, h4, Or.inl hjk, ?_⟩
        rw [qf_X1_readNumber_11]
        have ex := X.2 (q + j) h
        simp (disch := omega) only [qn_e, qw_u2_s, qw_u2_n, X.1, qa_le, qa_lt, qa_sub, qa_g, qa_cl, ex, e, qa_t1]
        rw [if_neg (by omega), if_neg (by omega), if_pos (show nI 0 = 0 from rfl)]
    · refine ⟨j, hj, h4, Or.inl (by omega), ?_⟩
      rw [qf_X1_readNumber_11]
      simp (disch := omega) only [qn_e, qw_u2_s, qw_u2_n, X.1, qa_le]
      rw [if_pos (by omega)]
/-- what a number must be -/
def qd_good (ch : Nat → Int32) (q k : Nat) : Prop := 1 ≤ k ∧ k ≤ 3 ∧ (k = 1 ∨ ¬ ch q = nI 48)
theorem qe_num {b : wm} {ch : Nat → Int32} {D p k : Nat} (hD : D ≤ 120) (X : qd_tx b ch D) (hp : p ≤ D) (K : qd_k ch D (qd_sk ch D p) k) :
    (qd_good ch (qd_sk ch D p) k ∧ qf_X1_readNumber (qw_u2 b 2 2 (nI p)) = some (qd_v ch (qd_sk ch D p) k, qw_u2 b 2 2 (nI (qd_sk ch D p + k)))) ∨
    (¬ qd_good ch (qd_sk ch D p) k ∧ qf_X1_readNumber (qw_u2 b 2 2 (nI p)) = some (-1, qw_u2 b 2 2 (nI (qd_sk ch D p)))) := by
  have hk := K.1
  obtain ⟨i, i1, i2, i3, i4⟩ := qe_num_11 hD X K 4 qfu 0 (by omega) (by omega) (by omega) (by unfold qfu; omega)
  have A : qf_X1_readNumber (qw_u2 b 2 2 (nI p)) = qf_X1_readNumber_78 (nI (qd_sk ch D p)) (qd_v ch (qd_sk ch D p) i) (qw_u2 b 2 2 (nI (qd_sk ch D p + i))) := by
    unfold qf_X1_readNumber
    rw [qe_skip hD X hp, qa_t1, qn_e, qw_u2_s]
    exact i4
  rw [A]
  unfold qf_X1_readNumber_78 qf_X1_readNumber_111 qf_X1_readNumber_115 qf_X1_readNumber_116 qd_good
  have hs : qd_sk ch D p + i - qd_sk ch D p = i := by omega
  simp (disch := omega) only [qn_e, qw_u2_s, qa_sub, hs, qa_eq, qa_le, qa_lt, qw_u2_u]
  rw [if_pos (show nI 0 = 0 from rfl), if_neg (show ¬ nI 1 = 0 by decide)]
  by_cases h1 : i = 1
  · have : k = 1 := by omega
    rw [if_pos h1]
    subst this
    subst h1
    exact Or.inl ⟨⟨by omega, by omega, Or.inl rfl⟩, rfl⟩
  · rw [if_neg h1]
    by_cases h2 : i ≤ 1
    · rw [if_pos h2]
      exact Or.inr ⟨fun q => by omega, rfl⟩
    · rw [if_neg h2]
      by_cases h3 : 3 < i
      · rw [if_pos h3]
        exact Or.inr ⟨fun q => by omega, rfl⟩
      · have hik : i = k := by omega
        subst hik
        have ex := X.2 (qd_sk ch D p) (by omega)
        rw [if_neg h3]
        simp (disch := omega) only [qa_g, qa_cl, qw_u2_n, ex]
        by_cases h4 : ch (qd_sk ch D p) = nI 48
        · rw [if_pos h4]
          exact Or.inr ⟨fun q => by rcases q.2.2 with r | r; exact absurd r h1; exact absurd h4 r, rfl⟩
        · rw [if_neg h4]
          exact Or.inl ⟨⟨by omega, by omega, Or.inr h4⟩, rfl⟩
/-! the reference's number -/
theorem qm_isDg {t0 : wm} {ch : Nat → Int32} {D p : Nat} {s : Nat → Int32} {v : Int32} (hD : D ≤ 120) (X : qd_rx t0 ch D) (hp : p ≤ D) :
    (p < D ∧ qd_dg (ch p) ∧ qf_X3_isDigit (nI p) (qv_rt t0 s p v) = some (nI 1)) ∨ (¬ (p < D ∧ qd_dg (ch p)) ∧ qf_X3_isDigit (nI p) (qv_rt t0 s p v) = some (nI 0)) := by
  unfold qf_X3_isDigit
  simp (disch := omega) only [qn_e, qv_rt_0, X.1, qa_le]
  by_cases h : D ≤ p
  · rw [if_pos h]
    exact Or.inr ⟨fun q => by omega, rfl⟩
  · have ex := X.2 p (by omega)
    rw [if_neg h]
    simp (disch := omega) only [qa_g, qa_cl, qv_rt_c, ex]
    by_cases g : qd_dg (ch p)
    · have e : qf_X3_in (ch p) (nI 48) (nI 57) = some (nI 1) := by rw [qm_in, if_neg g.1, if_neg g.2]
      rw [e, qa_t1, if_neg (show ¬ nI 1 = 0 by decide)]
      exact Or.inl ⟨by omega, g, rfl⟩
    · have e : qf_X3_in (ch p) (nI 48) (nI 57) = some (nI 0) := qm_inF (by
        by_cases h1 : ch p < nI 48
        · exact Or.inl h1
        · refine Or.inr ?_
          by_cases h2 : nI 57 < ch p
          · exact h2
          · exact absurd ⟨h1, h2⟩ g)
      rw [e, qa_t1, if_pos (show nI 0 = 0 from rfl)]
      exact Or.inr ⟨fun q => g q.2, rfl⟩
theorem qm_num_14 {t0 : wm} {ch : Nat → Int32} {D q k : Nat} {s : Nat → Int32} (hD : D ≤ 120) (X : qd_rx t0 ch D) (K : qd_k ch D q k) : ∀ (d n j : Nat), j ≤ k → k - j = d → d < n →
    qf_X3_number_14 n (nI q) (qv_rt t0 s (q + j) (qd_v ch q (if j ≤ 3 then j else 3))) = qf_X3_number_79 (nI q) (qv_rt t0 s (q + k) (qd_v ch q (if k ≤ 3 then k else 3))) := by
  have hk := K.1
  intro d
  induction d with
  | zero =>
    intro n j hj hd hn
    obtain ⟨n, rfl⟩ : ∃ k, n = k + 1 := ⟨n - 1, by omega⟩
    have hjk : j = k := by omega
    subst hjk
    rw [qf_X3_number_14, qn_e, qv_rt_7]
    rcases qm_isDg (s := s) (v := qd_v ch q (if j ≤ 3 then j else 3)) hD X hk with ⟨g1, g2, e⟩ | ⟨g, e⟩
    · rcases K.2.2 with h2 | h2
      · omega
      · exact absurd g2 h2
    · rw [e, qa_t1, if_pos (show nI 0 = 0 from rfl)]
  | succ d ih =>
    intro n j hj hd hn
    obtain ⟨n, rfl⟩ : ∃ k, n = k + 1 := ⟨n - 1, by omega⟩
    rw [qf_X3_number_14, qn_e, qv_rt_7]
    rcases qm_isDg (s := s) (v := qd_v ch q (if j ≤ 3 then j else 3)) hD X (show q + j ≤ D by omega) with ⟨g1, g2, e⟩ | ⟨g, e⟩
    · have hs : q + j - q = j := by omega
      have ex := X.2 (q + j) g1
      rw [e, qa_t1, if_neg (show ¬ nI 1 = 0 by decide), ← ih n (j + 1) (by omega) (by omega) (by omega)]
      simp (disch := omega) only [qn_e, qv_rt_7, qa_sub, hs, qa_le, qv_rt_8, qv_rt_u8, qv_rt_u7, nI_add]
      by_cases h3 : 3 ≤ j
      · rw [if_pos h3, if_neg (show ¬ j + 1 ≤ 3 by omega)]
        have e3 : (if j ≤ 3 then j else 3) = 3 := by split <;> omega
        rw [e3]
        rfl
      · rw [if_neg h3, if_pos (show j + 1 ≤ 3 by omega), if_pos (show j ≤ 3 by omega)]
        simp (disch := omega) only [qa_g, qa_cl, qv_rt_c, ex]
        rfl
    · exact absurd ⟨by omega, K.2.1 j (by omega)⟩ g
theorem qm_num {t0 : wm} {ch : Nat → Int32} {D p k : Nat} {s : Nat → Int32} {v : Int32} (hD : D ≤ 120) (X : qd_rx t0 ch D) (hp : p ≤ D) (K : qd_k ch D (qd_sk ch D p) k) :
    (qd_good ch (qd_sk ch D p) k → qf_X3_number (qv_rt t0 s p v) = some (nI 1, qv_rt t0 s (qd_sk ch D p + k) (qd_v ch (qd_sk ch D p) k))) ∧
    (¬ qd_good ch (qd_sk ch D p) k → ∃ w : Int32, qf_X3_number (qv_rt t0 s p v) = some (nI 0, qv_rt t0 s (qd_sk ch D p) w)) := by
  have hk := K.1
  have A : qf_X3_number (qv_rt t0 s p v) = qf_X3_number_79 (nI (qd_sk ch D p)) (qv_rt t0 s (qd_sk ch D p + k) (qd_v ch (qd_sk ch D p) (if k ≤ 3 then k else 3))) := by
    unfold qf_X3_number
    rw [qm_skip hD X hp, qa_t1, qn_e, qv_rt_7, qn_e, qv_rt_u8]
    exact qm_num_14 hD X K k qfu 0 (by omega) (by omega) (by unfold qfu; omega)
  rw [A]
  have hs : qd_sk ch D p + k - qd_sk ch D p = k := by omega
  have g0 : ∀ w : Int32, qf_X3_number_122 (nI (qd_sk ch D p)) (qv_rt t0 s (qd_sk ch D p + k) w) = some (nI 0, qv_rt t0 s (qd_sk ch D p) w) := by
    intro w
    unfold qf_X3_number_122 qf_X3_number_123
    rw [if_pos (show nI 0 = 0 from rfl), qn_e, qv_rt_u7, qg_t (show nI 0 = 0 ∨ nI 0 = 1 from Or.inl rfl)]
  have g1 : ∀ w : Int32, qf_X3_number_118 (nI (qd_sk ch D p)) (qv_rt t0 s (qd_sk ch D p + k) w) = some (nI 1, qv_rt t0 s (qd_sk ch D p + k) w) := by
    intro w
    unfold qf_X3_number_118 qf_X3_number_123
    rw [if_neg (show ¬ nI 1 = 0 by decide), qn_e, qn_e, qv_rt_7, qv_rt_u7, qg_t (show nI 1 = 0 ∨ nI 1 = 1 from Or.inr rfl)]
  unfold qf_X3_number_79 qd_good
  simp (disch := omega) only [qn_e, qv_rt_7, qa_sub, hs, qa_le, qa_eq]
  rw [g0, g1]
  by_cases h0 : k = 0
  · rw [if_pos (by omega)]
    exact ⟨fun q => by omega, fun _ => ⟨_, rfl⟩⟩
  · rw [if_neg (by omega)]
    by_cases h4 : 4 ≤ k
    · rw [if_pos h4]
      exact ⟨fun q => by omega, fun _ => ⟨_, rfl⟩⟩
    · have ex := X.2 (qd_sk ch D p) (by omega)
      rw [if_neg h4]
      simp (disch := omega) only [qa_g, qa_cl, qv_rt_c, ex]
      rw [if_pos (show k ≤ 3 by omega)]
      by_cases h5 : ch (qd_sk ch D p) = nI 48
      · rw [if_pos h5]
        by_cases h6 : k = 1
        · rw [if_pos h6]
          exact ⟨fun _ => rfl, fun q => absurd ⟨by omega, by omega, Or.inl h6⟩ q⟩
        · rw [if_neg h6]
          exact ⟨fun q => by rcases q.2.2 with r | r; exact absurd r h6; exact absurd h5 r, fun _ => ⟨_, rfl⟩⟩
      · rw [if_neg h5]
        exact ⟨fun _ => rfl, fun q => absurd ⟨by omega, by omega, Or.inr h5⟩ q⟩
