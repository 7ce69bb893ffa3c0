theorem qw_u2_u (m : wm) (c i : Nat) (a b : Int32) : qw_u2 (qw_u2 m c i a) c i b = qw_u2 m c i b := by
  funext x y
  by_cases h : x = c ∧ y = i
  · rw [qw_u2_e _ _ h.1 h.2, qw_u2_e _ _ h.1 h.2]
  · rw [qw_u2_n _ _ h, qw_u2_n _ _ h, qw_u2_n _ _ h]
/-- the place behind the spaces -/
def qd_skN (ch : Nat → Int32) (D : Nat) : Nat → Nat → Nat
  | 0, p => p
  | n + 1, p => if p < D ∧ ch p = nI 32 then qd_skN ch D n (p + 1) else p
def qd_sk (ch : Nat → Int32) (D p : Nat) : Nat := qd_skN ch D (D - p) p
theorem qd_sk_e {ch : Nat → Int32} {D p : Nat} (h : ¬ (p < D ∧ ch p = nI 32)) : qd_sk ch D p = p := by
  unfold qd_sk
  rcases (show D - p = 0 ∨ ∃ k, D - p = k + 1 from by
    rcases Nat.eq_zero_or_pos (D - p) with h | h
    · exact Or.inl h
    · exact Or.inr ⟨D - p - 1, by omega⟩) with h2 | ⟨k, h2⟩
  · rw [h2]
    rfl
  · rw [h2]
    unfold qd_skN
    rw [if_neg h]
theorem qd_sk_s {ch : Nat → Int32} {D p : Nat} (h : p < D) (h2 : ch p = nI 32) : qd_sk ch D p = qd_sk ch D (p + 1) := by
  unfold qd_sk
  have e : D - p = (D - (p + 1)) + 1 := by omega
  rw [e]
  conv => lhs; unfold qd_skN
  rw [if_pos ⟨h, h2⟩]
theorem qd_sk_le {ch : Nat → Int32} {D : Nat} : ∀ (d p : Nat), D - p = d → p ≤ D → p ≤ qd_sk ch D p ∧ qd_sk ch D p ≤ D := by
  intro d
  induction d with
  | zero =>
    intro p hd hp
    rw [qd_sk_e (by omega)]
    omega
  | succ d ih =>
    intro p hd hp
    by_cases h : ch p = nI 32
    · rw [qd_sk_s (by omega) h]
      have := ih (p + 1) (by omega) (by omega)
      omega
    · rw [qd_sk_e (fun q => h q.2)]
      omega
/-- the text of the class is ch, D signs -/
def qd_tx (b : wm) (ch : Nat → Int32) (D : Nat) : Prop := b 2 1 = nI D ∧ ∀ i : Nat, i < D → b 3 i = ch i
theorem qe_skip_0 {b : wm} {ch : Nat → Int32} {D : Nat} (hD : D ≤ 120) (X : qd_tx b ch D) : ∀ (d n p : Nat), p ≤ D → D - p = d → d < n → qf_X1_skipSpaces_0 n (qw_u2 b 2 2 (nI p)) = some (qw_u2 b 2 2 (nI (qd_sk ch D p))) := by
  intro d
  induction d with
  | zero =>
    intro n p hp hd hn
    obtain ⟨n, rfl⟩ : ∃ k, n = k + 1 := ⟨n - 1, by omega⟩
    rw [qf_X1_skipSpaces_0]
    simp (disch := omega) only [qn_e, qw_u2_s, qw_u2_n, X.1, qa_le]
    rw [if_pos (by omega), qd_sk_e (by omega)]
  | succ d ih =>
    intro n p hp hd hn
    obtain ⟨n, rfl⟩ : ∃ k, n = k + 1 := ⟨n - 1, by omega⟩
    rw [qf_X1_skipSpaces_0]
    have e := X.2 p (by omega)
    simp (disch := omega) only [qn_e, qw_u2_s, qw_u2_n, X.1, qa_le, qa_g, qa_cl, nI_add, qw_u2_u, e]
    rw [if_neg (by omega)]
    by_cases h : ch p = nI 32
    · rw [if_pos h, ih n (p + 1) (by omega) (by omega) (by omega), qd_sk_s (by omega) h]
    · rw [if_neg h, qd_sk_e (fun q => h q.2)]
theorem qe_skip {b : wm} {ch : Nat → Int32} {D p : Nat} (hD : D ≤ 120) (X : qd_tx b ch D) (hp : p ≤ D) : qf_X1_skipSpaces (qw_u2 b 2 2 (nI p)) = some (qw_u2 b 2 2 (nI (qd_sk ch D p))) := by
  have := qe_skip_0 hD X (D - p) (qfu + 1) p hp rfl (by unfold qfu; omega)
  rw [qf_X1_skipSpaces_0] at this
  exact this
theorem qe_sign {b : wm} {ch : Nat → Int32} {D p : Nat} (hD : D ≤ 120) (X : qd_tx b ch D) (hp : p ≤ D) : qf_X1_sign (qw_u2 b 2 2 (nI p)) = some (if p < D then ch p else nI 0) := by
  unfold qf_X1_sign
  simp (disch := omega) only [qn_e, qw_u2_s, qw_u2_n, X.1, qa_le]
  by_cases h : p < D
  · have e := X.2 p h
    rw [if_neg (by omega), if_pos h, qa_g (by omega) (by decide), qa_cl (by omega), e]
  · rw [if_pos (by omega), if_neg h]
theorem qe_atEnd {b : wm} {ch : Nat → Int32} {D p : Nat} (hD : D ≤ 120) (X : qd_tx b ch D) (hp : p ≤ D) : qf_X1_isAtEnd (qw_u2 b 2 2 (nI p)) = some (if p < D then nI 0 else nI 1) := by
  unfold qf_X1_isAtEnd
  simp (disch := omega) only [qn_e, qw_u2_s, qw_u2_n, X.1, qa_lt]
  split <;> rfl
theorem qe_rdSign {b : wm} {ch : Nat → Int32} {D p : Nat} (hD : D ≤ 120) (X : qd_tx b ch D) (hp : p ≤ D) : qf_X1_readSign (nI 64) (qw_u2 b 2 2 (nI p)) = some (if qd_sk ch D p < D ∧ ch (qd_sk ch D p) = nI 64 then (nI 1, qw_u2 b 2 2 (nI (qd_sk ch D p + 1))) else (nI 0, qw_u2 b 2 2 (nI (qd_sk ch D p)))) := by
  have hq := qd_sk_le (ch := ch) (D := D) (D - p) p rfl hp
  unfold qf_X1_readSign
  rw [qe_skip hD X hp, qa_t1, qe_sign hD X hq.2, qa_t1]
  by_cases h : qd_sk ch D p < D
  · rw [if_pos h]
    by_cases h2 : ch (qd_sk ch D p) = nI 64
    · rw [if_pos h2, if_pos ⟨h, h2⟩]
      simp (disch := omega) only [qn_e, qw_u2_s, nI_add, qw_u2_u]
    · rw [if_neg h2, if_neg (fun q => h2 q.2)]
  · rw [if_neg h, if_neg (show ¬ nI 0 = nI 64 by decide), if_neg (fun q => h q.1)]
/-! the reference's text -/
def qv_rt (t0 : wm) (s : Nat → Int32) (p : Nat) (v : Int32) : wm := fun c => if c = 1 then s else if c = 0 then (fun y => if y = 7 then nI p else if y = 8 then v else t0 0 y) else t0 c
theorem qv_rt_1 (t0 : wm) (s : Nat → Int32) (p : Nat) (v : Int32) : qv_rt t0 s p v 1 = s := by
  unfold qv_rt
  rw [if_pos rfl]
theorem qv_rt_7 (t0 : wm) (s : Nat → Int32) (p : Nat) (v : Int32) : qv_rt t0 s p v 0 7 = nI p := by
  unfold qv_rt
  rw [if_neg (by decide), if_pos rfl, if_pos rfl]
theorem qv_rt_8 (t0 : wm) (s : Nat → Int32) (p : Nat) (v : Int32) : qv_rt t0 s p v 0 8 = v := by
  unfold qv_rt
  rw [if_neg (by decide), if_pos rfl, if_neg (by decide), if_pos rfl]
theorem qv_rt_0 (t0 : wm) (s : Nat → Int32) (p : Nat) (v : Int32) {y : Nat} (h : y ≠ 7) (h2 : y ≠ 8) : qv_rt t0 s p v 0 y = t0 0 y := by
  unfold qv_rt
  rw [if_neg (by decide), if_pos rfl, if_neg h, if_neg h2]
theorem qv_rt_c (t0 : wm) (s : Nat → Int32) (p : Nat) (v : Int32) {c : Nat} (h : c ≠ 0) (h2 : c ≠ 1) : qv_rt t0 s p v c = t0 c := by
  unfold qv_rt
  rw [if_neg h2, if_neg h]
theorem qv_rt_u7 (t0 : wm) (s : Nat → Int32) (p q : Nat) (v : Int32) : qw_u2 (qv_rt t0 s p v) 0 7 (nI q) = qv_rt t0 s q v := by
  funext x y
  by_cases h : x = 0 ∧ y = 7
  · rw [qw_u2_e _ _ h.1 h.2, h.1, h.2, qv_rt_7]
  · rw [qw_u2_n _ _ h]
    unfold qv_rt
    by_cases h1 : x = 1
    · rw [if_pos h1, if_pos h1]
    · rw [if_neg h1, if_neg h1]
      by_cases h0 : x = 0
      · rw [if_pos h0, if_pos h0, if_neg (fun q => h ⟨h0, q⟩), if_neg (fun q => h ⟨h0, q⟩)]
      · rw [if_neg h0, if_neg h0]
theorem qv_rt_u8 (t0 : wm) (s : Nat → Int32) (p : Nat) (v w : Int32) : qw_u2 (qv_rt t0 s p v) 0 8 w = qv_rt t0 s p w := by
  funext x y
  by_cases h : x = 0 ∧ y = 8
  · rw [qw_u2_e _ _ h.1 h.2, h.1, h.2, qv_rt_8]
  · rw [qw_u2_n _ _ h]
    unfold qv_rt
    by_cases h1 : x = 1
    · rw [if_pos h1, if_pos h1]
    · rw [if_neg h1, if_neg h1]
      by_cases h0 : x = 0
      · rw [if_pos h0, if_pos h0, if_neg (fun q => h ⟨h0, q⟩), if_neg (fun q => h ⟨h0, q⟩)]
      · rw [if_neg h0, if_neg h0]
theorem qv_rt_of {t0 t' : wm} {s : Nat → Int32} {p : Nat} {v : Int32} (h : ∀ c : Nat, c ≠ 1 → t' c = qv_rt t0 s p v c) : t' = qv_rt t0 (t' 1) p v := by
  funext c
  by_cases h1 : c = 1
  · subst h1
    rw [qv_rt_1]
  · rw [h c h1]
    unfold qv_rt
    rw [if_neg h1, if_neg h1]
def qd_rx (t0 : wm) (ch : Nat → Int32) (D : Nat) : Prop := t0 0 6 = nI D ∧ ∀ i : Nat, i < D → t0 4 i = ch i
theorem qm_skip_0 {t0 : wm} {ch : Nat → Int32} {D : Nat} {s : Nat → Int32} {v : Int32} (hD : D ≤ 120) (X : qd_rx t0 ch D) : ∀ (d n p : Nat), p ≤ D → D - p = d → d < n → qf_X3_skips_0 n (qv_rt t0 s p v) = some (qv_rt t0 s (qd_sk ch D p) v) := by
  intro d
  induction d with
  | zero =>
    intro n p hp hd hn
    obtain ⟨n, rfl⟩ : ∃ k, n = k + 1 := ⟨n - 1, by omega⟩
    rw [qf_X3_skips_0]
    simp (disch := omega) only [qn_e, qv_rt_7, qv_rt_0, X.1, qa_le]
    rw [if_pos (by omega), qd_sk_e (by omega)]
  | succ d ih =>
    intro n p hp hd hn
    obtain ⟨n, rfl⟩ : ∃ k, n = k + 1 := ⟨n - 1, by omega⟩
    rw [qf_X3_skips_0]
    have e := X.2 p (by omega)
    simp (disch := omega) only [qn_e, qv_rt_7, qv_rt_0, qv_rt_c, X.1, qa_le, qa_g, qa_cl, nI_add, qv_rt_u7, e]
    rw [if_neg (by omega)]
    by_cases h : ch p = nI 32
    · rw [if_pos h, ih n (p + 1) (by omega) (by omega) (by omega), qd_sk_s (by omega) h]
    · rw [if_neg h, qd_sk_e (fun q => h q.2)]
theorem qm_skip {t0 : wm} {ch : Nat → Int32} {D p : Nat} {s : Nat → Int32} {v : Int32} (hD : D ≤ 120) (X : qd_rx t0 ch D) (hp : p ≤ D) : qf_X3_skips (qv_rt t0 s p v) = some (qv_rt t0 s (qd_sk ch D p) v) := by
  have := qm_skip_0 (s := s) (v := v) hD X (D - p) (qfu + 1) p hp rfl (by unfold qfu; omega)
  rw [qf_X3_skips_0] at this
  exact this
