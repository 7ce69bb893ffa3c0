theorem qa_t1 {α β : Type} {a : α} {k : α → Option β} : qb1 (some a) k = k a := of_eq_true (eq_self (k a))
theorem qa_t2 {α γ β : Type} {a : α} {b : γ} {k : α → γ → Option β} : qb2 (some (a, b)) k = k a b := of_eq_true (eq_self (k a b))
theorem qa_t3 {α γ δ β : Type} {a : α} {b : γ} {c : δ} {k : α → γ → δ → Option β} : qb3 (some (a, b, c)) k = k a b c := of_eq_true (eq_self (k a b c))
/-- how many frames there are behind the first i steps -/
def qs_hg (m : wm) : Nat → Nat
  | 0 => 0
  | i + 1 => if m 16 i = nI 0 then qs_hg m i + 1 else if m 16 i = nI 2 then qs_hg m i - 1 else if m 16 i = nI 3 then qs_hg m i - (m 18 i).toNatClampNeg else qs_hg m i
def qs_step (m : wm) (i h : Nat) : Prop :=
  (m 16 i = nI 0 ∧ (∃ q : Nat, m 17 i = nI q ∧ q ≤ 15) ∧ (∃ q : Nat, m 18 i = nI q ∧ q ≤ 999) ∧ h < 40) ∨
  (m 16 i = nI 1 ∧ (∃ q : Nat, m 17 i = nI q ∧ q ≤ 15) ∧ m 18 i = nI 0 ∧ 1 ≤ h) ∨
  (m 16 i = nI 2 ∧ m 17 i = nI 0 ∧ m 18 i = nI 0 ∧ 1 ≤ h) ∨
  (m 16 i = nI 3 ∧ m 17 i = nI 0 ∧ ∃ q : Nat, m 18 i = nI q ∧ 1 ≤ q ∧ q ≤ 40 ∧ q ≤ h)
def qs_val (m : wm) (S H : Nat) : Prop := (∀ i : Nat, i < S → qs_step m i (qs_hg m i)) ∧ qs_hg m S = H
def qs_ok (m : wm) (T Z H S C N : Nat) : Prop :=
  (2 ≤ Z ∧ Z ≤ 16 ∧ T < Z ∧ H ≤ 40 ∧ S ≤ 200 ∧ C ≤ 12 ∧ N ≤ S) ∧
  (m 0 1 = nI Z ∧ m 0 2 = nI T ∧ m 0 3 = nI H ∧ m 0 5 = nI S ∧ m 0 6 = nI C ∧ m 1 0 = nI N ∧ (m 0 0 = nI 0 ∨ m 0 0 = nI 1)) ∧
  (∀ i : Nat, i < H → (∃ q : Nat, m 11 i = nI q ∧ q < Z) ∧ (m 12 i = -9 ∨ ∃ q : Nat, m 12 i = nI q ∧ q < N) ∧ (∃ q : Nat, m 9 i = nI q ∧ q ≤ 15)) ∧
  (∀ i : Nat, i < 16 → m 13 i = -9 ∨ ∃ q : Nat, m 13 i = nI q ∧ q < N) ∧
  (∀ i : Nat, N ≤ i → i < 200 → m 3 i = nI 0) ∧
  qs_val m S H
def qs_rel (m : wm) (s : Nat → Int32) (H S C N : Nat) : Prop :=
  (s 0 = m 0 3 ∧ s 1 = m 0 5 ∧ s 2 = m 1 0 ∧ s 3 = m 1 1 ∧ s 4 = m 1 2 ∧ s 5 = m 1 3 ∧ s 6 = m 2 0 + m 2 1 ∧ s 7 = m 2 1 ∧ s 8 = m 2 2 ∧ s 9 = m 2 3 ∧ s 10 = m 0 6 ∧ s 11 = m 0 1 ∧ s 12 = m 0 2 ∧ s 13 = m 0 4 ∧ s 14 = m 0 0) ∧
  (∀ k w : Nat, k < H → w < 5 → s (15 + 5 * k + w) = m (8 + w) k) ∧
  (∀ k w : Nat, k < 16 → w < 3 → s (215 + 3 * k + w) = m (13 + w) k) ∧
  (∀ j w : Nat, j < C → w < 6 → s (263 + 6 * (C - 1 - j) + w) = m (19 + w) j) ∧
  (∀ k : Nat, k < S → s (335 + 2 * k) = m 16 k ∧ s (335 + 2 * k + 1) = if m 16 k = nI 1 then m 17 k else m 18 k) ∧
  (∀ k : Nat, k < N → s (735 + k) = m 3 k)
theorem qs_hg_cg {m m' : wm} : ∀ n : Nat, (∀ i : Nat, i < n → m' 16 i = m 16 i ∧ m' 18 i = m 18 i) → qs_hg m' n = qs_hg m n
  | 0, _ => rfl
  | n + 1, h => by
    have ih := qs_hg_cg n (fun i hi => h i (by omega))
    obtain ⟨h1, h2⟩ := h n (by omega)
    unfold qs_hg
    rw [ih, h1, h2]
theorem qs_step_cg {m m' : wm} {i h : Nat} (h1 : m' 16 i = m 16 i) (h2 : m' 17 i = m 17 i) (h3 : m' 18 i = m 18 i) (hs : qs_step m i h) : qs_step m' i h := by
  unfold qs_step
  rw [h1, h2, h3]
  exact hs
/-- one more step -/
theorem qs_val_s {m m' : wm} {S H H2 : Nat} (hv : qs_val m S H) (h : ∀ i : Nat, i < S → m' 16 i = m 16 i ∧ m' 17 i = m 17 i ∧ m' 18 i = m 18 i) (hs : qs_step m' S H) (hH : (if m' 16 S = nI 0 then H + 1 else if m' 16 S = nI 2 then H - 1 else if m' 16 S = nI 3 then H - (m' 18 S).toNatClampNeg else H) = H2) : qs_val m' (S + 1) H2 := by
  obtain ⟨v1, v2⟩ := hv
  have hc : ∀ n : Nat, n ≤ S → qs_hg m' n = qs_hg m n := fun n hn => qs_hg_cg n (fun i hi => ⟨(h i (by omega)).1, (h i (by omega)).2.2⟩)
  refine ⟨fun i hi => ?_, ?_⟩
  · rcases Nat.lt_or_ge i S with hl | hl
    · rw [hc i (by omega)]
      exact qs_step_cg (h i hl).1 (h i hl).2.1 (h i hl).2.2 (v1 i hl)
    · have : i = S := by omega
      subst this
      rw [hc i (by omega), v2]
      exact hs
  · unfold qs_hg
    rw [hc S (by omega), v2]
    exact hH
theorem qe_errC {m : wm} {H S f a : Nat} (eH : m 0 3 = nI H) (hH : H < 40) (eS : m 0 5 = nI S) (hS : S < 200) (hf : f ≤ 15) (ha : a ≤ 999) : qf_X0_errorOf (nI 0) (nI f) (nI a) m = some (nI 0) := by
  unfold qf_X0_errorOf qf_X0_isNumberFor qf_X0_framesNeeded
  simp (disch := omega) only [qa_l0, qa_lt, qa_le, qa_eq, qa_e0, qn_e, qa_t1, eH, eS, if_pos, if_neg, ↓reduceIte]
theorem qe_errT {m : wm} {H S f : Nat} (eH : m 0 3 = nI H) (hH : 1 ≤ H) (hH2 : H ≤ 40) (eS : m 0 5 = nI S) (hS : S < 200) (hf : f ≤ 15) : qf_X0_errorOf (nI 1) (nI f) (nI 0) m = some (nI 0) := by
  unfold qf_X0_errorOf qf_X0_isNumberFor qf_X0_framesNeeded
  simp (disch := omega) only [qa_l0, qa_lt, qa_le, qa_eq, qa_e0, qn_e, qa_t1, eH, eS, if_pos, if_neg, ↓reduceIte]
theorem qe_errR {m : wm} {H S : Nat} (eH : m 0 3 = nI H) (hH : 1 ≤ H) (hH2 : H ≤ 40) (eS : m 0 5 = nI S) (hS : S < 200) : qf_X0_errorOf (nI 2) (nI 0) (nI 0) m = some (nI 0) := by
  unfold qf_X0_errorOf qf_X0_isNumberFor qf_X0_framesNeeded
  simp (disch := omega) only [qa_l0, qa_lt, qa_le, qa_eq, qa_e0, qn_e, qa_t1, eH, eS, if_pos, if_neg, ↓reduceIte]
theorem qe_errX {m : wm} {H S n : Nat} (eH : m 0 3 = nI H) (hn : 1 ≤ n) (hn2 : n ≤ H) (hH2 : H ≤ 40) (eS : m 0 5 = nI S) (hS : S < 200) : qf_X0_errorOf (nI 3) (nI 0) (nI n) m = some (nI 0) := by
  unfold qf_X0_errorOf qf_X0_isNumberFor qf_X0_framesNeeded
  simp (disch := omega) only [qa_l0, qa_lt, qa_le, qa_eq, qa_e0, qn_e, qa_t1, eH, eS, if_pos, if_neg, ↓reduceIte]
/-! a call -/
def qx_c (m : wm) (T Z H S N f a : Nat) : wm := qx_note (qx_add m T Z H N (nI f) (nI a)) S 0 (nI f) (nI a)
theorem qx_st_lt {Z T : Nat} (h : 2 ≤ Z) : qx_st Z T < Z := by
  unfold qx_st
  split <;> omega
theorem qo_callT {m : wm} {T Z H S C N f a : Nat} (ok : qs_ok m T Z H S C N) (hH : H < 40) (hS : S < 200) (hf : f ≤ 15) (ha : a ≤ 999) :
    qf_X0_take (nI 0) (nI f) (nI a) m = some (nI N, qx_c m T Z H S N f a) := by
  obtain ⟨⟨b1, b2, b3, b4, b5, b6, b7⟩, ⟨e1, e2, e3, e5, e6, eN, er⟩, -⟩ := ok
  unfold qf_X0_take qf_X0_take_81
  rw [qe_errC e3 hH e5 hS hf ha, qa_t1, if_pos (show nI 0 = 0 from rfl), if_pos rfl, qe_add e1 ⟨by omega, b2⟩ e2 b3 e3 hH eN, qa_t2, qe_note (S := S) (by simp (disch := omega) only [qx_add, qw_u2_n, qx_ov_n]; exact e5) hS (by decide), qa_t1]
  rfl
theorem qo_callO {m : wm} {T Z H S C N f a : Nat} (ok : qs_ok m T Z H S C N) (hH : H < 40) (hS : S < 200) (hf : f ≤ 15) (ha : a ≤ 999) :
    qs_ok (qx_c m T Z H S N f a) (qx_st Z T) Z (H + 1) (S + 1) C (N + 1) := by
  obtain ⟨⟨b1, b2, b3, b4, b5, b6, b7⟩, ⟨e1, e2, e3, e5, e6, eN, er⟩, okF, okS, okN, okV⟩ := ok
  have hT2 := qx_st_lt (T := T) b1
  refine ⟨⟨b1, b2, hT2, by omega, by omega, b6, by omega⟩, ⟨?_, ?_, ?_, ?_, ?_, ?_, ?_⟩, ?_, ?_, ?_, ?_⟩
  · simp (disch := omega) only [qx_c, qx_note, qx_add, qw_u2_n, qx_ov_n, e1]
  · simp (disch := omega) only [qx_c, qx_note, qx_add, qw_u2_n, qx_ov_n, qw_u2_s]
  · simp (disch := omega) only [qx_c, qx_note, qx_add, qw_u2_n, qx_ov_n, qw_u2_s]
  · simp (disch := omega) only [qx_c, qx_note, qx_add, qw_u2_n, qx_ov_n, qw_u2_s]
  · simp (disch := omega) only [qx_c, qx_note, qx_add, qw_u2_n, qx_ov_n, e6]
  · simp (disch := omega) only [qx_c, qx_note, qx_add, qw_u2_n, qx_ov_n, qw_u2_s, eN, nI_add]
  · simp (disch := omega) only [qx_c, qx_note, qx_add, qw_u2_n, qx_ov_n]
    exact er
  · intro i hi
    rcases Nat.lt_or_ge i H with hl | hl
    · obtain ⟨⟨q1, p1, p2⟩, p3, q2, p4, p5⟩ := okF i hl
      refine ⟨⟨q1, ?_, p2⟩, ?_, q2, ?_, p5⟩
      · simp (disch := omega) only [qx_c, qx_note, qx_add, qw_u2_n, qx_ov_n, p1]
      · simp (disch := omega) only [qx_c, qx_note, qx_add, qw_u2_n]
        unfold qx_ov
        simp (disch := omega) only [qw_u2_n]
        split
        · exact Or.inr ⟨N, rfl, by omega⟩
        · rcases p3 with h | ⟨q, h, hq⟩
          · exact Or.inl h
          · exact Or.inr ⟨q, h, by omega⟩
      · simp (disch := omega) only [qx_c, qx_note, qx_add, qw_u2_n, qx_ov_n, p4]
    · have : i = H := by omega
      subst this
      refine ⟨⟨qx_st Z T, ?_, hT2⟩, Or.inl ?_, f, ?_, hf⟩
      · simp (disch := omega) only [qx_c, qx_note, qx_add, qw_u2_n, qw_u2_s]
      · simp (disch := omega) only [qx_c, qx_note, qx_add, qw_u2_n, qw_u2_s]
      · simp (disch := omega) only [qx_c, qx_note, qx_add, qw_u2_n, qw_u2_s]
  · intro i hi
    by_cases h : i = qx_st Z T
    · subst h
      refine Or.inr ⟨N, ?_, by omega⟩
      simp (disch := omega) only [qx_c, qx_note, qx_add, qw_u2_n, qw_u2_s]
    · have e : qx_c m T Z H S N f a 13 i = m 13 i := by simp (disch := omega) only [qx_c, qx_note, qx_add, qw_u2_n, qx_ov_n]
      rw [e]
      rcases okS i hi with h | ⟨q, h, hq⟩
      · exact Or.inl h
      · exact Or.inr ⟨q, h, by omega⟩
  · intro i hi h2
    have e : qx_c m T Z H S N f a 3 i = m 3 i := by simp (disch := omega) only [qx_c, qx_note, qx_add, qw_u2_n, qx_ov_n]
    rw [e]
    exact okN i (by omega) h2
  · refine qs_val_s okV (fun i hi => ?_) ?_ ?_
    · refine ⟨?_, ?_, ?_⟩ <;> simp (disch := omega) only [qx_c, qx_note, qx_add, qw_u2_n, qx_ov_n]
    · refine Or.inl ⟨?_, ⟨f, ?_, hf⟩, ⟨a, ?_, ha⟩, hH⟩
      · simp (disch := omega) only [qx_c, qx_note, qw_u2_n, qw_u2_s]
      · simp (disch := omega) only [qx_c, qx_note, qw_u2_n, qw_u2_s]
      · simp (disch := omega) only [qx_c, qx_note, qw_u2_n, qw_u2_s]
    · rw [if_pos]
      simp (disch := omega) only [qx_c, qx_note, qw_u2_n, qw_u2_s]
theorem qo_callR {m t : wm} {T Z H S C N f a : Nat} (ok : qs_ok m T Z H S C N) (rl : qs_rel m (t 1) H S C N) (hH : H < 40) (hS : S < 200) (hf : f ≤ 15) (ha : a ≤ 999) :
    qs_rel (qx_c m T Z H S N f a) (qx_mcall t H S N (qx_st Z T) (nI f) (nI a) 1) (H + 1) (S + 1) C (N + 1) := by
  obtain ⟨⟨b1, b2, b3, b4, b5, b6, b7⟩, ⟨e1, e2, e3, e5, e6, eN, er⟩, okF, okS, okN, okV⟩ := ok
  obtain ⟨⟨r0, r1, r2, r3, r4, r5, r6, r7, r8, r9, r10, r11, r12, r13, r14⟩, rF, rS, rT, rP, rN⟩ := rl
  have hT2 := qx_st_lt (T := T) b1
  refine ⟨⟨?_, ?_, ?_, ?_, ?_, ?_, ?_, ?_, ?_, ?_, ?_, ?_, ?_, ?_, ?_⟩, ?_, ?_, ?_, ?_, ?_⟩
  · simp (disch := omega) only [qx_c, qx_note, qx_add, qx_mcall, qx_notes, qw_u2_n, qw_u2_e, qx_ov_n, qx_mov_n]
  · simp (disch := omega) only [qx_c, qx_note, qx_add, qx_mcall, qx_notes, qw_u2_n, qw_u2_e, qx_ov_n, qx_mov_n]
  · simp (disch := omega) only [qx_c, qx_note, qx_add, qx_mcall, qx_notes, qw_u2_n, qw_u2_e, qx_ov_n, qx_mov_n, r2]
  · simp (disch := omega) only [qx_c, qx_note, qx_add, qx_mcall, qx_notes, qw_u2_n, qw_u2_e, qx_ov_n, qx_mov_n, r3]
  · simp (disch := omega) only [qx_c, qx_note, qx_add, qx_mcall, qx_notes, qw_u2_n, qw_u2_e, qx_ov_n, qx_mov_n, r4]
  · simp (disch := omega) only [qx_c, qx_note, qx_add, qx_mcall, qx_notes, qw_u2_n, qw_u2_e, qx_ov_n, qx_mov_n, r5]
  · simp (disch := omega) only [qx_c, qx_note, qx_add, qx_mcall, qx_notes, qw_u2_n, qw_u2_e, qx_ov_n, qx_mov_n, r6]
  · simp (disch := omega) only [qx_c, qx_note, qx_add, qx_mcall, qx_notes, qw_u2_n, qw_u2_e, qx_ov_n, qx_mov_n, r7]
  · simp (disch := omega) only [qx_c, qx_note, qx_add, qx_mcall, qx_notes, qw_u2_n, qw_u2_e, qx_ov_n, qx_mov_n, r8]
  · simp (disch := omega) only [qx_c, qx_note, qx_add, qx_mcall, qx_notes, qw_u2_n, qw_u2_e, qx_ov_n, qx_mov_n, r9]
  · simp (disch := omega) only [qx_c, qx_note, qx_add, qx_mcall, qx_notes, qw_u2_n, qw_u2_e, qx_ov_n, qx_mov_n, r10]
  · simp (disch := omega) only [qx_c, qx_note, qx_add, qx_mcall, qx_notes, qw_u2_n, qw_u2_e, qx_ov_n, qx_mov_n, r11]
  · simp (disch := omega) only [qx_c, qx_note, qx_add, qx_mcall, qx_notes, qw_u2_n, qw_u2_e, qx_ov_n, qx_mov_n]
  · simp (disch := omega) only [qx_c, qx_note, qx_add, qx_mcall, qx_notes, qw_u2_n, qw_u2_e, qx_ov_n, qx_mov_n, r13]
  · simp (disch := omega) only [qx_c, qx_note, qx_add, qx_mcall, qx_notes, qw_u2_n, qw_u2_e, qx_ov_n, qx_mov_n, r14]
  · intro k w hk hw
    rcases Nat.lt_or_ge k H with hl | hl
    · by_cases hw4 : w = 4
      · subst hw4
        have g1 : t 1 (18 + 5 * k) = m 11 k := by
          rw [← rF k 3 hl (by decide)]
          congr 1
          omega
        have g2 : t 1 (19 + 5 * k) = m 12 k := by
          rw [← rF k 4 hl (by decide)]
          congr 1
          omega
        have i1 : 15 + 5 * k + 4 = 19 + 5 * k := by omega
        have i2 : 19 + 5 * k - 1 = 18 + 5 * k := by omega
        simp (disch := omega) only [qx_c, qx_note, qx_add, qx_mcall, qx_notes, qw_u2_n]
        unfold qx_ov qx_mov
        simp (disch := omega) only [qw_u2_n]
        rw [i1, i2, g1, g2]
        by_cases hc : m 11 k = nI (qx_st Z T) ∧ m 12 k = -9
        · rw [if_pos ⟨trivial, by omega, by omega, by omega, hc.1, hc.2⟩, if_pos ⟨trivial, hl, hc.1, hc.2⟩]
        · rw [if_neg (fun q => hc ⟨q.2.2.2.2.1, q.2.2.2.2.2⟩), if_neg (fun q => hc ⟨q.2.2.1, q.2.2.2⟩)]
      · have e : qx_mcall t H S N (qx_st Z T) (nI f) (nI a) 1 (15 + 5 * k + w) = t 1 (15 + 5 * k + w) := by
          simp (disch := omega) only [qx_mcall, qx_notes, qw_u2_n, qx_mov_n]
        have e2 : qx_c m T Z H S N f a (8 + w) k = m (8 + w) k := by
          simp (disch := omega) only [qx_c, qx_note, qx_add, qw_u2_n, qx_ov_n]
        rw [e, e2]
        exact rF k w hl hw
    · have : k = H := by omega
      subst this
      rcases (show w = 0 ∨ w = 1 ∨ w = 2 ∨ w = 3 ∨ w = 4 by omega) with rfl | rfl | rfl | rfl | rfl <;>
        simp (disch := omega) only [qx_c, qx_note, qx_add, qx_mcall, qx_notes, qw_u2_n, qw_u2_e]
  · intro k w hk hw
    by_cases h : k = qx_st Z T
    · subst h
      rcases (show w = 0 ∨ w = 1 ∨ w = 2 by omega) with rfl | rfl | rfl
      · simp (disch := omega) only [qx_c, qx_note, qx_add, qx_mcall, qx_notes, qw_u2_n, qw_u2_e]
      · simp (disch := omega) only [qx_c, qx_note, qx_add, qx_mcall, qx_notes, qw_u2_n, qw_u2_e]
      · simp (disch := omega) only [qx_c, qx_note, qx_add, qx_mcall, qx_notes, qw_u2_n, qw_u2_e]
        rw [rS _ 2 hk (by decide)]
    · have e : qx_mcall t H S N (qx_st Z T) (nI f) (nI a) 1 (215 + 3 * k + w) = t 1 (215 + 3 * k + w) := by
        simp (disch := omega) only [qx_mcall, qx_notes, qw_u2_n, qx_mov_n]
      have e2 : qx_c m T Z H S N f a (13 + w) k = m (13 + w) k := by
        simp (disch := omega) only [qx_c, qx_note, qx_add, qw_u2_n, qx_ov_n]
      rw [e, e2]
      exact rS k w hk hw
  · intro j w hj hw
    have e : qx_mcall t H S N (qx_st Z T) (nI f) (nI a) 1 (263 + 6 * (C - 1 - j) + w) = t 1 (263 + 6 * (C - 1 - j) + w) := by
      simp (disch := omega) only [qx_mcall, qx_notes, qw_u2_n, qx_mov_n]
    have e2 : qx_c m T Z H S N f a (19 + w) j = m (19 + w) j := by
      simp (disch := omega) only [qx_c, qx_note, qx_add, qw_u2_n, qx_ov_n]
    rw [e, e2]
    exact rT j w hj hw
  · intro k hk
    rcases Nat.lt_or_ge k S with hl | hl
    · obtain ⟨p1, p2⟩ := rP k hl
      have e : ∀ y : Nat, y = 335 + 2 * k ∨ y = 335 + 2 * k + 1 → qx_mcall t H S N (qx_st Z T) (nI f) (nI a) 1 y = t 1 y := by
        intro y hy
        simp (disch := omega) only [qx_mcall, qx_notes, qw_u2_n, qx_mov_n]
      have e2 : ∀ x : Nat, 16 ≤ x ∧ x < 19 → qx_c m T Z H S N f a x k = m x k := by
        intro x hx
        simp (disch := omega) only [qx_c, qx_note, qx_add, qw_u2_n, qx_ov_n]
      rw [e _ (Or.inl rfl), e _ (Or.inr rfl), e2 16 (by omega), e2 17 (by omega), e2 18 (by omega)]
      exact ⟨p1, p2⟩
    · have : k = S := by omega
      subst this
      have e16 : qx_c m T Z H k N f a 16 k = nI 0 := by simp (disch := omega) only [qx_c, qx_note, qw_u2_n, qw_u2_e]
      rw [e16, if_neg (show ¬ nI 0 = nI 1 by decide)]
      constructor
      · simp (disch := omega) only [qx_mcall, qx_notes, qw_u2_n, qw_u2_e]
      · simp (disch := omega) only [qx_c, qx_note, qx_mcall, qx_notes, qw_u2_n, qw_u2_e]
  · intro k hk
    rcases Nat.lt_or_ge k N with hl | hl
    · have e : qx_mcall t H S N (qx_st Z T) (nI f) (nI a) 1 (735 + k) = t 1 (735 + k) := by
        simp (disch := omega) only [qx_mcall, qx_notes, qw_u2_n, qx_mov_n]
      have e2 : qx_c m T Z H S N f a 3 k = m 3 k := by
        simp (disch := omega) only [qx_c, qx_note, qx_add, qw_u2_n, qx_ov_n]
      rw [e, e2]
      exact rN k hl
    · have : k = N := by omega
      subst this
      have e2 : qx_c m T Z H S k f a 3 k = m 3 k := by
        simp (disch := omega) only [qx_c, qx_note, qx_add, qw_u2_n, qx_ov_n]
      rw [e2, okN k (Nat.le_refl _) (by omega)]
      simp (disch := omega) only [qx_mcall, qx_notes, qw_u2_n, qw_u2_e]
