/-! a tail call -/
def qx_t (m : wm) (H S f : Nat) : wm := qx_note (qw_u2 m 9 (H - 1) (nI f)) S 1 (nI f) (nI 0)
def qx_mt (t : wm) (H S f : Nat) : wm := qx_notes (qw_u2 t 1 (15 + 5 * (H - 1) + 1) (nI f)) S 1 (nI f)
theorem qo_tailT {m : wm} {T Z H S C N f : Nat} (ok : qs_ok m T Z H S C N) (h1 : 1 ≤ H) (hS : S < 200) (hf : f ≤ 15) :
    qf_X0_take (nI 1) (nI f) (nI 0) m = some (m 9 (H - 1), qx_t m H S f) := by
  obtain ⟨⟨b1, b2, b3, b4, b5, b6, b7⟩, ⟨e1, e2, e3, e5, e6, eN, er⟩, -⟩ := ok
  unfold qf_X0_take qf_X0_take_81
  rw [qe_errT e3 h1 b4 e5 hS hf, qa_t1, if_pos (show nI 0 = 0 from rfl), if_neg (show ¬ nI 1 = nI 0 by decide), if_pos rfl, qe_repl e3 h1 b4, qa_t2, qe_note (S := S) (by rw [qw_u2_n _ _ (by omega)]; exact e5) hS (by decide), qa_t1]
  rfl
theorem qo_tailO {m : wm} {T Z H S C N f : Nat} (ok : qs_ok m T Z H S C N) (h1 : 1 ≤ H) (hS : S < 200) (hf : f ≤ 15) :
    qs_ok (qx_t m H S f) T Z H (S + 1) C N := by
  obtain ⟨⟨b1, b2, b3, b4, b5, b6, b7⟩, ⟨e1, e2, e3, e5, e6, eN, er⟩, okF, okS, okN, okV⟩ := ok
  refine ⟨⟨b1, b2, b3, b4, by omega, b6, by omega⟩, ⟨?_, ?_, ?_, ?_, ?_, ?_, ?_⟩, ?_, ?_, ?_, ?_⟩
  · simp (disch := omega) only [qx_t, qx_note, qw_u2_n, e1]
  · simp (disch := omega) only [qx_t, qx_note, qw_u2_n, e2]
  · simp (disch := omega) only [qx_t, qx_note, qw_u2_n, e3]
  · simp (disch := omega) only [qx_t, qx_note, qw_u2_n, qw_u2_s]
  · simp (disch := omega) only [qx_t, qx_note, qw_u2_n, e6]
  · simp (disch := omega) only [qx_t, qx_note, qw_u2_n, eN]
  · simp (disch := omega) only [qx_t, qx_note, qw_u2_n]
    exact er
  · intro i hi
    obtain ⟨⟨q1, p1, p2⟩, p3, q2, p4, p5⟩ := okF i hi
    refine ⟨⟨q1, ?_, p2⟩, ?_, ?_⟩
    · simp (disch := omega) only [qx_t, qx_note, qw_u2_n, p1]
    · simp (disch := omega) only [qx_t, qx_note, qw_u2_n]
      exact p3
    · by_cases h : i = H - 1
      · refine ⟨f, ?_, hf⟩
        simp (disch := omega) only [qx_t, qx_note, qw_u2_n, qw_u2_e]
      · refine ⟨q2, ?_, p5⟩
        simp (disch := omega) only [qx_t, qx_note, qw_u2_n, p4]
  · intro i hi
    simp (disch := omega) only [qx_t, qx_note, qw_u2_n]
    exact okS i hi
  · intro i hi h2
    simp (disch := omega) only [qx_t, qx_note, qw_u2_n]
    exact okN i hi h2
  · refine qs_val_s okV (fun i hi => ?_) ?_ ?_
    · refine ⟨?_, ?_, ?_⟩ <;> simp (disch := omega) only [qx_t, qx_note, qw_u2_n]
    · refine Or.inr (Or.inl ⟨?_, ⟨f, ?_, hf⟩, ?_, h1⟩)
      · simp (disch := omega) only [qx_t, qx_note, qw_u2_n, qw_u2_s]
      · simp (disch := omega) only [qx_t, qx_note, qw_u2_n, qw_u2_s]
      · simp (disch := omega) only [qx_t, qx_note, qw_u2_n, qw_u2_s]
    · have e : qx_t m H S f 16 S = nI 1 := by simp (disch := omega) only [qx_t, qx_note, qw_u2_n, qw_u2_s]
      rw [e, if_neg (by decide), if_neg (by decide), if_neg (by decide)]
theorem qo_tailR {m t : wm} {T Z H S C N f : Nat} (ok : qs_ok m T Z H S C N) (rl : qs_rel m (t 1) H S C N) (h1 : 1 ≤ H) (hS : S < 200) (hf : f ≤ 15) :
    qs_rel (qx_t m H S f) (qx_mt t H S f 1) H (S + 1) C N := by
  obtain ⟨⟨b1, b2, b3, b4, b5, b6, b7⟩, ⟨e1, e2, e3, e5, e6, eN, er⟩, okF, okS, okN, okV⟩ := ok
  obtain ⟨⟨r0, r1, r2, r3, r4, r5, r6, r7, r8, r9, r10, r11, r12, r13, r14⟩, rF, rS, rT, rP, rN⟩ := rl
  refine ⟨⟨?_, ?_, ?_, ?_, ?_, ?_, ?_, ?_, ?_, ?_, ?_, ?_, ?_, ?_, ?_⟩, ?_, ?_, ?_, ?_, ?_⟩
  · simp (disch := omega) only [qx_t, qx_note, qx_mt, qx_notes, qw_u2_n, qw_u2_e, r0]
  · simp (disch := omega) only [qx_t, qx_note, qx_mt, qx_notes, qw_u2_n, qw_u2_e]
  · simp (disch := omega) only [qx_t, qx_note, qx_mt, qx_notes, qw_u2_n, qw_u2_e, r2]
  · simp (disch := omega) only [qx_t, qx_note, qx_mt, qx_notes, qw_u2_n, qw_u2_e, r3]
  · simp (disch := omega) only [qx_t, qx_note, qx_mt, qx_notes, qw_u2_n, qw_u2_e, r4]
  · simp (disch := omega) only [qx_t, qx_note, qx_mt, qx_notes, qw_u2_n, qw_u2_e, r5]
  · simp (disch := omega) only [qx_t, qx_note, qx_mt, qx_notes, qw_u2_n, qw_u2_e, r6]
  · simp (disch := omega) only [qx_t, qx_note, qx_mt, qx_notes, qw_u2_n, qw_u2_e, r7]
  · simp (disch := omega) only [qx_t, qx_note, qx_mt, qx_notes, qw_u2_n, qw_u2_e, r8]
  · simp (disch := omega) only [qx_t, qx_note, qx_mt, qx_notes, qw_u2_n, qw_u2_e, r9]
  · simp (disch := omega) only [qx_t, qx_note, qx_mt, qx_notes, qw_u2_n, qw_u2_e, r10]
  · simp (disch := omega) only [qx_t, qx_note, qx_mt, qx_notes, qw_u2_n, qw_u2_e, r11]
  · simp (disch := omega) only [qx_t, qx_note, qx_mt, qx_notes, qw_u2_n, qw_u2_e, r12]
  · simp (disch := omega) only [qx_t, qx_note, qx_mt, qx_notes, qw_u2_n, qw_u2_e, r13]
  · simp (disch := omega) only [qx_t, qx_note, qx_mt, qx_notes, qw_u2_n, qw_u2_e, r14]
  · intro k w hk hw
    by_cases h : k = H - 1 ∧ w = 1
    · obtain ⟨h, rfl⟩ := h
      simp (disch := omega) only [qx_t, qx_note, qx_mt, qx_notes, qw_u2_n, qw_u2_e]
    · have e : qx_mt t H S f 1 (15 + 5 * k + w) = t 1 (15 + 5 * k + w) := by
        simp (disch := omega) only [qx_mt, qx_notes, qw_u2_n]
      have e2 : qx_t m H S f (8 + w) k = m (8 + w) k := by
        simp (disch := omega) only [qx_t, qx_note, qw_u2_n]
      rw [e, e2]
      exact rF k w hk hw
  · intro k w hk hw
    have e : qx_mt t H S f 1 (215 + 3 * k + w) = t 1 (215 + 3 * k + w) := by
      simp (disch := omega) only [qx_mt, qx_notes, qw_u2_n]
    have e2 : qx_t m H S f (13 + w) k = m (13 + w) k := by
      simp (disch := omega) only [qx_t, qx_note, qw_u2_n]
    rw [e, e2]
    exact rS k w hk hw
  · intro j w hj hw
    have e : qx_mt t H S f 1 (263 + 6 * (C - 1 - j) + w) = t 1 (263 + 6 * (C - 1 - j) + w) := by
      simp (disch := omega) only [qx_mt, qx_notes, qw_u2_n]
    have e2 : qx_t m H S f (19 + w) j = m (19 + w) j := by
      simp (disch := omega) only [qx_t, qx_note, qw_u2_n]
    rw [e, e2]
    exact rT j w hj hw
  · intro k hk
    rcases Nat.lt_or_ge k S with hl | hl
    · obtain ⟨p1, p2⟩ := rP k hl
      have e : ∀ y : Nat, y = 335 + 2 * k ∨ y = 335 + 2 * k + 1 → qx_mt t H S f 1 y = t 1 y := by
        intro y hy
        simp (disch := omega) only [qx_mt, qx_notes, qw_u2_n]
      have e2 : ∀ x : Nat, 16 ≤ x ∧ x < 19 → qx_t m H S f x k = m x k := by
        intro x hx
        simp (disch := omega) only [qx_t, qx_note, qw_u2_n]
      rw [e _ (Or.inl rfl), e _ (Or.inr rfl), e2 16 (by omega), e2 17 (by omega), e2 18 (by omega)]
      exact ⟨p1, p2⟩
    · have : k = S := by omega
      subst this
      have e16 : qx_t m H k f 16 k = nI 1 := by simp (disch := omega) only [qx_t, qx_note, qw_u2_n, qw_u2_e]
      rw [e16, if_pos rfl]
      constructor
      · simp (disch := omega) only [qx_mt, qx_notes, qw_u2_n, qw_u2_e]
      · simp (disch := omega) only [qx_t, qx_note, qx_mt, qx_notes, qw_u2_n, qw_u2_e]
  · intro k hk
    have e : qx_mt t H S f 1 (735 + k) = t 1 (735 + k) := by
      simp (disch := omega) only [qx_mt, qx_notes, qw_u2_n]
    have e2 : qx_t m H S f 3 k = m 3 k := by
      simp (disch := omega) only [qx_t, qx_note, qw_u2_n]
    rw [e, e2]
    exact rN k hk
/-! a throw -/
def qx_x (m : wm) (T Z H S n : Nat) : wm := qx_note (qx_rms m T Z H n) S 3 (nI 0) (nI n)
def qx_mx (t : wm) (T Z H S n : Nat) : wm := qx_notes (qw_u2 (qw_u2 t 1 0 (nI (H - n))) 1 12 (if t 1 14 = nI 1 then nI (qx_sbn Z T n) else nI T)) S 3 (nI n)
def qx_xT (m : wm) (T Z n : Nat) : Nat := if m 0 0 = nI 1 then qx_sbn Z T n else T
theorem qo_throwT {m : wm} {T Z H S C N n : Nat} (ok : qs_ok m T Z H S C N) (h1 : 1 ≤ n) (h2 : n ≤ H) (hS : S < 200) :
    qf_X0_take (nI 3) (nI 0) (nI n) m = some (nI (H - n), qx_x m T Z H S n) := by
  obtain ⟨⟨b1, b2, b3, b4, b5, b6, b7⟩, ⟨e1, e2, e3, e5, e6, eN, er⟩, -⟩ := ok
  unfold qf_X0_take qf_X0_take_81
  rw [qe_errX e3 h1 h2 b4 e5 hS, qa_t1, if_pos (show nI 0 = 0 from rfl), if_neg (show ¬ nI 3 = nI 0 by decide), if_neg (show ¬ nI 3 = nI 1 by decide), if_neg (show ¬ nI 3 = nI 2 by decide), qe_rms e1 ⟨by omega, b2⟩ e2 b3 e3 b4 h2, qa_t2, qe_note (S := S) (by simp (disch := omega) only [qx_rms, qw_u2_n]; exact e5) hS (by decide), qa_t1]
  rfl
theorem qo_throwO {m : wm} {T Z H S C N n : Nat} (ok : qs_ok m T Z H S C N) (h1 : 1 ≤ n) (h2 : n ≤ H) (hS : S < 200) :
    qs_ok (qx_x m T Z H S n) (qx_xT m T Z n) Z (H - n) (S + 1) C N := by
  obtain ⟨⟨b1, b2, b3, b4, b5, b6, b7⟩, ⟨e1, e2, e3, e5, e6, eN, er⟩, okF, okS, okN, okV⟩ := ok
  have hT : qx_xT m T Z n < Z := by
    unfold qx_xT
    split
    · exact qx_sbn_lt (by omega) b3 n
    · exact b3
  refine ⟨⟨b1, b2, hT, by omega, by omega, b6, by omega⟩, ⟨?_, ?_, ?_, ?_, ?_, ?_, ?_⟩, ?_, ?_, ?_, ?_⟩
  · simp (disch := omega) only [qx_x, qx_note, qx_rms, qw_u2_n, e1]
  · simp (disch := omega) only [qx_x, qx_note, qx_rms, qw_u2_n, qw_u2_s]
    unfold qx_xT
    split <;> rfl
  · simp (disch := omega) only [qx_x, qx_note, qx_rms, qw_u2_n, qw_u2_s]
  · simp (disch := omega) only [qx_x, qx_note, qx_rms, qw_u2_n, qw_u2_s]
  · simp (disch := omega) only [qx_x, qx_note, qx_rms, qw_u2_n, e6]
  · simp (disch := omega) only [qx_x, qx_note, qx_rms, qw_u2_n, eN]
  · simp (disch := omega) only [qx_x, qx_note, qx_rms, qw_u2_n]
    exact er
  · intro i hi
    have e2 : ∀ x : Nat, 8 ≤ x ∧ x < 16 → qx_x m T Z H S n x i = m x i := by
      intro x hx
      simp (disch := omega) only [qx_x, qx_note, qx_rms, qw_u2_n]
    rw [e2 11 (by omega), e2 12 (by omega), e2 9 (by omega)]
    exact okF i (by omega)
  · intro i hi
    simp (disch := omega) only [qx_x, qx_note, qx_rms, qw_u2_n]
    exact okS i hi
  · intro i hi h2
    simp (disch := omega) only [qx_x, qx_note, qx_rms, qw_u2_n]
    exact okN i hi h2
  · refine qs_val_s okV (fun i hi => ?_) ?_ ?_
    · refine ⟨?_, ?_, ?_⟩ <;> simp (disch := omega) only [qx_x, qx_note, qx_rms, qw_u2_n]
    · refine Or.inr (Or.inr (Or.inr ⟨?_, ?_, n, ?_, h1, by omega, h2⟩))
      · simp (disch := omega) only [qx_x, qx_note, qw_u2_n, qw_u2_s]
      · simp (disch := omega) only [qx_x, qx_note, qw_u2_n, qw_u2_s]
      · simp (disch := omega) only [qx_x, qx_note, qw_u2_n, qw_u2_s]
    · have e : qx_x m T Z H S n 16 S = nI 3 := by simp (disch := omega) only [qx_x, qx_note, qw_u2_n, qw_u2_s]
      have e8 : qx_x m T Z H S n 18 S = nI n := by simp (disch := omega) only [qx_x, qx_note, qw_u2_n, qw_u2_s]
      rw [e, e8, if_neg (by decide), if_neg (by decide), if_pos rfl, qa_cl (by omega)]
theorem qo_throwR {m t : wm} {T Z H S C N n : Nat} (ok : qs_ok m T Z H S C N) (rl : qs_rel m (t 1) H S C N) (h1 : 1 ≤ n) (h2 : n ≤ H) (hS : S < 200) :
    qs_rel (qx_x m T Z H S n) (qx_mx t T Z H S n 1) (H - n) (S + 1) C N := by
  obtain ⟨⟨b1, b2, b3, b4, b5, b6, b7⟩, ⟨e1, e2, e3, e5, e6, eN, er⟩, okF, okS, okN, okV⟩ := ok
  obtain ⟨⟨r0, r1, r2, r3, r4, r5, r6, r7, r8, r9, r10, r11, r12, r13, r14⟩, rF, rS, rT, rP, rN⟩ := rl
  refine ⟨⟨?_, ?_, ?_, ?_, ?_, ?_, ?_, ?_, ?_, ?_, ?_, ?_, ?_, ?_, ?_⟩, ?_, ?_, ?_, ?_, ?_⟩
  · simp (disch := omega) only [qx_x, qx_note, qx_rms, qx_mx, qx_notes, qw_u2_n, qw_u2_e]
  · simp (disch := omega) only [qx_x, qx_note, qx_rms, qx_mx, qx_notes, qw_u2_n, qw_u2_e]
  · simp (disch := omega) only [qx_x, qx_note, qx_rms, qx_mx, qx_notes, qw_u2_n, qw_u2_e, r2]
  · simp (disch := omega) only [qx_x, qx_note, qx_rms, qx_mx, qx_notes, qw_u2_n, qw_u2_e, r3]
  · simp (disch := omega) only [qx_x, qx_note, qx_rms, qx_mx, qx_notes, qw_u2_n, qw_u2_e, r4]
  · simp (disch := omega) only [qx_x, qx_note, qx_rms, qx_mx, qx_notes, qw_u2_n, qw_u2_e, r5]
  · simp (disch := omega) only [qx_x, qx_note, qx_rms, qx_mx, qx_notes, qw_u2_n, qw_u2_e, r6]
  · simp (disch := omega) only [qx_x, qx_note, qx_rms, qx_mx, qx_notes, qw_u2_n, qw_u2_e, r7]
  · simp (disch := omega) only [qx_x, qx_note, qx_rms, qx_mx, qx_notes, qw_u2_n, qw_u2_e, r8]
  · simp (disch := omega) only [qx_x, qx_note, qx_rms, qx_mx, qx_notes, qw_u2_n, qw_u2_e, r9]
  · simp (disch := omega) only [qx_x, qx_note, qx_rms, qx_mx, qx_notes, qw_u2_n, qw_u2_e, r10]
  · simp (disch := omega) only [qx_x, qx_note, qx_rms, qx_mx, qx_notes, qw_u2_n, qw_u2_e, r11]
  · simp (disch := omega) only [qx_x, qx_note, qx_rms, qx_mx, qx_notes, qw_u2_n, qw_u2_e, r14]
  · simp (disch := omega) only [qx_x, qx_note, qx_rms, qx_mx, qx_notes, qw_u2_n, qw_u2_e, r13]
  · simp (disch := omega) only [qx_x, qx_note, qx_rms, qx_mx, qx_notes, qw_u2_n, qw_u2_e, r14]
  · intro k w hk hw
    have e : qx_mx t T Z H S n 1 (15 + 5 * k + w) = t 1 (15 + 5 * k + w) := by
      simp (disch := omega) only [qx_mx, qx_notes, qw_u2_n]
    have e2 : qx_x m T Z H S n (8 + w) k = m (8 + w) k := by
      simp (disch := omega) only [qx_x, qx_note, qx_rms, qw_u2_n]
    rw [e, e2]
    exact rF k w (by omega) hw
  · intro k w hk hw
    have e : qx_mx t T Z H S n 1 (215 + 3 * k + w) = t 1 (215 + 3 * k + w) := by
      simp (disch := omega) only [qx_mx, qx_notes, qw_u2_n]
    have e2 : qx_x m T Z H S n (13 + w) k = m (13 + w) k := by
      simp (disch := omega) only [qx_x, qx_note, qx_rms, qw_u2_n]
    rw [e, e2]
    exact rS k w hk hw
  · intro j w hj hw
    have e : qx_mx t T Z H S n 1 (263 + 6 * (C - 1 - j) + w) = t 1 (263 + 6 * (C - 1 - j) + w) := by
      simp (disch := omega) only [qx_mx, qx_notes, qw_u2_n]
    have e2 : qx_x m T Z H S n (19 + w) j = m (19 + w) j := by
      simp (disch := omega) only [qx_x, qx_note, qx_rms, qw_u2_n]
    rw [e, e2]
    exact rT j w hj hw
  · intro k hk
    rcases Nat.lt_or_ge k S with hl | hl
    · obtain ⟨p1, p2⟩ := rP k hl
      have e : ∀ y : Nat, y = 335 + 2 * k ∨ y = 335 + 2 * k + 1 → qx_mx t T Z H S n 1 y = t 1 y := by
        intro y hy
        simp (disch := omega) only [qx_mx, qx_notes, qw_u2_n]
      have e2 : ∀ x : Nat, 16 ≤ x ∧ x < 19 → qx_x m T Z H S n x k = m x k := by
        intro x hx
        simp (disch := omega) only [qx_x, qx_note, qx_rms, qw_u2_n]
      rw [e _ (Or.inl rfl), e _ (Or.inr rfl), e2 16 (by omega), e2 17 (by omega), e2 18 (by omega)]
      exact ⟨p1, p2⟩
    · have : k = S := by omega
      subst this
      have e16 : qx_x m T Z H k n 16 k = nI 3 := by simp (disch := omega) only [qx_x, qx_note, qw_u2_n, qw_u2_e]
      rw [e16, if_neg (show ¬ nI 3 = nI 1 by decide)]
      constructor
      · simp (disch := omega) only [qx_mx, qx_notes, qw_u2_n, qw_u2_e]
      · simp (disch := omega) only [qx_x, qx_note, qx_mx, qx_notes, qw_u2_n, qw_u2_e]
  · intro k hk
    have e : qx_mx t T Z H S n 1 (735 + k) = t 1 (735 + k) := by
      simp (disch := omega) only [qx_mx, qx_notes, qw_u2_n]
    have e2 : qx_x m T Z H S n 3 k = m 3 k := by
      simp (disch := omega) only [qx_x, qx_note, qx_rms, qw_u2_n]
    rw [e, e2]
    exact rN k hk
