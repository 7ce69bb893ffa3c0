def qs_R (m : wm) (s : Nat → Int32) : Prop := ∃ T Z H S C N : Nat, qs_ok m T Z H S C N ∧ qs_rel m s H S C N
/-- the two answer alike: both refuse, or both go on, still alike -/
def qo_sim (A B : Option (Int32 × wm)) (m t ta : wm) : Prop :=
  (∃ e : Int32, e < 0 ∧ A = some (e, m) ∧ B = some (e, t)) ∨
  (∃ (r : Nat) (m' t' : wm), r < 1000 ∧ A = some (nI r, m') ∧ B = some (nI r, t') ∧ qs_R m' (t' 1) ∧ ∀ c : Nat, c ≠ 1 → t' c = ta c)
theorem qe_takeE {m : wm} {k x y e : Int32} (h : qf_X0_errorOf k x y m = some e) (he : e < 0) : qf_X0_take k x y m = some (e, m) := by
  have hne : ¬ e = 0 := by
    intro q
    rw [q] at he
    exact absurd he (by decide)
  unfold qf_X0_take
  rw [h, qa_t1, if_neg hne]
theorem qm_inF {x : Int32} {a b : Nat} (h : x < nI a ∨ nI b < x) : qf_X3_in x (nI a) (nI b) = some (nI 0) := by
  rw [qm_in]
  rcases h with h | h
  · rw [if_pos h]
  · by_cases h2 : x < nI a
    · rw [if_pos h2]
    · rw [if_neg h2, if_pos h]
theorem qa_gtn {x : Int32} {n : Nat} (hn : n < 2147483648) (h : nI n < x) : ¬ x < 0 := by
  rw [qa_lt_iff] at h ⊢
  rw [qa_ti hn] at h
  have : (0 : Int32).toInt = 0 := by decide
  omega
theorem qo_simC {m t ta : wm} (R : qs_R m (t 1)) (ha : qf_X3_acts t = some ta) (h1 : ta 1 = t 1) (x1 x2 : Int32) : qo_sim (qf_X0_take (nI 0) x1 x2 m) (qf_X3_call x1 x2 t) m t ta := by
  obtain ⟨T, Z, H, S, C, N, ok, rl⟩ := R
  have ok0 := ok
  have rl1 : qs_rel m (ta 1) H S C N := by rw [h1]; exact rl
  obtain ⟨⟨b1, b2, b3, b4, b5, b6, b7⟩, ⟨e1, e2, e3, e5, e6, eN, er⟩, okF, okS, -⟩ := ok
  obtain ⟨⟨r0, r1, r2, r3, r4, r5, r6, r7, r8, r9, r10, r11, r12, r13, r14⟩, -⟩ := rl
  have bad : (x1 < nI 0 ∨ nI 15 < x1) ∨ (x2 < nI 0 ∨ nI 999 < x2) ∨ ∃ f a : Nat, f ≤ 15 ∧ a ≤ 999 ∧ x1 = nI f ∧ x2 = nI a := by
    rcases qa_rng x1 15 (by decide) with ⟨f, hf, ef⟩ | h | h
    · rcases qa_rng x2 999 (by decide) with ⟨a, ha, ea⟩ | h | h
      · exact Or.inr (Or.inr ⟨f, a, hf, ha, ef, ea⟩)
      · exact Or.inr (Or.inl (Or.inl h))
      · exact Or.inr (Or.inl (Or.inr h))
    · exact Or.inl (Or.inl h)
    · exact Or.inl (Or.inr h)
  rcases bad with h | h | ⟨f, a, hf, hfa, ef, ea⟩
  · refine Or.inl ⟨-1, by decide, qe_takeE ?_ (by decide), ?_⟩
    · unfold qf_X0_errorOf
      rcases h with h | h
      · rw [if_pos (show x1 < 0 from h)]
      · rw [if_neg (qa_gtn (by decide) h), if_pos h]
    · unfold qf_X3_call
      rw [qm_inF h, qa_t1, if_pos (show nI 0 = 0 from rfl)]
  · by_cases hx : x1 < nI 0 ∨ nI 15 < x1
    · refine Or.inl ⟨-1, by decide, qe_takeE ?_ (by decide), ?_⟩
      · unfold qf_X0_errorOf
        rcases hx with h | h
        · rw [if_pos (show x1 < 0 from h)]
        · rw [if_neg (qa_gtn (by decide) h), if_pos h]
      · unfold qf_X3_call
        rw [qm_inF hx, qa_t1, if_pos (show nI 0 = 0 from rfl)]
    · have hx1 : ¬ x1 < 0 := fun q => hx (Or.inl q)
      have hx2 : ¬ nI 15 < x1 := fun q => hx (Or.inr q)
      refine Or.inl ⟨-1, by decide, qe_takeE ?_ (by decide), ?_⟩
      · unfold qf_X0_errorOf qf_X0_isNumberFor
        rw [if_neg hx1, if_neg hx2, if_pos (show nI 0 = 0 from rfl)]
        rcases h with h | h
        · rw [if_pos (show x2 < 0 from h), qa_t1, if_pos (show nI 0 = 0 from rfl)]
        · rw [if_neg (qa_gtn (by decide) h), if_pos h, qa_t1, if_pos (show nI 0 = 0 from rfl)]
      · unfold qf_X3_call
        have hin : qf_X3_in x1 (nI 0) (nI 15) = some (nI 1) := by rw [qm_in, if_neg (show ¬ x1 < nI 0 from hx1), if_neg hx2]
        rw [hin, qa_t1, if_neg (show ¬ nI 1 = 0 by decide), qm_inF h, qa_t1, if_pos (show nI 0 = 0 from rfl)]
  · subst ef
    subst ea
    have hin : qf_X3_in (nI f) (nI 0) (nI 15) = some (nI 1) := qm_inT (by omega) hf (by decide)
    have hin2 : qf_X3_in (nI a) (nI 0) (nI 999) = some (nI 1) := qm_inT (by omega) hfa (by decide)
    by_cases hH : H = 40
    · refine Or.inl ⟨-3, by decide, qe_takeE ?_ (by decide), ?_⟩
      · unfold qf_X0_errorOf qf_X0_isNumberFor qf_X0_framesNeeded
        simp (disch := omega) only [qa_l0, qa_lt, qa_le, qa_eq, qa_e0, qn_e, qa_t1, e3, e5, if_pos, if_neg, ↓reduceIte]
        split <;> rfl
      · unfold qf_X3_call
        rw [hin, qa_t1, if_neg (show ¬ nI 1 = 0 by decide), hin2, qa_t1, if_neg (show ¬ nI 1 = 0 by decide), qn_e, if_pos (by rw [r0, e3, hH])]
    · by_cases hS : S = 200
      · refine Or.inl ⟨-3, by decide, qe_takeE ?_ (by decide), ?_⟩
        · unfold qf_X0_errorOf qf_X0_isNumberFor qf_X0_framesNeeded
          simp (disch := omega) only [qa_l0, qa_lt, qa_le, qa_eq, qa_e0, qn_e, qa_t1, e3, e5, if_pos, if_neg, ↓reduceIte]
        · unfold qf_X3_call
          rw [hin, qa_t1, if_neg (show ¬ nI 1 = 0 by decide), hin2, qa_t1, if_neg (show ¬ nI 1 = 0 by decide), qn_e, if_neg (by rw [r0, e3, qa_eq (by omega) (by decide)]; exact hH), qn_e, if_pos (by rw [r1, e5, hS])]
      · have hst : (T + 1) % Z = qx_st Z T := by
          unfold qx_st
          split
          · exact Nat.mod_eq_of_lt (by omega)
          · have : T + 1 = Z := by omega
            rw [this, Nat.mod_self]
        refine Or.inr ⟨N, _, _, by omega, qo_callT ok0 (by omega) (by omega) hf hfa, ?_, ⟨_, _, _, _, _, _, qo_callO ok0 (by omega) (by omega) hf hfa, qo_callR ok0 rl1 (by omega) (by omega) hf hfa⟩, fun c hc => funext fun y => qx_mcall_o hc⟩
        unfold qf_X3_call
        rw [hin, qa_t1, if_neg (show ¬ nI 1 = 0 by decide), hin2, qa_t1, if_neg (show ¬ nI 1 = 0 by decide), qn_e, if_neg (by rw [r0, e3, qa_eq (by omega) (by decide)]; exact hH), qn_e, if_neg (by rw [r1, e5, qa_eq (by omega) (by decide)]; exact hS), ha, qa_t1]
        have a2 : ta 1 2 = nI N := by rw [h1, r2, eN]
        have a12 : ta 1 12 = nI T := by rw [h1, r12, e2]
        have a11 : ta 1 11 = nI Z := by rw [h1, r11, e1]
        have a0 : ta 1 0 = nI H := by rw [h1, r0, e3]
        have a1 : ta 1 1 = nI S := by rw [h1, r1, e5]
        simp (disch := omega) only [qn_e, a2, a12, a11, nI_add, qa_gn, qa_rem, hst]
        have hlt := qx_st_lt (T := T) b1
        rw [qm_call_82 (by omega) H qfu 0 ta a0 (by omega) (by omega) (by unfold qfu; omega), qm_call_160 a0 (by omega) a1 (by omega) (by omega) (by omega)]
theorem qo_simT {m t ta : wm} (R : qs_R m (t 1)) (ha : qf_X3_acts t = some ta) (h1 : ta 1 = t 1) (x1 : Int32) : qo_sim (qf_X0_take (nI 1) x1 (nI 0) m) (qf_X3_tail x1 t) m t ta := by
  obtain ⟨T, Z, H, S, C, N, ok, rl⟩ := R
  have ok0 := ok
  have rl1 : qs_rel m (ta 1) H S C N := by rw [h1]; exact rl
  obtain ⟨⟨b1, b2, b3, b4, b5, b6, b7⟩, ⟨e1, e2, e3, e5, e6, eN, er⟩, okF, okS, -⟩ := ok
  obtain ⟨⟨r0, r1, r2, r3, r4, r5, r6, r7, r8, r9, r10, r11, r12, r13, r14⟩, rF, -⟩ := rl
  rcases qa_rng x1 15 (by decide) with ⟨f, hf, ef⟩ | h | h
  · subst ef
    have hin : qf_X3_in (nI f) (nI 0) (nI 15) = some (nI 1) := qm_inT (by omega) hf (by decide)
    by_cases hH : H = 0
    · refine Or.inl ⟨-2, by decide, qe_takeE ?_ (by decide), ?_⟩
      · unfold qf_X0_errorOf qf_X0_isNumberFor qf_X0_framesNeeded
        simp (disch := omega) only [qa_l0, qa_lt, qa_le, qa_eq, qa_e0, qn_e, qa_t1, e3, e5, if_pos, if_neg, ↓reduceIte]
      · unfold qf_X3_tail
        rw [hin, qa_t1, if_neg (show ¬ nI 1 = 0 by decide), qn_e, if_pos (by rw [r0, e3, hH]; rfl)]
    · by_cases hS : S = 200
      · refine Or.inl ⟨-3, by decide, qe_takeE ?_ (by decide), ?_⟩
        · unfold qf_X0_errorOf qf_X0_isNumberFor qf_X0_framesNeeded
          simp (disch := omega) only [qa_l0, qa_lt, qa_le, qa_eq, qa_e0, qn_e, qa_t1, e3, e5, if_pos, if_neg, ↓reduceIte]
        · unfold qf_X3_tail
          rw [hin, qa_t1, if_neg (show ¬ nI 1 = 0 by decide), qn_e, if_neg (by rw [r0, e3, qa_e0 (by omega)]; exact hH), qn_e, if_pos (by rw [r1, e5, hS])]
      · obtain ⟨-, -, q, eq, hq⟩ := okF (H - 1) (by omega)
        refine Or.inr ⟨q, _, _, by omega, by rw [← eq]; exact qo_tailT ok0 (by omega) (by omega) hf, ?_, ⟨_, _, _, _, _, _, qo_tailO ok0 (by omega) (by omega) hf, qo_tailR ok0 rl1 (by omega) (by omega) hf⟩, fun c hc => funext fun y => qx_mt_o hc⟩
        unfold qf_X3_tail
        rw [hin, qa_t1, if_neg (show ¬ nI 1 = 0 by decide), qn_e, if_neg (by rw [r0, e3, qa_e0 (by omega)]; exact hH), qn_e, if_neg (by rw [r1, e5, qa_eq (by omega) (by decide)]; exact hS), ha, qa_t1]
        have a0 : ta 1 0 = nI H := by rw [h1, r0, e3]
        have a1 : ta 1 1 = nI S := by rw [h1, r1, e5]
        have af : ta 1 (15 + 5 * (H - 1) + 1) = nI q := by
          rw [h1, ← eq]
          exact rF (H - 1) 1 (by omega) (by decide)
        simp (disch := omega) only [qn_e, a0, qa_sub, pk_mul, nI_add, qa_g, qa_cl, af]
        rw [qm_notes (S := S) (by rw [qw_u2_n _ _ (by omega)]; exact a1) (by omega) (by decide), qa_t1]
        rfl
  · refine Or.inl ⟨-1, by decide, qe_takeE ?_ (by decide), ?_⟩
    · unfold qf_X0_errorOf
      rw [if_pos h]
    · unfold qf_X3_tail
      rw [qm_inF (Or.inl h), qa_t1, if_pos (show nI 0 = 0 from rfl)]
  · refine Or.inl ⟨-1, by decide, qe_takeE ?_ (by decide), ?_⟩
    · unfold qf_X0_errorOf
      rw [if_neg (qa_gtn (by decide) h), if_pos h]
    · unfold qf_X3_tail
      rw [qm_inF (Or.inr h), qa_t1, if_pos (show nI 0 = 0 from rfl)]
theorem qo_simR {m t ta : wm} (R : qs_R m (t 1)) (ha : qf_X3_acts t = some ta) (h1 : ta 1 = t 1) : qo_sim (qf_X0_take (nI 2) (nI 0) (nI 0) m) (qf_X3_ret t) m t ta := by
  obtain ⟨T, Z, H, S, C, N, ok, rl⟩ := R
  have ok0 := ok
  have rl1 : qs_rel m (ta 1) H S C N := by rw [h1]; exact rl
  obtain ⟨⟨b1, b2, b3, b4, b5, b6, b7⟩, ⟨e1, e2, e3, e5, e6, eN, er⟩, okF, okS, -⟩ := ok
  obtain ⟨⟨r0, r1, r2, r3, r4, r5, r6, r7, r8, r9, r10, r11, r12, r13, r14⟩, rF, -⟩ := rl
  by_cases hH : H = 0
  · refine Or.inl ⟨-2, by decide, qe_takeE ?_ (by decide), ?_⟩
    · unfold qf_X0_errorOf qf_X0_isNumberFor qf_X0_framesNeeded
      simp (disch := omega) only [qa_l0, qa_lt, qa_le, qa_eq, qa_e0, qn_e, qa_t1, e3, e5, if_pos, if_neg, ↓reduceIte]
    · unfold qf_X3_ret
      rw [qn_e, if_pos (by rw [r0, e3, hH]; rfl)]
  · by_cases hS : S = 200
    · refine Or.inl ⟨-3, by decide, qe_takeE ?_ (by decide), ?_⟩
      · unfold qf_X0_errorOf qf_X0_isNumberFor qf_X0_framesNeeded
        simp (disch := omega) only [qa_l0, qa_lt, qa_le, qa_eq, qa_e0, qn_e, qa_t1, e3, e5, if_pos, if_neg, ↓reduceIte]
      · unfold qf_X3_ret
        rw [qn_e, if_neg (by rw [r0, e3, qa_e0 (by omega)]; exact hH), qn_e, if_pos (by rw [r1, e5, hS])]
    · obtain ⟨C2, k1, k2⟩ := qo_retO ok0 rl1 (by omega) (by omega)
      have h4 := qx_oc_lt m H T
      refine Or.inr ⟨qx_oc m H T, _, _, by omega, qo_retT ok0 (by omega) (by omega), ?_, ⟨_, _, _, _, _, _, k1, k2⟩, fun c hc => funext fun y => qx_mr_o hc⟩
      unfold qf_X3_ret
      rw [qn_e, if_neg (by rw [r0, e3, qa_e0 (by omega)]; exact hH), qn_e, if_neg (by rw [r1, e5, qa_eq (by omega) (by decide)]; exact hS), ha, qa_t1]
      exact qm_retE ok0 rl1 (by omega) (by omega)
theorem qo_simX {m t ta : wm} (R : qs_R m (t 1)) (ha : qf_X3_acts t = some ta) (h1 : ta 1 = t 1) (x1 : Int32) : qo_sim (qf_X0_take (nI 3) (nI 0) x1 m) (qf_X3_raise x1 t) m t ta := by
  obtain ⟨T, Z, H, S, C, N, ok, rl⟩ := R
  have ok0 := ok
  have rl1 : qs_rel m (ta 1) H S C N := by rw [h1]; exact rl
  obtain ⟨⟨b1, b2, b3, b4, b5, b6, b7⟩, ⟨e1, e2, e3, e5, e6, eN, er⟩, okF, okS, -⟩ := ok
  obtain ⟨⟨r0, r1, r2, r3, r4, r5, r6, r7, r8, r9, r10, r11, r12, r13, r14⟩, rF, -⟩ := rl
  have bad : (x1 < nI 1 ∨ nI 40 < x1) ∨ ∃ n : Nat, 1 ≤ n ∧ n ≤ 40 ∧ x1 = nI n := by
    rcases qa_rng x1 40 (by decide) with ⟨n, hn, en⟩ | h | h
    · by_cases h0 : n = 0
      · refine Or.inl (Or.inl ?_)
        rw [en, h0]
        decide
      · exact Or.inr ⟨n, by omega, hn, en⟩
    · refine Or.inl (Or.inl ?_)
      rw [qa_lt_iff] at h ⊢
      have e0 : (0 : Int32).toInt = 0 := by decide
      have e1 : (nI 1).toInt = 1 := by decide
      omega
    · exact Or.inl (Or.inr h)
  rcases bad with h | ⟨n, hn1, hn, en⟩
  · refine Or.inl ⟨-1, by decide, qe_takeE ?_ (by decide), ?_⟩
    · unfold qf_X0_errorOf qf_X0_isNumberFor
      rw [if_neg (show ¬ nI 0 < 0 by decide), if_neg (show ¬ nI 15 < nI 0 by decide), if_neg (show ¬ nI 3 = 0 by decide), if_pos rfl]
      rcases h with h | h
      · rw [if_pos h, qa_t1, if_pos (show nI 0 = 0 from rfl)]
      · by_cases h2 : x1 < nI 1
        · rw [if_pos h2, qa_t1, if_pos (show nI 0 = 0 from rfl)]
        · rw [if_neg h2, if_pos h, qa_t1, if_pos (show nI 0 = 0 from rfl)]
    · unfold qf_X3_raise
      rw [qm_inF h, qa_t1, if_pos (show nI 0 = 0 from rfl)]
  · subst en
    have hin : qf_X3_in (nI n) (nI 1) (nI 40) = some (nI 1) := qm_inT hn1 hn (by decide)
    by_cases hH : n ≤ H
    · by_cases hS : S = 200
      · refine Or.inl ⟨-3, by decide, qe_takeE ?_ (by decide), ?_⟩
        · unfold qf_X0_errorOf qf_X0_isNumberFor qf_X0_framesNeeded
          simp (disch := omega) only [qa_l0, qa_lt, qa_le, qa_eq, qa_e0, qn_e, qa_t1, e3, e5, if_pos, if_neg, ↓reduceIte]
        · unfold qf_X3_raise
          rw [hin, qa_t1, if_neg (show ¬ nI 1 = 0 by decide), qn_e, if_pos (by rw [r0, e3, qa_le (by omega) (by omega)]; exact hH), qn_e, if_pos (by rw [r1, e5, hS])]
      · refine Or.inr ⟨H - n, _, _, by omega, qo_throwT ok0 hn1 hH (by omega), ?_, ⟨_, _, _, _, _, _, qo_throwO ok0 hn1 hH (by omega), qo_throwR ok0 rl1 hn1 hH (by omega)⟩, fun c hc => funext fun y => qx_mx_o hc⟩
        unfold qf_X3_raise
        rw [hin, qa_t1, if_neg (show ¬ nI 1 = 0 by decide), qn_e, if_pos (by rw [r0, e3, qa_le (by omega) (by omega)]; exact hH), qn_e, if_neg (by rw [r1, e5, qa_eq (by omega) (by decide)]; exact hS), ha, qa_t1]
        have a0 : ta 1 0 = nI H := by rw [h1, r0, e3]
        have a1 : ta 1 1 = nI S := by rw [h1, r1, e5]
        have a12 : ta 1 12 = nI T := by rw [h1, r12, e2]
        have a11 : ta 1 11 = nI Z := by rw [h1, r11, e1]
        have hbk : qf_X3_back (nI T) (nI n) (nI Z) = some (nI (qx_sbn Z T n)) := by rw [qm_back (by omega) hn (by omega) b2, qx_sbn_back b2 (by omega) b3 n hn]
        have h99 : ∀ v : Int32, v = (if ta 1 14 = nI 1 then nI (qx_sbn Z T n) else nI T) → qf_X3_raise_99 (nI n) v (nI 12) (qw_u2 ta 1 0 (nI (H - n))) = some (nI (H - n), qx_mx ta T Z H S n) := by
          intro v ev
          subst ev
          unfold qf_X3_raise_99
          simp (disch := omega) only [qn_e, qa_g, qa_cl]
          rw [qm_notes (S := S) (by rw [qw_u2_n _ _ (by omega), qw_u2_n _ _ (by omega)]; exact a1) (by omega) (by decide), qa_t1]
          unfold qx_mx
          simp (disch := omega) only [qx_notes, qw_u2_n, qw_u2_e]
        simp (disch := omega) only [qn_e, a0, qa_sub, qw_u2_n, a12, a11]
        by_cases h14 : ta 1 14 = nI 1
        · rw [if_pos h14, hbk, qa_t1]
          exact h99 _ (by rw [if_pos h14])
        · rw [if_neg h14]
          exact h99 _ (by rw [if_neg h14])
    · refine Or.inl ⟨-2, by decide, qe_takeE ?_ (by decide), ?_⟩
      · unfold qf_X0_errorOf qf_X0_isNumberFor qf_X0_framesNeeded
        simp (disch := omega) only [qa_l0, qa_lt, qa_le, qa_eq, qa_e0, qn_e, qa_t1, e3, e5, if_pos, if_neg, ↓reduceIte]
      · unfold qf_X3_raise
        rw [hin, qa_t1, if_neg (show ¬ nI 1 = 0 by decide), qn_e, if_neg (by rw [r0, e3, qa_le (by omega) (by omega)]; exact hH)]
