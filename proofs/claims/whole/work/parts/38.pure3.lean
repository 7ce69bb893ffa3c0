theorem qk_ahead {M : wM} {h : Nat → Nat} {t : wm} (I : qv_I M h t) (x1 x2 : Int32) : qv_P (qf_X2_ahead x1 x2 M h) (qf_X3_ahead x1 x2 t) := by
  obtain ⟨T, Z, H, S, C, N, ok, rl⟩ := qk_R I
  obtain ⟨⟨b1, b2, b3, b4, b5, b6, b7⟩, ⟨e1, e2, e3, e5, e6, eN, er⟩, okF, okS, -⟩ := ok
  obtain ⟨⟨r0, r1, r2, r3, r4, r5, r6, r7, r8, r9, r10, r11, r12, r13, r14⟩, rF, rS, -⟩ := rl
  have t0 : t 1 0 = nI H := by rw [r0, e3]
  rcases qa_rng2 x1 (a := 1) (n := 40) (by decide) (by decide) with ⟨x, hx1, hx2, ex⟩ | hx
  · subst ex
    rcases qa_rng x2 1 (by decide) with ⟨w, hw, ew⟩ | h2 | h2
    · subst ew
      have A : qf_X2_ahead (nI x) (nI w) M h = if x ≤ H then qb1 (qf_X0_hitsAhead (nI x) (M 0)) fun r7 => if nI w = 0 then some r7 else qn (nI x - r7) fun z10 => some z10 else some (-2) := by
        unfold qf_X2_ahead
        rw [if_neg (by rw [qa_lt (by omega) (by omega)]; omega), if_neg (by rw [qa_lt (by omega) (by omega)]; omega), if_neg (by rw [qa_l0 (by omega)]; exact fun q => q), if_pos (by rw [qa_le (by omega) (by omega)]; exact hw), qn_e, e3]
        simp (disch := omega) only [qa_le]
      have B : qf_X3_ahead (nI x) (nI w) t = if x ≤ H then qf_X3_ahead_39 qfu (nI x) (nI w) (nI 0) (nI 0) t else some (-2) := by
        unfold qf_X3_ahead
        rw [qm_inT hx1 hx2 (by decide), qa_t1, if_neg (show ¬ nI 1 = 0 by decide), qm_inT (by omega) hw (by decide), qa_t1, if_neg (show ¬ nI 1 = 0 by decide), qn_e, t0]
        simp (disch := omega) only [qa_le]
      rw [A, B]
      by_cases g : x ≤ H
      · rw [if_pos g, if_pos g]
        obtain ⟨r, k1, k2⟩ := qk_ahead_10 (M := M) (t := t) (x2 := nI w) b4 b1 b2 b3 g e1 e3 t0 (by rw [r11, e1]) (by rw [r12, e2]) rF rS x qfu 0 (nI 0) (by omega) (by omega) (by unfold qfu; omega)
        refine ⟨if nI w = 0 then r else nI x - r, ?_, k2⟩
        have k1' : qf_X0_hitsAhead (nI x) (M 0) = some r := by
          unfold qf_X0_hitsAhead
          rw [qn_e, e2]
          exact k1
        rw [k1', qa_t1, qn_e]
        split <;> rfl
      · rw [if_neg g, if_neg g]
        exact ⟨_, rfl, rfl⟩
    · refine ⟨-1, ?_, ?_⟩
      · unfold qf_X2_ahead
        rw [if_neg (by rw [qa_lt (by omega) (by omega)]; omega), if_neg (by rw [qa_lt (by omega) (by omega)]; omega), if_pos h2]
      · unfold qf_X3_ahead
        rw [qm_inT hx1 hx2 (by decide), qa_t1, if_neg (show ¬ nI 1 = 0 by decide), qm_inF (Or.inl h2), qa_t1, if_pos (show nI 0 = 0 from rfl)]
    · refine ⟨-1, ?_, ?_⟩
      · unfold qf_X2_ahead
        rw [if_neg (by rw [qa_lt (by omega) (by omega)]; omega), if_neg (by rw [qa_lt (by omega) (by omega)]; omega), if_neg (qa_gtn (by decide) h2), if_neg (qa_gnl (by decide) (by decide) h2)]
      · unfold qf_X3_ahead
        rw [qm_inT hx1 hx2 (by decide), qa_t1, if_neg (show ¬ nI 1 = 0 by decide), qm_inF (Or.inr h2), qa_t1, if_pos (show nI 0 = 0 from rfl)]
  · refine ⟨-1, ?_, ?_⟩
    · unfold qf_X2_ahead
      rcases hx with hx | hx
      · rw [if_pos hx]
      · by_cases g : x1 < nI 1
        · rw [if_pos g]
        · rw [if_neg g, if_pos hx]
    · unfold qf_X3_ahead
      rw [qm_inF hx, qa_t1, if_pos (show nI 0 = 0 from rfl)]
theorem qk_cu (Z : Nat) (hZ : Z < 17) (q T : Nat) (hq : q < Z) (hT : T < Z) : ((if nI q - nI T ≤ 0 then nI q - nI T + nI Z else nI q - nI T) = if nI q - nI T + nI Z - (nI q - nI T + nI Z) / nI Z * nI Z = 0 then nI Z else nI q - nI T + nI Z - (nI q - nI T + nI Z) / nI Z * nI Z) := by
  have all : ∀ Z : Nat, Z < 17 → ∀ q : Nat, q < Z → ∀ T : Nat, T < Z → ((if nI q - nI T ≤ 0 then nI q - nI T + nI Z else nI q - nI T) = if nI q - nI T + nI Z - (nI q - nI T + nI Z) / nI Z * nI Z = 0 then nI Z else nI q - nI T + nI Z - (nI q - nI T + nI Z) / nI Z * nI Z) := by decide +kernel
  exact all Z hZ q hq T hT
theorem qk_callsUntil {M : wM} {h : Nat → Nat} {t : wm} (I : qv_I M h t) (x1 : Int32) : qv_P (qf_X2_callsUntil x1 M h) (qf_X3_callsUntil x1 t) := by
  obtain ⟨T, Z, H, S, C, N, ok, rl⟩ := qk_R I
  obtain ⟨⟨b1, b2, b3, b4, b5, b6, b7⟩, ⟨e1, e2, e3, e5, e6, eN, er⟩, okF, okS, -⟩ := ok
  obtain ⟨⟨r0, r1, r2, r3, r4, r5, r6, r7, r8, r9, r10, r11, r12, r13, r14⟩, rF, -⟩ := rl
  have t0 : t 1 0 = nI H := by rw [r0, e3]
  rcases qm_isFrame t0 b4 x1 with ⟨k1, hx⟩ | ⟨q, hq, eq, k1⟩
  · refine ⟨-1, ?_, ?_⟩
    · unfold qf_X2_callsUntil
      rcases hx with hx | ⟨hx, hy⟩
      · rw [if_pos hx]
      · rw [if_neg hx, qn_e, e3, if_neg]
        rw [qa_lt_iff]
        rw [qa_le_iff] at hy
        omega
    · unfold qf_X3_callsUntil
      rw [k1, qa_t1, if_pos (show nI 0 = 0 from rfl)]
  · subst eq
    obtain ⟨⟨sl, es, hs⟩, -, -⟩ := okF (H - 1 - q) (by omega)
    have f4 := rF (H - 1 - q) 4 (by omega) (by decide)
    have f3 := rF (H - 1 - q) 3 (by omega) (by decide)
    have A : qf_X2_callsUntil (nI q) M h = if M 0 12 (H - 1 - q) = -9 then (if nI sl - nI T ≤ 0 then some (nI sl - nI T + nI Z) else some (nI sl - nI T)) else some (nI 0) := by
      unfold qf_X2_callsUntil
      simp (disch := omega) only [qa_l0, qa_lt, qn_e, e3, qa_sub, qe_isOv, qa_t1]
      rw [if_neg (fun q => q), if_pos hq]
      by_cases g : M 0 12 (H - 1 - q) = -9
      · rw [if_pos g, if_pos (show nI 0 = 0 from rfl), if_pos g]
        simp (disch := omega) only [qa_g, qa_cl, es, e1, e2]
      · rw [if_neg g, if_neg (show ¬ nI 1 = 0 by decide), if_neg g]
    have B : qf_X3_callsUntil (nI q) t = if M 0 12 (H - 1 - q) = -9 then (if nI sl - nI T + nI Z - (nI sl - nI T + nI Z) / nI Z * nI Z = 0 then some (nI Z) else some (nI sl - nI T + nI Z - (nI sl - nI T + nI Z) / nI Z * nI Z)) else some (nI 0) := by
      unfold qf_X3_callsUntil
      rw [k1, qa_t1, if_neg (show ¬ nI 1 = 0 by decide), qn_e, t0, qa_sub (by omega), qn_e, qa_sub (by omega), qn_e, qm_ofF (by omega), qa_t1, f4, qm_ofF (by omega), qa_t1, f3, es]
      simp (disch := omega) only [qn_e, r11, r12, e1, e2, qa_gn]
    rw [A, B]
    by_cases g : M 0 12 (H - 1 - q) = -9
    · rw [if_pos g, if_pos g]
      have e := qk_cu Z (by omega) sl T hs b3
      refine ⟨if nI sl - nI T ≤ 0 then nI sl - nI T + nI Z else nI sl - nI T, ?_, ?_⟩
      · split <;> rfl
      · rw [e]
        split <;> rfl
    · rw [if_neg g, if_neg g]
      exact ⟨_, rfl, rfl⟩
