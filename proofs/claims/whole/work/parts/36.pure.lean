/-- both answer the same -/
def qv_P (A B : Option Int32) : Prop := ∃ r : Int32, A = some r ∧ B = some r
theorem qa_gt1 {x : Int32} {n : Nat} (hn : n < 2147483646) (h : nI n < x) : ¬ x < nI (n + 1) := by
  rw [qa_lt_iff] at h ⊢
  rw [qa_ti (by omega)] at h ⊢
  omega
theorem qa_gle {x : Int32} {n m : Nat} (hn : n < 2147483647) (hm : m ≤ n + 1) (h : nI n < x) : nI m ≤ x := by
  rw [qa_lt_iff] at h
  rw [qa_le_iff]
  rw [qa_ti (by omega)] at h ⊢
  omega
theorem qa_gnl {x : Int32} {n m : Nat} (hn : n < 2147483647) (hm : m ≤ n) (h : nI n < x) : ¬ x ≤ nI m := by
  rw [qa_lt_iff] at h
  rw [qa_le_iff]
  rw [qa_ti (by omega)] at h ⊢
  omega
theorem qa_gne {x : Int32} {n m : Nat} (hn : n < 2147483647) (hm : m ≤ n) (h : nI n < x) : ¬ x = nI m := by
  intro e
  rw [e, qa_lt (by omega) (by omega)] at h
  omega
theorem qa_nne {x : Int32} {m : Nat} (hm : m < 2147483647) (h : x < 0) : ¬ x = nI m := by
  intro e
  rw [e, qa_l0 (by omega)] at h
  exact h
theorem qa_nl0 {x : Int32} {n : Nat} (hn : n < 2147483647) (h : x < 0) : x < nI n := by
  rw [qa_lt_iff] at h ⊢
  rw [qa_ti (by omega)]
  have e0 : (0 : Int32).toInt = 0 := by decide
  omega
theorem qa_glt {x : Int32} {n m : Nat} (hn : n < 2147483647) (hm : m ≤ n + 1) (h : nI n < x) : ¬ x < nI m := by
  rw [qa_lt_iff] at h ⊢
  rw [qa_ti (by omega)] at h ⊢
  omega
theorem qm_isFrame {t : wm} {H : Nat} (e : t 1 0 = nI H) (hH : H ≤ 40) (x1 : Int32) : (qf_X3_isFrame x1 t = some (nI 0) ∧ (x1 < 0 ∨ (¬ x1 < 0 ∧ nI H ≤ x1))) ∨ (∃ q : Nat, q < H ∧ x1 = nI q ∧ qf_X3_isFrame x1 t = some (nI 1)) := by
  unfold qf_X3_isFrame
  rw [qn_e, e]
  rcases qa_rng x1 1000 (by decide) with ⟨q, hq, eq⟩ | h | h
  · subst eq
    simp (disch := omega) only [qa_l0, qa_le]
    rw [if_neg (fun q => q)]
    by_cases g : H ≤ q
    · rw [if_pos g]
      exact Or.inl ⟨rfl, Or.inr ⟨fun q => q, g⟩⟩
    · rw [if_neg g]
      exact Or.inr ⟨q, by omega, rfl, rfl⟩
  · rw [if_pos h]
    exact Or.inl ⟨rfl, Or.inl h⟩
  · rw [if_neg (qa_gtn (by decide) h), if_pos (qa_gle (by decide) (by omega) h)]
    exact Or.inl ⟨rfl, Or.inr ⟨qa_gtn (by decide) h, qa_gle (by decide) (by omega) h⟩⟩
theorem qk_frame {M : wM} {h : Nat → Nat} {t : wm} (I : qv_I M h t) (x1 x2 : Int32) : qv_P (qf_X2_frame x1 x2 M h) (qf_X3_frame x1 x2 t) := by
  obtain ⟨T, Z, H, S, C, N, ok, rl⟩ := qk_R I
  obtain ⟨⟨b1, b2, b3, b4, b5, b6, b7⟩, ⟨e1, e2, e3, e5, e6, eN, er⟩, okF, okS, -⟩ := ok
  obtain ⟨⟨r0, r1, r2, r3, r4, r5, r6, r7, r8, r9, r10, r11, r12, r13, r14⟩, rF, -⟩ := rl
  have t0 : t 1 0 = nI H := by rw [r0, e3]
  rcases qm_isFrame t0 b4 x1 with ⟨k1, hx⟩ | ⟨q, hq, eq, k1⟩
  · refine ⟨-1, ?_, ?_⟩
    · unfold qf_X2_frame
      rcases hx with hx | ⟨hx, hy⟩
      · rw [if_pos hx]
      · rw [if_neg hx, qn_e, e3, if_pos hy]
    · unfold qf_X3_frame
      rw [k1, qa_t1, if_pos (show nI 0 = 0 from rfl)]
  · subst eq
    have c1 : ∀ k : Option Int32, (if nI q < 0 then some (-1 : Int32) else qn (M 0 0 3) fun z2 => if z2 ≤ nI q then some (-1) else k) = k := by
      intro k
      simp (disch := omega) only [qa_l0, qa_le, e3, qn_e]
      rw [if_neg (fun q => q), if_neg (by omega)]
    rcases qa_rng x2 4 (by decide) with ⟨w, hw, ew⟩ | h2 | h2
    · subst ew
      refine ⟨M 0 (8 + w) (H - 1 - q), ?_, ?_⟩
      · unfold qf_X2_frame
        rw [c1]
        simp (disch := omega) only [qa_l0, qa_lt, e3, qn_e, qa_sub, qa_g, qa_cl]
        rw [if_neg (fun q => q), if_pos (by omega)]
      · unfold qf_X3_frame
        rw [k1, qa_t1, if_neg (show ¬ nI 1 = 0 by decide), qm_inT (by omega) hw (by decide), qa_t1, if_neg (show ¬ nI 1 = 0 by decide), qn_e, t0, qa_sub (by omega), qn_e, qa_sub (by omega), qn_e, qm_ofF (by omega), qa_t1, rF _ _ (by omega) (by omega)]
    · refine ⟨-1, ?_, ?_⟩
      · unfold qf_X2_frame
        rw [c1, if_pos h2]
      · unfold qf_X3_frame
        rw [k1, qa_t1, if_neg (show ¬ nI 1 = 0 by decide), qm_inF (Or.inl h2), qa_t1, if_pos (show nI 0 = 0 from rfl)]
    · refine ⟨-1, ?_, ?_⟩
      · unfold qf_X2_frame
        rw [c1, if_neg (qa_gtn (by decide) h2), if_neg (qa_gt1 (by decide) h2)]
      · unfold qf_X3_frame
        rw [k1, qa_t1, if_neg (show ¬ nI 1 = 0 by decide), qm_inF (Or.inr h2), qa_t1, if_pos (show nI 0 = 0 from rfl)]
theorem qk_slot {M : wM} {h : Nat → Nat} {t : wm} (I : qv_I M h t) (x1 x2 : Int32) : qv_P (qf_X2_slot x1 x2 M h) (qf_X3_slot x1 x2 t) := by
  obtain ⟨T, Z, H, S, C, N, ok, rl⟩ := qk_R I
  obtain ⟨⟨b1, b2, b3, b4, b5, b6, b7⟩, ⟨e1, e2, e3, e5, e6, eN, er⟩, okF, okS, -⟩ := ok
  obtain ⟨⟨r0, r1, r2, r3, r4, r5, r6, r7, r8, r9, r10, r11, r12, r13, r14⟩, rF, rS, -⟩ := rl
  have t0 : t 1 11 = nI Z := by rw [r11, e1]
  unfold qf_X2_slot qf_X3_slot
  simp only [qn_e, e1, t0]
  by_cases hx : x1 < 0
  · exact ⟨-1, by rw [if_pos hx], by rw [if_pos hx]⟩
  · rw [if_neg hx, if_neg hx]
    by_cases hy : nI Z ≤ x1
    · exact ⟨-1, by rw [if_pos hy], by rw [if_pos hy]⟩
    · rw [if_neg hy, if_neg hy]
      obtain ⟨q, hq, eq⟩ : ∃ q : Nat, q < Z ∧ x1 = nI q := by
        rcases qa_rng x1 1000 (by decide) with ⟨q, hq, eq⟩ | h | h
        · refine ⟨q, ?_, eq⟩
          rw [eq, qa_le (by omega) (by omega)] at hy
          omega
        · exact absurd h hx
        · exact absurd (qa_gle (by decide) (by omega) h) hy
      subst eq
      rcases qa_rng x2 2 (by decide) with ⟨w, hw, ew⟩ | h2 | h2
      · subst ew
        refine ⟨M 0 (13 + w) q, ?_, ?_⟩
        · simp (disch := omega) only [qa_l0, qa_lt, qn_e, qa_g, qa_cl]
          rw [if_neg (fun q => q), if_pos (by omega)]
        · rw [qm_inT (by omega) hw (by decide), qa_t1, if_neg (show ¬ nI 1 = 0 by decide), qm_ofS (by omega), qa_t1, rS _ _ (by omega) (by omega)]
      · refine ⟨-1, ?_, ?_⟩
        · rw [if_pos h2]
        · rw [qm_inF (Or.inl h2), qa_t1, if_pos (show nI 0 = 0 from rfl)]
      · refine ⟨-1, ?_, ?_⟩
        · rw [if_neg (qa_gtn (by decide) h2), if_neg (qa_gt1 (by decide) h2)]
        · rw [qm_inF (Or.inr h2), qa_t1, if_pos (show nI 0 = 0 from rfl)]
theorem qk_confession {M : wM} {h : Nat → Nat} {t : wm} (I : qv_I M h t) (x1 x2 : Int32) : qv_P (qf_X2_confession x1 x2 M h) (qf_X3_confession x1 x2 t) := by
  obtain ⟨T, Z, H, S, C, N, ok, rl⟩ := qk_R I
  obtain ⟨⟨b1, b2, b3, b4, b5, b6, b7⟩, ⟨e1, e2, e3, e5, e6, eN, er⟩, okF, okS, -⟩ := ok
  obtain ⟨⟨r0, r1, r2, r3, r4, r5, r6, r7, r8, r9, r10, r11, r12, r13, r14⟩, rF, rS, rT, -⟩ := rl
  have t0 : t 1 10 = nI C := by rw [r10, e6]
  unfold qf_X2_confession qf_X3_confession
  by_cases hx : x1 < 0
  · exact ⟨-1, by rw [if_pos hx], by rw [if_pos hx]⟩
  · rw [if_neg hx, if_neg hx]
    rcases qa_rng x2 5 (by decide) with ⟨w, hw, ew⟩ | h2 | h2
    · subst ew
      rw [qm_inT (by omega) hw (by decide), qa_t1, if_neg (show ¬ nI 1 = 0 by decide)]
      simp (disch := omega) only [qa_l0, qa_lt, qn_e, e6, t0]
      rw [if_neg (fun q => q), if_pos (show w < 6 by omega)]
      by_cases hy : nI C ≤ x1
      · refine ⟨-9, ?_, by rw [if_pos hy]⟩
        rw [if_neg]
        rw [qa_lt_iff]
        rw [qa_le_iff] at hy
        omega
      · obtain ⟨q, hq, eq⟩ : ∃ q : Nat, q < C ∧ x1 = nI q := by
          rcases qa_rng x1 1000 (by decide) with ⟨q, hq, eq⟩ | h | h
          · refine ⟨q, ?_, eq⟩
            rw [eq, qa_le (by omega) (by omega)] at hy
            omega
          · exact absurd h hx
          · exact absurd (qa_gle (by decide) (by omega) h) hy
        subst eq
        refine ⟨M 0 (19 + w) q, ?_, ?_⟩
        · simp (disch := omega) only [qa_lt, qa_g, qa_cl]
          rw [if_pos hq]
        · simp (disch := omega) only [qa_le, qa_sub, pk_mul, nI_add, qa_g, qa_cl]
          rw [if_neg (by omega), rT _ _ (by omega) (by omega)]
    · refine ⟨-1, ?_, ?_⟩
      · rw [if_pos h2]
      · rw [qm_inF (Or.inl h2), qa_t1, if_pos (show nI 0 = 0 from rfl)]
    · refine ⟨-1, ?_, ?_⟩
      · rw [if_neg (qa_gtn (by decide) h2), if_neg (qa_gt1 (by decide) h2)]
      · rw [qm_inF (Or.inr h2), qa_t1, if_pos (show nI 0 = 0 from rfl)]
theorem qk_named {M : wM} {h : Nat → Nat} {t : wm} (I : qv_I M h t) (x1 : Int32) : qv_P (qf_X2_named x1 M h) (qf_X3_named x1 t) := by
  obtain ⟨T, Z, H, S, C, N, ok, rl⟩ := qk_R I
  obtain ⟨⟨b1, b2, b3, b4, b5, b6, b7⟩, ⟨e1, e2, e3, e5, e6, eN, er⟩, okF, okS, -⟩ := ok
  obtain ⟨⟨r0, r1, r2, r3, r4, r5, r6, r7, r8, r9, r10, r11, r12, r13, r14⟩, rF, rS, rT, rP, rN⟩ := rl
  have t0 : t 1 2 = nI N := by rw [r2, eN]
  unfold qf_X2_named qf_X3_named
  simp only [qn_e, eN, t0]
  by_cases hx : x1 < 0
  · exact ⟨-1, by rw [if_pos hx], by rw [if_pos hx]⟩
  · rw [if_neg hx, if_neg hx]
    by_cases hy : nI N ≤ x1
    · refine ⟨-1, ?_, by rw [if_pos hy]⟩
      rw [if_neg]
      rw [qa_lt_iff]
      rw [qa_le_iff] at hy
      omega
    · obtain ⟨q, hq, eq⟩ : ∃ q : Nat, q < N ∧ x1 = nI q := by
        rcases qa_rng x1 1000 (by decide) with ⟨q, hq, eq⟩ | h | h
        · refine ⟨q, ?_, eq⟩
          rw [eq, qa_le (by omega) (by omega)] at hy
          omega
        · exact absurd h hx
        · exact absurd (qa_gle (by decide) (by omega) h) hy
      subst eq
      refine ⟨M 0 3 q, ?_, ?_⟩
      · simp (disch := omega) only [qa_lt, qa_g, qa_cl, qn_e]
        rw [if_pos hq]
      · simp (disch := omega) only [qa_le, nI_add, qa_g, qa_cl, qn_e]
        rw [if_neg (by omega), rN _ hq]
theorem qk_worst_7 {M : wM} {h : Nat → Nat} {t : wm} {N : Nat} (hN : N ≤ 200) (eN : M 0 1 0 = nI N) (tN : t 1 2 = nI N) (rN : ∀ k : Nat, k < N → t 1 (735 + k) = M 0 3 k) : ∀ (d n i : Nat) (x1 x2 : Int32), i ≤ N → N - i = d → d < n →
    qv_P (qf_X2_worst_7 n x1 x2 (nI i) M h) (qf_X3_worst_7 n x1 x2 (nI i) t) := by
  intro d
  induction d with
  | zero =>
    intro n i x1 x2 hi hd hn
    obtain ⟨n, rfl⟩ : ∃ k, n = k + 1 := ⟨n - 1, by omega⟩
    rw [qf_X2_worst_7, qf_X3_worst_7]
    simp only [qn_e, eN, tN]
    simp (disch := omega) only [qa_le]
    rw [if_pos (by omega), if_pos (by omega)]
    exact ⟨x1, rfl, rfl⟩
  | succ d ih =>
    intro n i x1 x2 hi hd hn
    obtain ⟨n, rfl⟩ : ∃ k, n = k + 1 := ⟨n - 1, by omega⟩
    rw [qf_X2_worst_7, qf_X3_worst_7]
    simp only [qn_e, eN, tN]
    have er := rN i (by omega)
    simp (disch := omega) only [qa_le, qn_e, qa_g, qa_cl, nI_add, er]
    have hni : ¬ N ≤ i := by omega
    rw [if_neg hni, if_neg hni]
    by_cases g : M 0 3 i ≤ x2
    · rw [if_pos g, if_pos g, if_pos g]
      exact ih n (i + 1) x1 x2 (by omega) (by omega) (by omega)
    · rw [if_neg g, if_neg g, if_neg g]
      exact ih n (i + 1) (nI i) (M 0 3 i) (by omega) (by omega) (by omega)
theorem qk_worst {M : wM} {h : Nat → Nat} {t : wm} (I : qv_I M h t) : qv_P (qf_X2_worst M h) (qf_X3_worst t) := by
  obtain ⟨T, Z, H, S, C, N, ok, rl⟩ := qk_R I
  obtain ⟨⟨b1, b2, b3, b4, b5, b6, b7⟩, ⟨e1, e2, e3, e5, e6, eN, er⟩, okF, okS, -⟩ := ok
  obtain ⟨⟨r0, r1, r2, r3, r4, r5, r6, r7, r8, r9, r10, r11, r12, r13, r14⟩, rF, rS, rT, rP, rN⟩ := rl
  exact qk_worst_7 (by omega) eN (by rw [r2, eN]) rN N qfu 0 _ _ (by omega) (by omega) (by unfold qfu; omega)
