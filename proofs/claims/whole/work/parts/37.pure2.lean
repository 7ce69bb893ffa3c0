theorem qk_overrun_4 {M : wM} {t : wm} {H : Nat} (hH : H ≤ 40) (eH : M 0 0 3 = nI H) (tH : t 1 0 = nI H) (rF : ∀ k : Nat, k < H → t 1 (15 + 5 * k + 4) = M 0 12 k) : ∀ (d n i : Nat) (x1 : Int32), i ≤ H → H - i = d → d < n →
    qv_P (qf_X0_overrunFrames_4 n x1 (nI i) (M 0)) (qf_X3_overrun_4 n x1 (nI i) t) := by
  intro d
  induction d with
  | zero =>
    intro n i x1 hi hd hn
    obtain ⟨n, rfl⟩ : ∃ k, n = k + 1 := ⟨n - 1, by omega⟩
    rw [qf_X0_overrunFrames_4, qf_X3_overrun_4]
    simp only [qn_e, eH, tH]
    simp (disch := omega) only [qa_le]
    have hni : H ≤ i := by omega
    rw [if_pos hni, if_pos hni]
    exact ⟨x1, rfl, rfl⟩
  | succ d ih =>
    intro n i x1 hi hd hn
    obtain ⟨n, rfl⟩ : ∃ k, n = k + 1 := ⟨n - 1, by omega⟩
    rw [qf_X0_overrunFrames_4, qf_X3_overrun_4]
    have er := rF i (by omega)
    have hni : ¬ H ≤ i := by omega
    simp (disch := omega) only [qn_e, eH, tH, qa_le, qe_isOv, qm_ofF, qa_t1, er, nI_add]
    rw [if_neg hni, if_neg hni]
    by_cases g : M 0 12 i = -9
    · rw [if_pos g, if_pos (show nI 0 = 0 from rfl), if_pos g, qa_p0]
      exact ih n (i + 1) x1 (by omega) (by omega) (by omega)
    · rw [if_neg g, if_neg (show ¬ nI 1 = 0 by decide), if_neg g]
      exact ih n (i + 1) (x1 + nI 1) (by omega) (by omega) (by omega)
theorem qk_count {M : wM} {h : Nat → Nat} {t : wm} (I : qv_I M h t) (x1 : Int32) : qv_P (qf_X2_count x1 M h) (qf_X3_count x1 t) := by
  obtain ⟨P, D, hP, hD, R, a1, a2, a3, a4, a5, a6, Hh⟩ := I
  obtain ⟨T, Z, H, S, C, N, ok, rl⟩ := R
  obtain ⟨⟨b1, b2, b3, b4, b5, b6, b7⟩, ⟨e1, e2, e3, e5, e6, eN, er⟩, okF, okS, -⟩ := ok
  obtain ⟨⟨r0, r1, r2, r3, r4, r5, r6, r7, r8, r9, r10, r11, r12, r13, r14⟩, rF, -⟩ := rl
  have big : ¬ (x1 = nI 0 ∨ x1 = nI 1 ∨ x1 = nI 2 ∨ x1 = nI 3 ∨ x1 = nI 4 ∨ x1 = nI 5 ∨ x1 = nI 6 ∨ x1 = nI 7 ∨ x1 = nI 8 ∨ x1 = nI 9 ∨ x1 = nI 10 ∨ x1 = nI 11 ∨ x1 = nI 12 ∨ x1 = nI 13 ∨ x1 = nI 14 ∨ x1 = nI 15 ∨ x1 = nI 16 ∨ x1 = nI 17) → (x1 < nI 0 ∨ nI 14 < x1) → qv_P (qf_X2_count x1 M h) (qf_X3_count x1 t) := by
    intro g g2
    have g' : ∀ k : Nat, k < 18 → ¬ x1 = nI k := by
      intro k hk e
      rcases (show k = 0 ∨ k = 1 ∨ k = 2 ∨ k = 3 ∨ k = 4 ∨ k = 5 ∨ k = 6 ∨ k = 7 ∨ k = 8 ∨ k = 9 ∨ k = 10 ∨ k = 11 ∨ k = 12 ∨ k = 13 ∨ k = 14 ∨ k = 15 ∨ k = 16 ∨ k = 17 by omega) with rfl | rfl | rfl | rfl | rfl | rfl | rfl | rfl | rfl | rfl | rfl | rfl | rfl | rfl | rfl | rfl | rfl | rfl <;> simp [e] at g
    refine ⟨-1, ?_, ?_⟩
    · unfold qf_X2_count
      rw [if_neg (g' 0 (by decide)), if_neg (g' 1 (by decide)), if_neg (g' 2 (by decide)), if_neg (g' 3 (by decide)), if_neg (g' 4 (by decide)), if_neg (g' 5 (by decide)), if_neg (g' 6 (by decide)), if_neg (g' 7 (by decide)), if_neg (g' 8 (by decide)), if_neg (g' 9 (by decide)), if_neg (g' 10 (by decide)), if_neg (g' 11 (by decide)), if_neg (g' 12 (by decide)), if_neg (g' 13 (by decide)), if_neg (g' 14 (by decide)), if_neg (g' 15 (by decide)), if_neg (g' 16 (by decide)), if_neg (g' 17 (by decide))]
    · unfold qf_X3_count
      rw [qm_inF g2, qa_t1, if_pos (show nI 0 = 0 from rfl), if_neg (g' 15 (by decide)), if_neg (g' 16 (by decide)), if_neg (g' 17 (by decide))]
  rcases qa_rng x1 17 (by decide) with ⟨q, hq, eq⟩ | hx | hx
  · subst eq
    by_cases h14 : q ≤ 14
    · have B : qf_X3_count (nI q) t = some (t 1 q) := by
        unfold qf_X3_count
        rw [qm_inT (by omega) h14 (by decide), qa_t1, if_neg (show ¬ nI 1 = 0 by decide), qa_g (by omega) (by decide), qn_e, qa_cl (by omega)]
      refine ⟨t 1 q, ?_, B⟩
      unfold qf_X2_count
      rcases (show q = 0 ∨ q = 1 ∨ q = 2 ∨ q = 3 ∨ q = 4 ∨ q = 5 ∨ q = 6 ∨ q = 7 ∨ q = 8 ∨ q = 9 ∨ q = 10 ∨ q = 11 ∨ q = 12 ∨ q = 13 ∨ q = 14 by omega) with rfl | rfl | rfl | rfl | rfl | rfl | rfl | rfl | rfl | rfl | rfl | rfl | rfl | rfl | rfl
      · rw [if_pos rfl, qn_e, r0]
      · rw [if_neg (show ¬ nI 1 = nI 0 by decide), if_pos rfl, qn_e, r1]
      · rw [if_neg (show ¬ nI 2 = nI 0 by decide), if_neg (show ¬ nI 2 = nI 1 by decide), if_pos rfl, qn_e, r2]
      · rw [if_neg (show ¬ nI 3 = nI 0 by decide), if_neg (show ¬ nI 3 = nI 1 by decide), if_neg (show ¬ nI 3 = nI 2 by decide), if_pos rfl, qn_e, r3]
      · rw [if_neg (show ¬ nI 4 = nI 0 by decide), if_neg (show ¬ nI 4 = nI 1 by decide), if_neg (show ¬ nI 4 = nI 2 by decide), if_neg (show ¬ nI 4 = nI 3 by decide), if_pos rfl, qn_e, r4]
      · rw [if_neg (show ¬ nI 5 = nI 0 by decide), if_neg (show ¬ nI 5 = nI 1 by decide), if_neg (show ¬ nI 5 = nI 2 by decide), if_neg (show ¬ nI 5 = nI 3 by decide), if_neg (show ¬ nI 5 = nI 4 by decide), if_pos rfl, qn_e, r5]
      · rw [if_neg (show ¬ nI 6 = nI 0 by decide), if_neg (show ¬ nI 6 = nI 1 by decide), if_neg (show ¬ nI 6 = nI 2 by decide), if_neg (show ¬ nI 6 = nI 3 by decide), if_neg (show ¬ nI 6 = nI 4 by decide), if_neg (show ¬ nI 6 = nI 5 by decide), if_pos rfl, qn_e, qn_e, qn_e, r6]
      · rw [if_neg (show ¬ nI 7 = nI 0 by decide), if_neg (show ¬ nI 7 = nI 1 by decide), if_neg (show ¬ nI 7 = nI 2 by decide), if_neg (show ¬ nI 7 = nI 3 by decide), if_neg (show ¬ nI 7 = nI 4 by decide), if_neg (show ¬ nI 7 = nI 5 by decide), if_neg (show ¬ nI 7 = nI 6 by decide), if_pos rfl, qn_e, r7]
      · rw [if_neg (show ¬ nI 8 = nI 0 by decide), if_neg (show ¬ nI 8 = nI 1 by decide), if_neg (show ¬ nI 8 = nI 2 by decide), if_neg (show ¬ nI 8 = nI 3 by decide), if_neg (show ¬ nI 8 = nI 4 by decide), if_neg (show ¬ nI 8 = nI 5 by decide), if_neg (show ¬ nI 8 = nI 6 by decide), if_neg (show ¬ nI 8 = nI 7 by decide), if_pos rfl, qn_e, r8]
      · rw [if_neg (show ¬ nI 9 = nI 0 by decide), if_neg (show ¬ nI 9 = nI 1 by decide), if_neg (show ¬ nI 9 = nI 2 by decide), if_neg (show ¬ nI 9 = nI 3 by decide), if_neg (show ¬ nI 9 = nI 4 by decide), if_neg (show ¬ nI 9 = nI 5 by decide), if_neg (show ¬ nI 9 = nI 6 by decide), if_neg (show ¬ nI 9 = nI 7 by decide), if_neg (show ¬ nI 9 = nI 8 by decide), if_pos rfl, qn_e, r9]
      · rw [if_neg (show ¬ nI 10 = nI 0 by decide), if_neg (show ¬ nI 10 = nI 1 by decide), if_neg (show ¬ nI 10 = nI 2 by decide), if_neg (show ¬ nI 10 = nI 3 by decide), if_neg (show ¬ nI 10 = nI 4 by decide), if_neg (show ¬ nI 10 = nI 5 by decide), if_neg (show ¬ nI 10 = nI 6 by decide), if_neg (show ¬ nI 10 = nI 7 by decide), if_neg (show ¬ nI 10 = nI 8 by decide), if_neg (show ¬ nI 10 = nI 9 by decide), if_pos rfl, qn_e, r10]
      · rw [if_neg (show ¬ nI 11 = nI 0 by decide), if_neg (show ¬ nI 11 = nI 1 by decide), if_neg (show ¬ nI 11 = nI 2 by decide), if_neg (show ¬ nI 11 = nI 3 by decide), if_neg (show ¬ nI 11 = nI 4 by decide), if_neg (show ¬ nI 11 = nI 5 by decide), if_neg (show ¬ nI 11 = nI 6 by decide), if_neg (show ¬ nI 11 = nI 7 by decide), if_neg (show ¬ nI 11 = nI 8 by decide), if_neg (show ¬ nI 11 = nI 9 by decide), if_neg (show ¬ nI 11 = nI 10 by decide), if_pos rfl, qn_e, r11]
      · rw [if_neg (show ¬ nI 12 = nI 0 by decide), if_neg (show ¬ nI 12 = nI 1 by decide), if_neg (show ¬ nI 12 = nI 2 by decide), if_neg (show ¬ nI 12 = nI 3 by decide), if_neg (show ¬ nI 12 = nI 4 by decide), if_neg (show ¬ nI 12 = nI 5 by decide), if_neg (show ¬ nI 12 = nI 6 by decide), if_neg (show ¬ nI 12 = nI 7 by decide), if_neg (show ¬ nI 12 = nI 8 by decide), if_neg (show ¬ nI 12 = nI 9 by decide), if_neg (show ¬ nI 12 = nI 10 by decide), if_neg (show ¬ nI 12 = nI 11 by decide), if_pos rfl, qn_e, r12]
      · rw [if_neg (show ¬ nI 13 = nI 0 by decide), if_neg (show ¬ nI 13 = nI 1 by decide), if_neg (show ¬ nI 13 = nI 2 by decide), if_neg (show ¬ nI 13 = nI 3 by decide), if_neg (show ¬ nI 13 = nI 4 by decide), if_neg (show ¬ nI 13 = nI 5 by decide), if_neg (show ¬ nI 13 = nI 6 by decide), if_neg (show ¬ nI 13 = nI 7 by decide), if_neg (show ¬ nI 13 = nI 8 by decide), if_neg (show ¬ nI 13 = nI 9 by decide), if_neg (show ¬ nI 13 = nI 10 by decide), if_neg (show ¬ nI 13 = nI 11 by decide), if_neg (show ¬ nI 13 = nI 12 by decide), if_pos rfl, qn_e, r13]
      · rw [if_neg (show ¬ nI 14 = nI 0 by decide), if_neg (show ¬ nI 14 = nI 1 by decide), if_neg (show ¬ nI 14 = nI 2 by decide), if_neg (show ¬ nI 14 = nI 3 by decide), if_neg (show ¬ nI 14 = nI 4 by decide), if_neg (show ¬ nI 14 = nI 5 by decide), if_neg (show ¬ nI 14 = nI 6 by decide), if_neg (show ¬ nI 14 = nI 7 by decide), if_neg (show ¬ nI 14 = nI 8 by decide), if_neg (show ¬ nI 14 = nI 9 by decide), if_neg (show ¬ nI 14 = nI 10 by decide), if_neg (show ¬ nI 14 = nI 11 by decide), if_neg (show ¬ nI 14 = nI 12 by decide), if_neg (show ¬ nI 14 = nI 13 by decide), if_pos rfl, qn_e, r14]
    · have hin : qf_X3_in (nI q) (nI 0) (nI 14) = some (nI 0) := qm_inF (Or.inr (by rw [qa_lt (by decide) (by omega)]; omega))
      unfold qf_X2_count qf_X3_count
      rw [hin, qa_t1, if_pos (show nI 0 = 0 from rfl)]
      rcases (show q = 15 ∨ q = 16 ∨ q = 17 by omega) with rfl | rfl | rfl
      · rw [if_neg (show ¬ nI 15 = nI 0 by decide), if_neg (show ¬ nI 15 = nI 1 by decide), if_neg (show ¬ nI 15 = nI 2 by decide), if_neg (show ¬ nI 15 = nI 3 by decide), if_neg (show ¬ nI 15 = nI 4 by decide), if_neg (show ¬ nI 15 = nI 5 by decide), if_neg (show ¬ nI 15 = nI 6 by decide), if_neg (show ¬ nI 15 = nI 7 by decide), if_neg (show ¬ nI 15 = nI 8 by decide), if_neg (show ¬ nI 15 = nI 9 by decide), if_neg (show ¬ nI 15 = nI 10 by decide), if_neg (show ¬ nI 15 = nI 11 by decide), if_neg (show ¬ nI 15 = nI 12 by decide), if_neg (show ¬ nI 15 = nI 13 by decide), if_neg (show ¬ nI 15 = nI 14 by decide), if_pos rfl, if_pos rfl, qn_e, qn_e, a1, a2]
        exact ⟨_, rfl, rfl⟩
      · rw [if_neg (show ¬ nI 16 = nI 0 by decide), if_neg (show ¬ nI 16 = nI 1 by decide), if_neg (show ¬ nI 16 = nI 2 by decide), if_neg (show ¬ nI 16 = nI 3 by decide), if_neg (show ¬ nI 16 = nI 4 by decide), if_neg (show ¬ nI 16 = nI 5 by decide), if_neg (show ¬ nI 16 = nI 6 by decide), if_neg (show ¬ nI 16 = nI 7 by decide), if_neg (show ¬ nI 16 = nI 8 by decide), if_neg (show ¬ nI 16 = nI 9 by decide), if_neg (show ¬ nI 16 = nI 10 by decide), if_neg (show ¬ nI 16 = nI 11 by decide), if_neg (show ¬ nI 16 = nI 12 by decide), if_neg (show ¬ nI 16 = nI 13 by decide), if_neg (show ¬ nI 16 = nI 14 by decide), if_neg (show ¬ nI 16 = nI 15 by decide), if_pos rfl, qn_e, a4, if_neg (show ¬ nI 16 = nI 15 by decide), if_pos rfl, qn_e, a5]
        exact ⟨_, rfl, rfl⟩
      · rw [if_neg (show ¬ nI 17 = nI 0 by decide), if_neg (show ¬ nI 17 = nI 1 by decide), if_neg (show ¬ nI 17 = nI 2 by decide), if_neg (show ¬ nI 17 = nI 3 by decide), if_neg (show ¬ nI 17 = nI 4 by decide), if_neg (show ¬ nI 17 = nI 5 by decide), if_neg (show ¬ nI 17 = nI 6 by decide), if_neg (show ¬ nI 17 = nI 7 by decide), if_neg (show ¬ nI 17 = nI 8 by decide), if_neg (show ¬ nI 17 = nI 9 by decide), if_neg (show ¬ nI 17 = nI 10 by decide), if_neg (show ¬ nI 17 = nI 11 by decide), if_neg (show ¬ nI 17 = nI 12 by decide), if_neg (show ¬ nI 17 = nI 13 by decide), if_neg (show ¬ nI 17 = nI 14 by decide), if_neg (show ¬ nI 17 = nI 15 by decide), if_neg (show ¬ nI 17 = nI 16 by decide), if_pos rfl, if_neg (show ¬ nI 17 = nI 15 by decide), if_neg (show ¬ nI 17 = nI 16 by decide), if_pos rfl]
        obtain ⟨r, k1, k2⟩ := qk_overrun_4 (M := M) (t := t) b4 e3 (by rw [r0, e3]) (fun k hk => rF k 4 hk (by decide)) H qfu 0 (nI 0) (by omega) (by omega) (by unfold qfu; omega)
        refine ⟨r, ?_, ?_⟩
        · unfold qf_X0_overrunFrames
          rw [k1, qa_t1]
        · unfold qf_X3_overrun
          rw [k2, qa_t1]
  · refine big ?_ (Or.inl hx)
    rintro (e | e | e | e | e | e | e | e | e | e | e | e | e | e | e | e | e | e) <;> exact qa_nne (by decide) hx e
  · refine big ?_ (Or.inr ?_)
    · rintro (e | e | e | e | e | e | e | e | e | e | e | e | e | e | e | e | e | e) <;> exact qa_gne (n := 17) (by decide) (by decide) hx e
    · rw [qa_lt_iff] at hx ⊢
      rw [qa_ti (by decide)] at hx ⊢
      omega
theorem qk_ahead_10 {M : wM} {t : wm} {T Z H x : Nat} {x2 : Int32} (hH : H ≤ 40) (h1 : 2 ≤ Z) (h2 : Z ≤ 16) (hT : T < Z) (hx : x ≤ H) (e1 : M 0 0 1 = nI Z) (eH : M 0 0 3 = nI H) (tH : t 1 0 = nI H) (t11 : t 1 11 = nI Z) (t12 : t 1 12 = nI T)
    (rF : ∀ k w : Nat, k < H → w < 5 → t 1 (15 + 5 * k + w) = M 0 (8 + w) k) (rS : ∀ k w : Nat, k < 16 → w < 3 → t 1 (215 + 3 * k + w) = M 0 (13 + w) k) : ∀ (d n i : Nat) (c : Int32), i ≤ x → x - i = d → d < n →
    ∃ r : Int32, qf_X0_hitsAhead_10 n (nI x) c (nI (qx_sbn Z T i)) (nI (i + 1)) (M 0) = some r ∧ qf_X3_ahead_39 n (nI x) x2 c (nI i) t = some (if x2 = 0 then r else nI x - r) := by
  intro d
  induction d with
  | zero =>
    intro n i c hi hd hn
    obtain ⟨n, rfl⟩ : ∃ k, n = k + 1 := ⟨n - 1, by omega⟩
    rw [qf_X0_hitsAhead_10, qf_X3_ahead_39]
    simp (disch := omega) only [qa_le, qa_lt]
    refine ⟨c, by rw [if_pos (by omega)], ?_⟩
    rw [if_pos (by omega)]
    unfold qf_X3_ahead_102
    split
    · rfl
    · rfl
  | succ d ih =>
    intro n i c hi hd hn
    obtain ⟨n, rfl⟩ : ∃ k, n = k + 1 := ⟨n - 1, by omega⟩
    rw [qf_X0_hitsAhead_10, qf_X3_ahead_39]
    have hlt := qx_sbn_lt (Z := Z) (T := T) (by omega) hT i
    have hbk : qf_X3_back (nI T) (nI i) (nI Z) = some (nI (qx_sbn Z T i)) := by rw [qm_back (by omega) (by omega) (by omega) h2, qx_sbn_back h2 (by omega) hT i (by omega)]
    have hs : qx_sb Z (qx_sbn Z T i) = qx_sbn Z T (i + 1) := rfl
    have f2 := rF (H - 1 - i) 2 (by omega) (by decide)
    have s1 := rS (qx_sbn Z T i) 1 (by omega) (by decide)
    have hsub : H - (i + 1) = H - 1 - i := by omega
    simp (disch := omega) only [qa_le, qa_lt, qn_e, eH, tH, t11, t12, hbk, qa_sub, qe_out, qa_t1, qm_ofS, qm_ofF, nI_add, f2, s1, qe_sb e1 (by omega) (by omega) (show qx_sbn Z T i < 100 by omega), hs, hsub, Nat.reduceAdd]
    rw [if_neg (show ¬ x < i + 1 by omega), if_neg (show ¬ x ≤ i by omega)]
    by_cases g : M 0 14 (qx_sbn Z T i) = M 0 10 (H - 1 - i)
    · rw [if_pos g, if_pos g]
      by_cases g2 : M 0 13 (qx_sbn Z T i) = M 0 8 (H - 1 - i)
      · rw [if_pos g2, if_pos (show nI 0 = 0 from rfl)]
        exact ih n (i + 1) (c + nI 1) (by omega) (by omega) (by omega)
      · rw [if_neg g2, if_neg (show ¬ nI 1 = 0 by decide), if_pos rfl]
        exact ih n (i + 1) (c + nI 1) (by omega) (by omega) (by omega)
    · rw [if_neg g, if_neg g, qa_p0]
      by_cases g2 : M 0 12 (H - 1 - i) = -9
      · rw [if_pos g2, if_neg (show ¬ nI 3 = 0 by decide), if_neg (show ¬ nI 3 = nI 1 by decide)]
        exact ih n (i + 1) c (by omega) (by omega) (by omega)
      · rw [if_neg g2, if_neg (show ¬ nI 2 = 0 by decide), if_neg (show ¬ nI 2 = nI 1 by decide)]
        exact ih n (i + 1) c (by omega) (by omega) (by omega)
