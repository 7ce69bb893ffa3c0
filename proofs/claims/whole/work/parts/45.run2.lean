theorem qk_run {M : wM} {h : Nat → Nat} {t : wm} (I : qv_I M h t) : qv_S (qf_X2_run M h) (qf_X3_run t) M := by
  obtain ⟨P, D, hP, hD, R, a1, a2, a3, a4, a5, a6, H⟩ := I
  let cp : wm := fun x y => if y < qs_len x then M 0 x y else M 1 x y
  let B : wM := qw_u1 M 1 cp
  let t1 : wm := qw_u2 (qx_h3 0 t) 0 4 (nI 1)
  have B0 : B 0 = M 0 := qw_u1_n _ _ (by decide)
  have B1 : B 1 = cp := qw_u1_s _ _ _
  have B8 : B 8 = M 8 := qw_u1_n _ _ (by decide)
  have B9 : B 9 = M 9 := qw_u1_n _ _ (by decide)
  have t11 : t1 1 = t 1 := by
    funext y
    show qw_u2 (qx_h3 0 t) 0 4 (nI 1) 1 y = t 1 y
    rw [qw_u2_n _ _ (by omega), qx_h3_n (by omega)]
  have t1o : ∀ x y : Nat, x ≠ 3 → ¬ (x = 0 ∧ y = 4) → t1 x y = t x y := fun x y g1 g2 => by
    show qw_u2 (qx_h3 0 t) 0 4 (nI 1) x y = t x y
    rw [qw_u2_n _ _ g2, qx_h3_n (by omega)]
  have t13 : ∀ y : Nat, y < 935 → t1 3 y = t 1 y := fun y hy => by
    show qw_u2 (qx_h3 0 t) 0 4 (nI 1) 3 y = t 1 y
    rw [qw_u2_n _ _ (by omega), qx_h3_s (by omega)]
  have t14 : t1 0 4 = nI 1 := qw_u2_s _ _ _ _
  have X : qd_rx t1 (t 4) D := ⟨by rw [t1o 0 6 (by decide) (by decide), a5], fun i hi => t1o 4 i (by decide) (by omega)⟩
  have X8 : qd_tx (B 8) (t 4) D := ⟨by rw [B8, a4], fun i hi => by rw [B8, a6 i hi]⟩
  have eA : qf_X2_run M h = qb3 (qf_X2_takeStepsOfText_10 qfu (nI 0) (qv_st B (M 0) 0) h) fun r4 M6 h7 => if 0 ≤ r4 then qb2 (qf_X2_record 1 M6 h7) fun M10 h11 => some (r4, qw_u1 M10 8 (qw_u2 (M10 8) 2 1 (nI 0)), h11) else qb1 (qf_X0_copyFrom (M6 1) (M6 0)) fun m14 => some ((-1000 : Int32) - qw_u1 M6 0 m14 8 2 2, qw_u1 M6 0 m14, h7) := by
    unfold qf_X2_run
    rw [qp_copyFrom, qa_t1, qn_e]
    unfold qf_X2_takeStepsOfText
    simp only [qn_e]
    have e : qw_u1 (qw_u1 M 1 cp) 8 (qw_u2 (qw_u1 M 1 cp 8) 2 2 (nI 0)) = qv_st B (M 0) 0 := by
      have : B = qv_st B (M 0) 0 ∨ True := Or.inr trivial
      funext k
      by_cases h8 : k = 8
      · subst h8
        rw [qw_u1_s, qv_st_8]
      · rw [qw_u1_n _ _ h8]
        by_cases h0 : k = 0
        · subst h0
          rw [qv_st_0]
          exact B0
        · rw [qv_st_k _ _ _ h0 h8]
    rw [e]
  have eC : qf_X3_run t = qf_X3_run_46 qfu (nI 0) (-9) (qv_rt t1 (t 1) (qd_sk (t 4) D 0) (t1 0 8)) := by
    unfold qf_X3_run
    rw [qm_run_2 935 qfu 0 t (by omega) (by omega) (by unfold qfu; omega)]
    unfold qf_X3_run_27
    have e : qw_u2 (qw_u2 (qx_h3 0 t) 0 4 (nI 1)) 0 7 (nI 0) = qv_rt t1 (t 1) 0 (t1 0 8) := by
      funext x y
      unfold qv_rt
      by_cases h1 : x = 1
      · subst h1
        rw [qw_u2_n _ _ (by omega), if_pos rfl]
        exact congrFun t11 y
      · rw [if_neg h1]
        by_cases h0 : x = 0
        · subst h0
          rw [if_pos rfl]
          by_cases h7 : y = 7
          · subst h7
            rw [qw_u2_s, if_pos rfl]
          · rw [qw_u2_n _ _ (by omega), if_neg h7]
            by_cases h8 : y = 8
            · subst h8
              rw [if_pos rfl]
            · rw [if_neg h8]
        · rw [if_neg h0, qw_u2_n _ _ (by omega)]
    rw [qn_e, qn_e, e, qm_skip hD X (by omega), qa_t1]
  rw [eA, eC]
  rcases qv_steps (B := B) (h := h) hD X8 X t14 D qfu 0 0 (M 0) (t 1) (t1 0 8) (by omega) (by omega) (by unfold qfu; omega) (by omega) R with ⟨m1, z, x1, s2, p2, v2, hz, kA, kC⟩ | ⟨m1, z, c, s2, p2, v2, hc, kA, kC, R'⟩
  · rw [kA, kC, qa_t3, if_neg (show ¬ (0 : Int32) ≤ -1 by decide), qp_copyFrom, qa_t1]
    have e8 : ∀ m14 : wm, qw_u1 (qv_st B m1 z) 0 m14 8 = qw_u2 (M 8) 2 2 (nI z) := fun m14 => by rw [qw_u1_n _ _ (by decide), qv_st_8, B8]
    have hu : ∀ x y : Nat, x ≠ 1 → x ≠ 3 → ¬ (x = 0 ∧ (y = 4 ∨ y = 7 ∨ y = 8)) → qx_ex 0 (qw_u2 (qv_rt t1 s2 p2 v2) 0 4 (nI 0)) x y = t x y := fun x y g1 g3 g => by
      rw [qx_ex_n (by omega) (by omega), qw_u2_n _ _ (by omega)]
      by_cases h0 : x = 0
      · subst h0
        rw [qv_rt_0 _ _ _ _ (by omega) (by omega), t1o 0 y (by decide) (by omega)]
      · rw [qv_rt_c _ _ _ _ h0 g1, t1o x y g3 (by omega)]
    refine ⟨-1000 - nI z, qw_u1 (qv_st B m1 z) 0 (fun x y => if y < qs_len x then qv_st B m1 z 1 x y else qv_st B m1 z 0 x y), h, qx_ex 0 (qw_u2 (qv_rt t1 s2 p2 v2) 0 4 (nI 0)), ?_, ?_, ⟨P, D, hP, hD, ?_, ?_, ?_, ?_, ?_, ?_, ?_, ?_⟩, ?_⟩
    · rw [e8, qw_u2_s]
    · unfold qf_X3_run_74
      rw [qn_e, qm_ex, qa_t1, if_neg (show ¬ nI z = -9 by rw [qa_n9 (by omega)]; exact fun q => q), qn_e]
    · rw [qw_u1_s, qv_st_0, qv_st_k _ _ _ (by decide) (by decide), B1]
      refine qs_R_cg (m := M 0) (s := t 1) (fun x y hy => ?_) (fun k hk => ?_) R
      · rw [if_pos hy]
        show (if y < qs_len x then M 0 x y else M 1 x y) = M 0 x y
        rw [if_pos hy]
      · rw [qx_ex_1 (by omega), qw_u2_n _ _ (by omega), qv_rt_c _ _ _ _ (by decide) (by decide), t13 k hk]
    · rw [e8, qw_u2_n _ _ (by decide), a1]
    · rw [hu 0 3 (by decide) (by decide) (by decide), a2]
    · rw [qx_ex_n (by omega) (by omega), qw_u2_s]
    · rw [e8, qw_u2_n _ _ (by decide), a4]
    · rw [hu 0 6 (by decide) (by decide) (by decide), a5]
    · intro i hi
      rw [e8, qw_u2_n _ _ (by omega), hu 4 i (by decide) (by decide) (by omega), a6 i hi]
    · exact qv_hist_cg hP (fun k h1 h2 => by rw [qw_u1_n _ _ (by omega), qv_st_k _ _ _ (by omega) (by omega)]; exact qw_u1_n _ _ (by omega)) (fun k _ => hu 2 k (by decide) (by decide) (by omega)) H
    · rw [qw_u1_n _ _ (by decide), qv_st_k _ _ _ (by decide) (by decide), B9]
  · rw [kA, kC, qa_t3, if_pos (by rw [qa_0e (by omega)]; trivial)]
    let u : wm := qx_ex 0 (qw_u2 (qv_rt t1 s2 p2 v2) 0 4 (nI 0))
    have hu : ∀ x y : Nat, x ≠ 1 → x ≠ 3 → ¬ (x = 0 ∧ (y = 4 ∨ y = 7 ∨ y = 8)) → u x y = t x y := fun x y g1 g3 g => by
      show qx_ex 0 (qw_u2 (qv_rt t1 s2 p2 v2) 0 4 (nI 0)) x y = t x y
      rw [qx_ex_n (by omega) (by omega), qw_u2_n _ _ (by omega)]
      by_cases h0 : x = 0
      · subst h0
        rw [qv_rt_0 _ _ _ _ (by omega) (by omega), t1o 0 y (by decide) (by omega)]
      · rw [qv_rt_c _ _ _ _ h0 g1, t1o x y g3 (by omega)]
    have u4 : u 0 4 = nI 0 := by
      show qx_ex 0 (qw_u2 (qv_rt t1 s2 p2 v2) 0 4 (nI 0)) 0 4 = nI 0
      rw [qx_ex_n (by omega) (by omega), qw_u2_s]
    have u1 : ∀ k : Nat, k < 935 → u 1 k = t 1 k := fun k hk => by
      show qx_ex 0 (qw_u2 (qv_rt t1 s2 p2 v2) 0 4 (nI 0)) 1 k = t 1 k
      rw [qx_ex_1 (by omega), qw_u2_n _ _ (by omega), qv_rt_c _ _ _ _ (by decide) (by decide), t13 k hk]
    have u3 : ∀ k : Nat, k < 935 → u 3 k = s2 k := fun k hk => by
      show qx_ex 0 (qw_u2 (qv_rt t1 s2 p2 v2) 0 4 (nI 0)) 3 k = s2 k
      rw [qx_ex_3 (by omega), qw_u2_n _ _ (by omega), qv_rt_1]
    obtain ⟨ta, k1, k2, k3, k4, k5, k6, k7⟩ := qm_acts u4 (by rw [hu 0 3 (by decide) (by decide) (by decide), a2]) hP
    have hp2 := qv_P2_le hP
    have q8 : qv_st B m1 z 8 = qw_u2 (M 8) 2 2 (nI z) := by rw [qv_st_8, B8]
    have H1 : qv_hist (qv_st B m1 z) h P (t 2) := qv_hist_cg hP (fun k h1 h2 => by rw [qv_st_k _ _ _ (by omega) (by omega)]; exact qw_u1_n _ _ (by omega)) (fun k _ => rfl) H
    have hx2 : ∀ k : Nat, u 2 k = t 2 k := fun k => hu 2 k (by decide) (by decide) (by omega)
    obtain ⟨M', h', c1, c2, c3, c4⟩ := qe_record (o := 1) (p := t 2) (p' := ta 2) (s := t 1) (by decide) hP (by rw [q8, qw_u2_n _ _ (by decide)]; exact a1) H1 (by
      rw [qv_st_k _ _ _ (by decide) (by decide), B1]
      exact qv_cpy M R) (fun i k hi hk => by rw [k6 i k hi hk, hx2]) (fun k hk => by rw [k7 k hk, u1 k hk])
    have e8 : qw_u1 M' 8 (qw_u2 (M' 8) 2 1 (nI 0)) 8 = qw_u2 (qw_u2 (qw_u2 (M 8) 2 2 (nI z)) 0 4 (nI (qv_P2 P))) 2 1 (nI 0) := by rw [qw_u1_s, c3, q8]
    refine ⟨nI c, qw_u1 M' 8 (qw_u2 (M' 8) 2 1 (nI 0)), h', qw_u2 (qx_ex 0 ta) 0 6 (nI 0), ?_, ?_, ⟨qv_P2 P, 0, hp2.1, by omega, ?_, ?_, ?_, ?_, ?_, ?_, fun i hi => absurd hi (Nat.not_lt_zero i), ?_⟩, ?_⟩
    · rw [c1, qa_t2]
    · unfold qf_X3_run_74
      rw [qn_e, qm_ex, qa_t1, if_pos rfl]
      show qb1 (qf_X3_acts u) _ = _
      rw [k1, qa_t1, qm_ex, qa_t1, qn_e]
    · rw [qw_u1_n _ _ (by decide), c2 0 (by decide), qv_st_0]
      refine qs_R_cg (m := m1) (s := s2) (fun x y hy => rfl) (fun k hk => ?_) R'
      rw [qw_u2_n _ _ (by omega), qx_ex_1 (by omega), k3 3 (by decide), u3 k hk]
    · rw [e8, qw_u2_n _ _ (by decide), qw_u2_s]
    · rw [qw_u2_n _ _ (by decide), qx_ex_n (by omega) (by omega), k5]
    · rw [qw_u2_n _ _ (by decide), qx_ex_n (by omega) (by omega), k4 4 (by decide), u4]
    · rw [e8, qw_u2_s]
    · rw [qw_u2_s]
    · refine qv_hist_cg hp2.1 (fun k h1 h2 => qw_u1_n _ _ (by omega)) (fun k _ => ?_) c4
      rw [qw_u2_n _ _ (by omega), qx_ex_n (by omega) (by omega)]
    · rw [qw_u1_n _ _ (by decide), c2 9 (by decide), qv_st_k _ _ _ (by decide) (by decide), B9]
