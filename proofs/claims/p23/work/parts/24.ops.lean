theorem qw_uc_n (m : wm) {c x y : Nat} (f : Nat → Int32) (h : x ≠ c) : qw_uc m c f x y = m x y := by rw [qw_ucn _ _ h]
theorem qd_Gb {m t : wm} {T Z H S C N K : Nat} (ok : qs_ok m T Z H S C N) (G : qd_G m t K) : t 1 0 = nI H ∧ t 1 1 = nI S ∧ t 1 2 = nI N ∧ t 1 10 = nI K ∧ t 1 11 = nI Z ∧ t 1 12 = nI T := by
  obtain ⟨b, ⟨e1, e2, e3, e5, e6, eN, er⟩, -⟩ := ok
  obtain ⟨g0, g1, g2, g3, g4, g5, g6, g7, g8, g9, g10, g11, g12, g13, g14⟩ := G
  exact ⟨g0.trans e3, g1.trans e5, g2.trans eN, g10, g11.trans e1, g12.trans e2⟩
set_option maxHeartbeats 1000000 in
theorem ql_called {m t : wm} {T Z H S C N K f a : Nat} (R : qd_rel m t T Z H S C N K) (hH : H < 40) (hS : S < 60) (hf : f ≤ 15) (ha : a ≤ 999) :
    ∃ t' : wm, qf_L_called (nI f) (nI a) t = some (nI N, t') ∧ qd_rel (qx_c m T Z H S N f a) t' (qx_st Z T) Z (H + 1) (S + 1) C (N + 1) K := by
  obtain ⟨ok, hK, G, F, Sl, Cf, Nm⟩ := R
  obtain ⟨t0, t1, t2, t10, t11, t12⟩ := qd_Gb ok G
  obtain ⟨⟨b1, b2, b3, b4, b5, b6, b7⟩, ⟨e1, e2, e3, e5, e6, eN, er⟩, okF, okS, okN, okV⟩ := id ok
  have hT2 := qx_st_lt (T := T) b1
  generalize hT2e : qx_st Z T = T2 at hT2 ⊢
  have hgo : qf_L_called (nI f) (nI a) t = qf_L_called_35 qfu (nI f) (nI a) (nI N) (nI 0) (qw_u2 t 1 12 (nI T2)) := by
    unfold qf_L_called qf_L_called_31
    simp (disch := omega) only [qn_e, t2, t12, t11, nI_add, qa_g, qa_cl, qa_eq]
    unfold qx_st at hT2e
    by_cases g : T + 1 = Z
    · rw [if_neg (by omega)] at hT2e
      rw [if_pos g, hT2e]
    · rw [if_pos (by omega)] at hT2e
      rw [if_neg g, hT2e]
  obtain ⟨u, k1, k2, k3⟩ := ql_called_35 (m := m) (H := H) (N := N) (T2 := T2) (x5 := nI f) (x6 := nI a) (by omega) (by omega) (by omega) H qfu 0 (qw_u2 t 1 12 (nI T2)) (by rw [qw_u2_n _ _ (by omega), t0]) (by rw [qw_u2_s]) (by omega) (by omega) (by unfold qfu; omega)
    (fun k hk => by omega) (fun k _ hk => by rw [qw_u2_c _ _ (by decide)]; exact F k hk)
  have c1 : ∀ y : Nat, y ≠ 12 → u 1 y = t 1 y := fun y hy => by rw [k2 1 (by decide), qw_u2_n _ _ (by omega)]
  have c12 : u 1 12 = nI T2 := by rw [k2 1 (by decide), qw_u2_s]
  have cc : ∀ c : Nat, c ≠ 1 → c ≠ 2 → u c = t c := fun c h1 h2 => by rw [k2 c h2, qw_u2_c _ _ h1]
  have c3 : ∀ y : Nat, u 3 y = t 3 y := fun y => by rw [cc 3 (by decide) (by decide)]
  have c6 : ∀ y : Nat, u 6 y = t 6 y := fun y => by rw [cc 6 (by decide) (by decide)]
  refine ⟨ql_c u T2 H S N (nI a) (lN (qd_pk N f a T2 0)), ?_, ?_⟩
  · rw [hgo, k1, ql_called_112 (by rw [c1 _ (by decide), t0]) hH c12 (by omega) (by rw [c1 _ (by decide), t1]) (by omega) (by omega) (by omega) (by omega)]
  obtain ⟨g0, g1, g2, g3, g4, g5, g6, g7, g8, g9, g10, g11, g12, g13, g14⟩ := G
  have okO := qo_callO ok hH (by omega) hf ha
  rw [hT2e] at okO
  refine ⟨okO, by omega, ⟨?_, ?_, ?_, ?_, ?_, ?_, ?_, ?_, ?_, ?_, ?_, ?_, ?_, ?_, ?_⟩, ?_, ?_, ?_, ?_⟩
  · simp (disch := omega) only [qx_c, qx_note, qx_add, ql_c, ql_st_n, qw_u2_n, qw_u2_e, qx_ov_n]
  · rw [ql_c, ql_st_1]
    simp (disch := omega) only [qx_c, qx_note, qx_add, qw_u2_n, qw_u2_e, qx_ov_n]
  · rw [ql_c, ql_st_k rfl]
    simp (disch := omega) only [qx_c, qx_note, qx_add, qw_u2_n, qw_u2_e, qx_ov_n, qw_uc_n, c1, g2]
  · simp (disch := omega) only [qx_c, qx_note, qx_add, ql_c, ql_st_n, qw_u2_n, qx_ov_n, qw_uc_n, c1, g3]
  · simp (disch := omega) only [qx_c, qx_note, qx_add, ql_c, ql_st_n, qw_u2_n, qx_ov_n, qw_uc_n, c1, g4]
  · simp (disch := omega) only [qx_c, qx_note, qx_add, ql_c, ql_st_n, qw_u2_n, qx_ov_n, qw_uc_n, c1, g5]
  · simp (disch := omega) only [qx_c, qx_note, qx_add, ql_c, ql_st_n, qw_u2_n, qx_ov_n, qw_uc_n, c1, g6]
  · simp (disch := omega) only [qx_c, qx_note, qx_add, ql_c, ql_st_n, qw_u2_n, qx_ov_n, qw_uc_n, c1, g7]
  · simp (disch := omega) only [qx_c, qx_note, qx_add, ql_c, ql_st_n, qw_u2_n, qx_ov_n, qw_uc_n, c1, g8]
  · simp (disch := omega) only [qx_c, qx_note, qx_add, ql_c, ql_st_n, qw_u2_n, qx_ov_n, qw_uc_n, c1, g9]
  · simp (disch := omega) only [ql_c, ql_st_n, qw_u2_n, qw_uc_n, c1, g10]
  · simp (disch := omega) only [qx_c, qx_note, qx_add, ql_c, ql_st_n, qw_u2_n, qx_ov_n, qw_uc_n, c1, g11]
  · simp (disch := omega) only [qx_c, qx_note, qx_add, ql_c, ql_st_n, qw_u2_n, qw_u2_e, qx_ov_n, qw_uc_n, c12, hT2e]
  · simp (disch := omega) only [qx_c, qx_note, qx_add, ql_c, ql_st_n, qw_u2_n, qw_u2_e, qx_ov_n, qw_uc_n, c1, g13]
    by_cases g : nI (H + 1) ≤ m 0 4
    · rw [if_pos g, if_neg (fun q => absurd q (Int32.not_lt.mpr g))]
    · rw [if_neg g, if_pos (Int32.not_le.mp g)]
  · simp (disch := omega) only [qx_c, qx_note, qx_add, ql_c, ql_st_n, qw_u2_n, qx_ov_n, qw_uc_n, c1, g14]
  · intro i hi
    have e2 : ql_c u T2 H S N (nI a) (lN (qd_pk N f a T2 0)) 2 = qj_s (u 2) H (lN (qd_pk N f a T2 0)) := by
      rw [ql_c, ql_st_c (by decide) (by decide), qw_u2_c _ _ (by decide), qw_u2_c _ _ (by decide), qw_u2_c _ _ (by decide), qw_ucs]
    rw [e2]
    by_cases g : i = H
    · subst g
      rw [qj_lsS]
      refine ⟨N, f, a, T2, 0, ⟨by omega, by omega, by omega, by omega, by omega, Or.inl rfl⟩, ?_, ?_, ?_, ?_, ?_, rfl⟩
      · simp (disch := omega) only [qx_c, qx_note, qx_add, qw_u2_n, qw_u2_e]
      · simp (disch := omega) only [qx_c, qx_note, qx_add, qw_u2_n, qw_u2_e]
      · simp (disch := omega) only [qx_c, qx_note, qx_add, qw_u2_n, qw_u2_e]
      · simp (disch := omega) only [qx_c, qx_note, qx_add, qw_u2_n, qw_u2_e, hT2e]
      · simp (disch := omega) only [qx_c, qx_note, qx_add, qw_u2_n, qw_u2_e]
        decide
    · rw [qj_lsN _ _ g]
      refine qd_fr_cg (fun c h1 h2 => ?_) (k3 i (by omega))
      simp (disch := omega) only [qx_c, qx_note, qx_add, qw_u2_n, hT2e]
      unfold qx_ov
      simp (disch := omega) only [qw_u2_n]
  · intro k hk
    obtain ⟨s1, s2, s3, gg, s4, s5⟩ := Sl k hk
    by_cases g : k = T2
    · subst g
      refine ⟨?_, ?_, ?_, a + 9, by omega, ?_⟩
      · simp (disch := omega) only [qx_c, qx_note, qx_add, ql_c, ql_st_n, qw_u2_n, qw_u2_e, qw_uc_n, hT2e]
      · simp (disch := omega) only [qx_c, qx_note, qx_add, ql_c, ql_st_n, qw_u2_n, qw_u2_e, qw_uc_n, hT2e]
      · simp (disch := omega) only [qx_c, qx_note, qx_add, ql_c, ql_st_n, qw_u2_n, qw_u2_e, qw_uc_n, hT2e, c3, s3, qx_ov_n]
      · simp (disch := omega) only [qx_c, qx_note, qx_add, qw_u2_n, qw_u2_e, hT2e]
        rw [qa_sub (by omega), Nat.add_sub_cancel]
    · refine ⟨?_, ?_, ?_, gg, s4, ?_⟩
      · simp (disch := omega) only [qx_c, qx_note, qx_add, ql_c, ql_st_n, qw_u2_n, qw_uc_n, qx_ov_n, c3, s1, hT2e]
      · simp (disch := omega) only [qx_c, qx_note, qx_add, ql_c, ql_st_n, qw_u2_n, qw_uc_n, qx_ov_n, c3, s2, hT2e]
      · simp (disch := omega) only [qx_c, qx_note, qx_add, ql_c, ql_st_n, qw_u2_n, qw_uc_n, qx_ov_n, c3, s3, hT2e]
      · simp (disch := omega) only [qx_c, qx_note, qx_add, qw_u2_n, qx_ov_n, s5, hT2e]
  · refine qd_C_cg (m := m) (t := t) (fun x y h1 h2 => ?_) ?_ Cf
    · simp (disch := omega) only [qx_c, qx_note, qx_add, qw_u2_n, qx_ov_n]
    · rw [ql_c, ql_st_c (by decide) (by decide), qw_u2_c _ _ (by decide), qw_u2_c _ _ (by decide), qw_u2_c _ _ (by decide), qw_ucn _ _ (by decide), qw_u2_c _ _ (by decide), qw_u2_c _ _ (by decide), qw_u2_c _ _ (by decide), cc _ (by decide) (by decide)]
  · obtain ⟨w, r0, r1, r2, r3, p, p0, p1, p2, p3, pr, ps, pa, pb⟩ := Nm
    have hw : qd_sum (fun k => if k = N then 0 else w k) (N + 1) = qd_sum w N := by
      show qd_sum (fun k => if k = N then 0 else w k) N + (if N = N then 0 else w N) = qd_sum w N
      rw [if_pos rfl, Nat.add_zero]
      exact qd_sum_cg (w := w) (N := N) (fun k hk => if_neg (by omega))
    refine ⟨fun k => if k = N then 0 else w k, r0, r1, r2, r3, fun k hk => ?_, ?_, ?_, ?_, ?_, ?_, by omega, by rw [hw]; exact pa, by rw [hw]; exact pb⟩
    · by_cases g : k = N
      · subst g
        simp only [if_true]
        refine ⟨?_, ?_⟩
        · simp (disch := omega) only [qx_c, qx_note, qx_add, qw_u2_n, qx_ov_n]
          exact okN k (Nat.le_refl _) (by omega)
        · simp (disch := omega) only [ql_c, ql_st_n, qw_u2_e]
      · simp only [if_neg g]
        obtain ⟨q1, q2⟩ := p k (by omega)
        refine ⟨?_, ?_⟩
        · simp (disch := omega) only [qx_c, qx_note, qx_add, qw_u2_n, qx_ov_n, q1]
        · simp (disch := omega) only [ql_c, ql_st_n, qw_u2_n, qw_uc_n, c6, q2]
    · simp (disch := omega) only [qx_c, qx_note, qx_add, qw_u2_n, qx_ov_n, p0]
    · simp (disch := omega) only [qx_c, qx_note, qx_add, qw_u2_n, qx_ov_n, p1]
    · simp (disch := omega) only [qx_c, qx_note, qx_add, qw_u2_n, qx_ov_n, p2]
    · simp (disch := omega) only [qx_c, qx_note, qx_add, qw_u2_n, qx_ov_n, p3]
    · simp (disch := omega) only [qx_c, qx_note, qx_add, qw_u2_n, qx_ov_n, pr]
/-! a tail call -/
def ql_t (t : wm) (H S f : Nat) (x : Int64) : wm := ql_st (qw_uc t 2 (qj_s (t 2) (H - 1) x)) S 1 (nI f)
set_option maxHeartbeats 1000000 in
theorem ql_tail {m t : wm} {T Z H S C N K f : Nat} (R : qd_rel m t T Z H S C N K) (h1 : 1 ≤ H) (hS : S < 60) (hf : f ≤ 15) :
    ∃ a b c d e : Nat, b < 16 ∧ qd_pk a b c d e < 4611686018427387904 ∧ qd_pk a b c d e / 2 ^ 8 % 16 = b ∧ m 9 (H - 1) = nI b ∧ qj_l (t 2) (H - 1) = lN (qd_pk a b c d e) ∧ qd_rel (qx_t m H S f) (ql_t t H S f (lN (qd_pk a f c d e))) T Z H (S + 1) C N K := by
  obtain ⟨ok, hK, G, F, Sl, Cf, Nm⟩ := R
  obtain ⟨⟨b1, b2, b3, b4, b5, b6, b7⟩, ⟨e1, e2, e3, e5, e6, eN, er⟩, okF, okS, okN, okV⟩ := id ok
  obtain ⟨a, b, c, d, e, ⟨ha, hb, hc, hd, he, he9⟩, f1, f2, f3, f4, f5, f6⟩ := F (H - 1) (by omega)
  refine ⟨a, b, c, d, e, hb, qd_pk_lt ha hb hc hd he, qd_pk_b ha hb, f2, f6, ?_⟩
  obtain ⟨g0, g1, g2, g3, g4, g5, g6, g7, g8, g9, g10, g11, g12, g13, g14⟩ := G
  refine ⟨qo_tailO ok h1 (by omega) hf, by omega, ⟨?_, ?_, ?_, ?_, ?_, ?_, ?_, ?_, ?_, ?_, ?_, ?_, ?_, ?_, ?_⟩, ?_, ?_, ?_, ?_⟩
  · simp (disch := omega) only [qx_t, qx_note, ql_t, ql_st_n, qw_u2_n, qw_u2_e, qw_uc_n, g0]
  · rw [ql_t, ql_st_1]
    simp (disch := omega) only [qx_t, qx_note, qw_u2_n, qw_u2_e]
  · simp (disch := omega) only [qx_t, qx_note, ql_t, ql_st_n, qw_u2_n, qw_u2_e, qw_uc_n, g2]
  · rw [ql_t, ql_st_k rfl]
    simp (disch := omega) only [qx_t, qx_note, qw_u2_n, qw_u2_e, qw_uc_n, g3]
  · simp (disch := omega) only [qx_t, qx_note, ql_t, ql_st_n, qw_u2_n, qw_u2_e, qw_uc_n, g4]
  · simp (disch := omega) only [qx_t, qx_note, ql_t, ql_st_n, qw_u2_n, qw_u2_e, qw_uc_n, g5]
  · simp (disch := omega) only [qx_t, qx_note, ql_t, ql_st_n, qw_u2_n, qw_u2_e, qw_uc_n, g6]
  · simp (disch := omega) only [qx_t, qx_note, ql_t, ql_st_n, qw_u2_n, qw_u2_e, qw_uc_n, g7]
  · simp (disch := omega) only [qx_t, qx_note, ql_t, ql_st_n, qw_u2_n, qw_u2_e, qw_uc_n, g8]
  · simp (disch := omega) only [qx_t, qx_note, ql_t, ql_st_n, qw_u2_n, qw_u2_e, qw_uc_n, g9]
  · simp (disch := omega) only [ql_t, ql_st_n, qw_uc_n, g10]
  · simp (disch := omega) only [qx_t, qx_note, ql_t, ql_st_n, qw_u2_n, qw_u2_e, qw_uc_n, g11]
  · simp (disch := omega) only [qx_t, qx_note, ql_t, ql_st_n, qw_u2_n, qw_u2_e, qw_uc_n, g12]
  · simp (disch := omega) only [qx_t, qx_note, ql_t, ql_st_n, qw_u2_n, qw_u2_e, qw_uc_n, g13]
  · simp (disch := omega) only [qx_t, qx_note, ql_t, ql_st_n, qw_u2_n, qw_u2_e, qw_uc_n, g14]
  · intro i hi
    rw [ql_t, ql_st_c (by decide) (by decide), qw_ucs]
    by_cases g : i = H - 1
    · subst g
      rw [qj_lsS]
      refine ⟨a, f, c, d, e, ⟨ha, by omega, hc, hd, he, he9⟩, ?_, ?_, ?_, ?_, ?_, rfl⟩
      · simp (disch := omega) only [qx_t, qx_note, qw_u2_n, f1]
      · simp (disch := omega) only [qx_t, qx_note, qw_u2_n, qw_u2_e]
      · simp (disch := omega) only [qx_t, qx_note, qw_u2_n, f3]
      · simp (disch := omega) only [qx_t, qx_note, qw_u2_n, f4]
      · simp (disch := omega) only [qx_t, qx_note, qw_u2_n, f5]
    · rw [qj_lsN _ _ g]
      refine qd_fr_cg (fun c h1 h2 => ?_) (F i hi)
      simp (disch := omega) only [qx_t, qx_note, qw_u2_n]
  · refine qd_S_cg (m := m) (t := t) (fun x y h1 h2 => ?_) (fun y => ?_) Sl
    · simp (disch := omega) only [qx_t, qx_note, qw_u2_n]
    · simp (disch := omega) only [ql_t, ql_st_n, qw_uc_n]
  · refine qd_C_cg (m := m) (t := t) (fun x y h1 h2 => ?_) ?_ Cf
    · simp (disch := omega) only [qx_t, qx_note, qw_u2_n]
    · rw [ql_t, ql_st_c (by decide) (by decide), qw_ucn _ _ (by decide)]
  · refine qd_N_cg (m := m) (t := t) (S := S) (by omega) (fun y => ?_) (fun y => ?_) ?_ (fun y => ?_) Nm
    · simp (disch := omega) only [qx_t, qx_note, qw_u2_n]
    · simp (disch := omega) only [qx_t, qx_note, qw_u2_n]
    · simp (disch := omega) only [qx_t, qx_note, qw_u2_n]
    · simp (disch := omega) only [ql_t, ql_st_n, qw_uc_n]
/-! a throw -/
def ql_x (t : wm) (S n : Nat) : wm := ql_st t S 3 (nI n)
set_option maxHeartbeats 1000000 in
theorem ql_throw {m t u : wm} {T Z H S C N K n : Nat} (R : qd_rel m t T Z H S C N K) (h1 : 1 ≤ n) (h2 : n ≤ H) (hS : S < 60) (u0 : u 1 0 = nI (H - n)) (u12 : u 1 12 = nI (qx_xT m T Z n)) (u1 : ∀ y : Nat, y ≠ 0 → y ≠ 12 → u 1 y = t 1 y) (uc : ∀ c : Nat, c ≠ 1 → u c = t c) :
    qd_rel (qx_x m T Z H S n) (ql_x u S n) (qx_xT m T Z n) Z (H - n) (S + 1) C N K := by
  obtain ⟨ok, hK, G, F, Sl, Cf, Nm⟩ := R
  obtain ⟨⟨b1, b2, b3, b4, b5, b6, b7⟩, ⟨e1, e2, e3, e5, e6, eN, er⟩, okF, okS, okN, okV⟩ := id ok
  obtain ⟨g0, g1, g2, g3, g4, g5, g6, g7, g8, g9, g10, g11, g12, g13, g14⟩ := G
  have okO := qo_throwO ok h1 h2 (by omega)
  refine ⟨okO, by omega, ⟨?_, ?_, ?_, ?_, ?_, ?_, ?_, ?_, ?_, ?_, ?_, ?_, ?_, ?_, ?_⟩, ?_, ?_, ?_, ?_⟩
  · simp (disch := omega) only [qx_x, qx_note, qx_rms, ql_x, ql_st_n, qw_u2_n, qw_u2_e, u0]
  · rw [ql_x, ql_st_1]
    simp (disch := omega) only [qx_x, qx_note, qx_rms, qw_u2_n, qw_u2_e]
  · simp (disch := omega) only [qx_x, qx_note, qx_rms, ql_x, ql_st_n, qw_u2_n, u1, g2]
  · simp (disch := omega) only [qx_x, qx_note, qx_rms, ql_x, ql_st_n, qw_u2_n, u1, g3]
  · simp (disch := omega) only [qx_x, qx_note, qx_rms, ql_x, ql_st_n, qw_u2_n, u1, g4]
  · rw [ql_x, ql_st_k rfl]
    simp (disch := omega) only [qx_x, qx_note, qx_rms, qw_u2_n, qw_u2_e, u1, g5]
  · simp (disch := omega) only [qx_x, qx_note, qx_rms, ql_x, ql_st_n, qw_u2_n, u1, g6]
  · simp (disch := omega) only [qx_x, qx_note, qx_rms, ql_x, ql_st_n, qw_u2_n, u1, g7]
  · simp (disch := omega) only [qx_x, qx_note, qx_rms, ql_x, ql_st_n, qw_u2_n, u1, g8]
  · simp (disch := omega) only [qx_x, qx_note, qx_rms, ql_x, ql_st_n, qw_u2_n, u1, g9]
  · simp (disch := omega) only [ql_x, ql_st_n, u1, g10]
  · simp (disch := omega) only [qx_x, qx_note, qx_rms, ql_x, ql_st_n, qw_u2_n, u1, g11]
  · rw [okO.2.1.2.1]
    simp (disch := omega) only [ql_x, ql_st_n, u12]
  · simp (disch := omega) only [qx_x, qx_note, qx_rms, ql_x, ql_st_n, qw_u2_n, u1, g13]
  · simp (disch := omega) only [qx_x, qx_note, qx_rms, ql_x, ql_st_n, qw_u2_n, u1, g14]
  · refine qd_F_cg (m := m) (t := t) (H := H) (by omega) (fun x y h1 h2 => ?_) ?_ F
    · simp (disch := omega) only [qx_x, qx_note, qx_rms, qw_u2_n]
    · rw [ql_x, ql_st_c (by decide) (by decide), uc _ (by decide)]
  · refine qd_S_cg (m := m) (t := t) (fun x y h1 h2 => ?_) (fun y => ?_) Sl
    · simp (disch := omega) only [qx_x, qx_note, qx_rms, qw_u2_n]
    · rw [ql_x, ql_st_c (by decide) (by decide), uc _ (by decide)]
  · refine qd_C_cg (m := m) (t := t) (fun x y h1 h2 => ?_) ?_ Cf
    · simp (disch := omega) only [qx_x, qx_note, qx_rms, qw_u2_n]
    · rw [ql_x, ql_st_c (by decide) (by decide), uc _ (by decide)]
  · refine qd_N_cg (m := m) (t := t) (S := S) (by omega) (fun y => ?_) (fun y => ?_) ?_ (fun y => ?_) Nm
    · simp (disch := omega) only [qx_x, qx_note, qx_rms, qw_u2_n]
    · simp (disch := omega) only [qx_x, qx_note, qx_rms, qw_u2_n]
    · simp (disch := omega) only [qx_x, qx_note, qx_rms, qw_u2_n]
    · rw [ql_x, ql_st_c (by decide) (by decide), uc _ (by decide)]
