def qv_st (B : wM) (m0 : wm) (p : Nat) : wM := fun k => if k = 0 then m0 else if k = 8 then qw_u2 (B 8) 2 2 (nI p) else B k
theorem qv_st_0 (B : wM) (m0 : wm) (p : Nat) : qv_st B m0 p 0 = m0 := by
  unfold qv_st
  rw [if_pos rfl]
theorem qv_st_8 (B : wM) (m0 : wm) (p : Nat) : qv_st B m0 p 8 = qw_u2 (B 8) 2 2 (nI p) := by
  unfold qv_st
  rw [if_neg (by decide), if_pos rfl]
theorem qv_st_k (B : wM) (m0 : wm) (p : Nat) {k : Nat} (h : k ≠ 0) (h2 : k ≠ 8) : qv_st B m0 p k = B k := by
  unfold qv_st
  rw [if_neg h, if_neg h2]
theorem qv_st_u0 (B : wM) (m0 m1 : wm) (p : Nat) : qw_u1 (qv_st B m0 p) 0 m1 = qv_st B m1 p := by
  funext k
  by_cases h : k = 0
  · subst h
    rw [qw_u1_s, qv_st_0]
  · rw [qw_u1_n _ _ h]
    unfold qv_st
    rw [if_neg h, if_neg h]
theorem qv_st_u8 (B : wM) (m0 : wm) (p q : Nat) : qw_u1 (qv_st B m0 p) 8 (qw_u2 (B 8) 2 2 (nI q)) = qv_st B m0 q := by
  funext k
  by_cases h : k = 8
  · subst h
    rw [qw_u1_s, qv_st_8]
  · rw [qw_u1_n _ _ h]
    unfold qv_st
    rw [if_neg h, if_neg h]
/-- a step's outcome on both sides -/
def qv_O (B : wM) (h : Nat → Nat) (D : Nat) (ch : Nat → Int32) (t0 : wm) (p : Nat) (A : Option (Int32 × wM × (Nat → Nat))) (C : Option (Int32 × wm)) : Prop :=
  (∃ (m1 : wm) (z : Nat) (s2 : Nat → Int32) (p2 : Nat) (v2 : Int32), z ≤ D ∧ A = some (nI 0, qv_st B m1 z, h) ∧ C = some (nI z, qv_rt t0 s2 p2 v2)) ∨
  (∃ (m1 : wm) (s2 : Nat → Int32) (p1 : Nat) (v2 : Int32), p < p1 ∧ p1 ≤ D ∧ A = some (nI 1, qv_st B m1 p1, h) ∧ C = some (-9, qv_rt t0 s2 (qd_sk ch D p1) v2) ∧ qs_R m1 s2)
theorem qv_end {B : wM} {h : Nat → Nat} {D : Nat} {ch : Nat → Int32} {t0 : wm} {p p2 : Nat} {m0 : wm} {s : Nat → Int32} {v : Int32} {x2 x3 x4 : Int32} {Bq : Option (Int32 × wm)} (hD : D ≤ 120) (X : qd_rx t0 ch D) (h1 : p < p2) (h2 : p2 ≤ D) (h4 : 0 ≤ x4)
    (sim : qo_sim (qf_X0_take x2 x3 x4 m0) Bq m0 (qv_rt t0 s p2 v) (qv_rt t0 s p2 v)) :
    qv_O B h D ch t0 p (qf_X2_takeStepOfText_101 (nI p) x2 x3 x4 (qv_st B m0 p2) h) (qb2 Bq fun r m => qf_X3_runsOne_186 (nI p) r m) := by
  unfold qf_X2_takeStepOfText_101
  rw [if_pos h4, qv_st_0]
  rcases sim with ⟨e, he, eA, eB⟩ | ⟨r, m', t', hr, eA, eB, R', ho⟩
  · refine Or.inl ⟨m0, p, s, qd_sk ch D p2, v, by omega, ?_, ?_⟩
    · rw [eA, qa_t2, qn_e, if_neg, qn_e, qv_st_u0, qv_st_8, qw_u2_u, qv_st_u8]
      rw [qa_le_iff]
      rw [qa_lt_iff] at he
      omega
    · rw [eB, qa_t2]
      unfold qf_X3_runsOne_186
      rw [qm_skip hD X h2, qa_t1, if_neg]
      rw [qa_le_iff]
      rw [qa_lt_iff] at he
      omega
  · refine Or.inr ⟨m', t' 1, p2, v, h1, h2, ?_, ?_, R'⟩
    · rw [eA, qa_t2, qn_e, if_pos (by rw [qa_0e (by omega)]; trivial), qv_st_u0]
    · rw [eB, qa_t2, qv_rt_of ho]
      unfold qf_X3_runsOne_186
      rw [qm_skip hD X h2, qa_t1, if_pos (by rw [qa_0e (by omega)]; trivial), qv_rt_1]
theorem qv_0le {x : Int32} {v : Nat} (h : v < 10000) (e : x = nI v) : 0 ≤ x := by
  rw [e, qa_0e (by omega)]
  trivial
theorem qv_nl0 {x : Int32} {v : Nat} (h : v < 10000) (e : x = nI v) : ¬ x < 0 := by
  rw [e, qa_l0 (by omega)]
  exact fun q => q
theorem qv_numv {ch : Nat → Int32} {D q k : Nat} (K : qd_k ch D q k) (g : qd_good ch q k) : ∃ v : Nat, qd_v ch q k = nI v ∧ v < 10000 := by
  obtain ⟨g1, g2, -⟩ := g
  obtain ⟨v, e, hv⟩ := qd_v_n K k (by omega) (by omega)
  refine ⟨v, e, ?_⟩
  have : 10 ^ k ≤ 10 ^ 3 := Nat.pow_le_pow_right (by decide) g2
  omega
/-- a sign of a step's -/
def qd_kind (c : Int32) : Option Nat := if c = nI 99 then some 0 else if c = nI 114 then some 2 else if c = nI 116 then some 1 else if c = nI 120 then some 3 else none
theorem qv_step {B : wM} {h : Nat → Nat} {D : Nat} {ch : Nat → Int32} {t0 : wm} {p : Nat} {m0 : wm} {s : Nat → Int32} {v : Int32} (hD : D ≤ 120) (X8 : qd_tx (B 8) ch D) (X : qd_rx t0 ch D) (e4 : t0 0 4 = nI 1) (hp : p < D) (R : qs_R m0 s) :
    qv_O B h D ch t0 p (qf_X2_takeStepOfText (qv_st B m0 p) h) (qf_X3_runsOne (qv_rt t0 s p v)) := by
  have sg : qf_X1_sign (qv_st B m0 p 8) = some (ch p) := by rw [qv_st_8, qe_sign hD X8 (by omega), if_pos hp]
  have ex := X.2 p hp
  have hpl : qv_st B m0 p 8 2 2 = nI p := by rw [qv_st_8, qw_u2_s]
  have up : qw_u1 (qv_st B m0 p) 8 (qw_u2 (qv_st B m0 p 8) 2 2 (nI (p + 1))) = qv_st B m0 (p + 1) := by rw [qv_st_8, qw_u2_u, qv_st_u8]
  have acts : ∀ (p2 : Nat) (v2 : Int32), qf_X3_acts (qv_rt t0 s p2 v2) = some (qv_rt t0 s p2 v2) := fun p2 v2 => qm_actsR (by rw [qv_rt_0 _ _ _ _ (by decide) (by decide), e4])
  have R' : ∀ (p2 : Nat) (v2 : Int32), qs_R m0 (qv_rt t0 s p2 v2 1) := fun p2 v2 => by rw [qv_rt_1]; exact R
  have hsk := qd_sk_le (ch := ch) (D := D) (D - (p + 1)) (p + 1) rfl (by omega)
  obtain ⟨k, K⟩ := qd_kE (ch := ch) (D := D) _ (qd_sk ch D (p + 1)) hsk.2 rfl
  have hk := K.1
  -- the class's number and the reference's
  have cn := qe_num hD X8 (show p + 1 ≤ D by omega) K
  have rn := qm_num (s := s) (v := v) hD X (show p + 1 ≤ D by omega) K
  have C0 : qf_X2_takeStepOfText (qv_st B m0 p) h = qb1 (qf_X2_kindOf (ch p)) fun r4 => if r4 = (-1 : Int32) then some (nI 0, qv_st B m0 p, h) else (if r4 = 0 then qf_X2_takeStepOfText_53 (nI p) r4 (nI 0) (qv_st B m0 (p + 1)) h else if r4 = nI 1 then qf_X2_takeStepOfText_53 (nI p) r4 (nI 0) (qv_st B m0 (p + 1)) h else qf_X2_takeStepOfText_61 (nI p) r4 (nI 0) (nI 0) (qv_st B m0 (p + 1)) h) := by
    unfold qf_X2_takeStepOfText
    simp only [qn_e, sg, qa_t1, hpl, nI_add, up]
  have F0 : qf_X3_runsOne (qv_rt t0 s p v) = if ch p = nI 99 then qf_X3_runsOne_41 (nI p) (ch p) (qv_rt t0 s p v) else if ch p = nI 116 then qf_X3_runsOne_41 (nI p) (ch p) (qv_rt t0 s p v) else if ch p = nI 114 then qf_X3_runsOne_41 (nI p) (ch p) (qv_rt t0 s p v) else if ch p = nI 120 then qf_X3_runsOne_41 (nI p) (ch p) (qv_rt t0 s p v) else some (nI p, qv_rt t0 s p v) := by
    unfold qf_X3_runsOne
    simp (disch := omega) only [qn_e, qv_rt_7, qa_g, qa_cl, qv_rt_c, ex]
  rw [C0, F0]
  unfold qf_X2_kindOf
  by_cases h99 : ch p = nI 99
  · rw [if_pos h99, qa_t1, if_neg (show ¬ nI 0 = -1 by decide), if_pos (show nI 0 = 0 from rfl), if_pos h99, h99]
    unfold qf_X2_takeStepOfText_53 qf_X3_runsOne_41
    rw [qn_e, qn_e, qn_e, qv_rt_7, nI_add, qv_rt_u7, if_neg (show ¬ nI 99 = nI 114 by decide), qv_st_8]
    rcases cn with ⟨g, ec⟩ | ⟨g, ec⟩
    · have er := rn.1 g
      obtain ⟨f, ef, hf⟩ := qv_numv K g
      rw [ec, qa_t2, qn_e, qv_st_u8, er, qa_t2, if_neg (show ¬ nI 1 = 0 by decide)]
      unfold qf_X2_takeStepOfText_61 qf_X3_runsOne_69
      rw [if_neg (qv_nl0 hf ef), if_pos (show nI 0 = 0 from rfl), qn_e, qv_rt_8, if_pos rfl, qv_st_8, qe_rdSign hD X8 hk, qm_skip hD X hk, qa_t1]
      have hq := qd_sk_le (ch := ch) (D := D) (D - (qd_sk ch D (p + 1) + k)) (qd_sk ch D (p + 1) + k) rfl hk
      simp only [qn_e, qv_rt_7]
      rw [qv_rt_0 _ _ _ _ (by decide) (by decide), X.1]
      by_cases hE : qd_sk ch D (qd_sk ch D (p + 1) + k) = D
      · rw [if_neg (fun q => by omega), qa_t2, if_pos (show nI 0 = 0 from rfl), qv_st_u8, hE, if_pos rfl]
        exact Or.inl ⟨m0, D, s, D, _, by omega, rfl, rfl⟩
      · have ex2 := X.2 (qd_sk ch D (qd_sk ch D (p + 1) + k)) (by omega)
        rw [if_neg (show ¬ nI (qd_sk ch D (qd_sk ch D (p + 1) + k)) = nI D by rw [qa_eq (by omega) (by omega)]; exact hE), qa_g (by omega) (by decide), qv_rt_c _ _ _ _ (by decide) (by decide), qa_cl (by omega), ex2]
        by_cases h64 : ch (qd_sk ch D (qd_sk ch D (p + 1) + k)) = nI 64
        · rw [if_pos ⟨by omega, h64⟩, qa_t2, if_neg (show ¬ nI 1 = 0 by decide), qv_st_u8, if_pos h64, nI_add, qv_rt_u7]
          unfold qf_X2_takeStepOfText_83 qf_X2_takeStepOfText_92
          rw [if_pos (show nI 0 = 0 from rfl), qv_st_8]
          have hs2 := qd_sk_le (ch := ch) (D := D) (D - (qd_sk ch D (qd_sk ch D (p + 1) + k) + 1)) (qd_sk ch D (qd_sk ch D (p + 1) + k) + 1) rfl (by omega)
          obtain ⟨k2, K2⟩ := qd_kE (ch := ch) (D := D) _ (qd_sk ch D (qd_sk ch D (qd_sk ch D (p + 1) + k) + 1)) hs2.2 rfl
          have hk2 := K2.1
          have cn2 := qe_num hD X8 (show qd_sk ch D (qd_sk ch D (p + 1) + k) + 1 ≤ D by omega) K2
          have rn2 := qm_num (s := s) (v := qd_v ch (qd_sk ch D (p + 1)) k) hD X (show qd_sk ch D (qd_sk ch D (p + 1) + k) + 1 ≤ D by omega) K2
          rcases cn2 with ⟨g2, ec2⟩ | ⟨g2, ec2⟩
          · have er2 := rn2.1 g2
            obtain ⟨a, ea, ha⟩ := qv_numv K2 g2
            rw [ec2, qa_t2, qn_e, qv_st_u8, er2, qa_t2, if_neg (show ¬ nI 1 = 0 by decide)]
            unfold qf_X3_runsOne_136
            rw [if_pos rfl, qn_e, qv_rt_8]
            exact qv_end hD X (by omega) hk2 (qv_0le ha ea) (qo_simC (R' _ _) (acts _ _) rfl _ _)
          · obtain ⟨w, er2⟩ := rn2.2 g2
            rw [ec2, qa_t2, qn_e, qv_st_u8, er2, qa_t2, if_pos (show nI 0 = 0 from rfl), qv_rt_7]
            unfold qf_X2_takeStepOfText_101
            rw [if_neg (show ¬ (0 : Int32) ≤ -1 by decide)]
            exact Or.inl ⟨m0, _, s, _, w, by omega, rfl, rfl⟩
        · rw [if_neg (fun q => h64 q.2), qa_t2, if_pos (show nI 0 = 0 from rfl), qv_st_u8, if_neg h64]
          exact Or.inl ⟨m0, _, s, _, _, by omega, rfl, rfl⟩
    · obtain ⟨w, er⟩ := rn.2 g
      rw [ec, qa_t2, qn_e, qv_st_u8, er, qa_t2, if_pos (show nI 0 = 0 from rfl), qn_e, qv_rt_7]
      unfold qf_X2_takeStepOfText_61
      rw [if_pos (show (-1 : Int32) < 0 by decide)]
      exact Or.inl ⟨m0, _, s, _, w, by omega, rfl, rfl⟩
  · by_cases h114 : ch p = nI 114
    · have e116 : ¬ ch p = nI 116 := by rw [h114]; decide
      rw [if_neg h99, if_pos h114, qa_t1, if_neg (show ¬ nI 2 = -1 by decide), if_neg (show ¬ nI 2 = 0 by decide), if_neg (show ¬ nI 2 = nI 1 by decide), if_neg h99, if_neg e116, if_pos h114, h114]
      unfold qf_X2_takeStepOfText_61 qf_X3_runsOne_41
      rw [if_neg (show ¬ nI 0 < 0 by decide), if_neg (show ¬ nI 2 = 0 by decide), qn_e, qn_e, qn_e, qv_rt_7, nI_add, qv_rt_u7, if_pos rfl]
      unfold qf_X2_takeStepOfText_83 qf_X3_runsOne_69 qf_X3_runsOne_136
      rw [if_neg (show ¬ nI 2 = 0 by decide), if_neg (show ¬ nI 2 = nI 3 by decide), qn_e, if_neg (show ¬ nI 114 = nI 99 by decide), if_neg (show ¬ nI 114 = nI 99 by decide), if_neg (show ¬ nI 114 = nI 116 by decide), if_pos rfl]
      exact qv_end hD X (by omega) (by omega) (show (0 : Int32) ≤ nI 0 by decide) (qo_simR (R' _ _) (acts _ _) rfl)
    · by_cases h116 : ch p = nI 116
      · rw [if_neg h99, if_neg h114, if_pos h116, qa_t1, if_neg (show ¬ nI 1 = -1 by decide), if_neg (show ¬ nI 1 = 0 by decide), if_pos rfl, if_neg h99, if_pos h116, h116]
        unfold qf_X2_takeStepOfText_53 qf_X3_runsOne_41
        rw [qn_e, qn_e, qn_e, qv_rt_7, nI_add, qv_rt_u7, if_neg (show ¬ nI 116 = nI 114 by decide), qv_st_8]
        rcases cn with ⟨g, ec⟩ | ⟨g, ec⟩
        · have er := rn.1 g
          obtain ⟨f, ef, hf⟩ := qv_numv K g
          rw [ec, qa_t2, qn_e, qv_st_u8, er, qa_t2, if_neg (show ¬ nI 1 = 0 by decide)]
          unfold qf_X2_takeStepOfText_61 qf_X3_runsOne_69
          rw [if_neg (qv_nl0 hf ef), if_neg (show ¬ nI 1 = 0 by decide), qn_e, qv_rt_8, if_neg (show ¬ nI 116 = nI 99 by decide)]
          unfold qf_X2_takeStepOfText_83 qf_X3_runsOne_136
          rw [if_neg (show ¬ nI 1 = 0 by decide), if_neg (show ¬ nI 1 = nI 3 by decide), if_neg (show ¬ nI 116 = nI 99 by decide), if_pos rfl]
          exact qv_end hD X (by omega) hk (show (0 : Int32) ≤ nI 0 by decide) (qo_simT (R' _ _) (acts _ _) rfl _)
        · obtain ⟨w, er⟩ := rn.2 g
          rw [ec, qa_t2, qn_e, qv_st_u8, er, qa_t2, if_pos (show nI 0 = 0 from rfl), qn_e, qv_rt_7]
          unfold qf_X2_takeStepOfText_61
          rw [if_pos (show (-1 : Int32) < 0 by decide)]
          exact Or.inl ⟨m0, _, s, _, w, by omega, rfl, rfl⟩
      · by_cases h120 : ch p = nI 120
        · rw [if_neg h99, if_neg h114, if_neg h116, if_pos h120, qa_t1, if_neg (show ¬ nI 3 = -1 by decide), if_neg (show ¬ nI 3 = 0 by decide), if_neg (show ¬ nI 3 = nI 1 by decide), if_neg h99, if_neg h116, if_neg h114, if_pos h120, h120]
          unfold qf_X2_takeStepOfText_61 qf_X3_runsOne_41
          rw [if_neg (show ¬ nI 0 < 0 by decide), if_neg (show ¬ nI 3 = 0 by decide), qn_e, qn_e, qn_e, qv_rt_7, nI_add, qv_rt_u7, if_neg (show ¬ nI 120 = nI 114 by decide)]
          unfold qf_X2_takeStepOfText_83 qf_X2_takeStepOfText_92
          rw [if_neg (show ¬ nI 3 = 0 by decide), if_pos rfl, qv_st_8]
          rcases cn with ⟨g, ec⟩ | ⟨g, ec⟩
          · have er := rn.1 g
            obtain ⟨f, ef, hf⟩ := qv_numv K g
            rw [ec, qa_t2, qn_e, qv_st_u8, er, qa_t2, if_neg (show ¬ nI 1 = 0 by decide)]
            unfold qf_X3_runsOne_69 qf_X3_runsOne_136
            rw [qn_e, qv_rt_8, if_neg (show ¬ nI 120 = nI 99 by decide), if_neg (show ¬ nI 120 = nI 99 by decide), if_neg (show ¬ nI 120 = nI 116 by decide), if_neg (show ¬ nI 120 = nI 114 by decide)]
            exact qv_end hD X (by omega) hk (qv_0le hf ef) (qo_simX (R' _ _) (acts _ _) rfl _)
          · obtain ⟨w, er⟩ := rn.2 g
            rw [ec, qa_t2, qn_e, qv_st_u8, er, qa_t2, if_pos (show nI 0 = 0 from rfl), qn_e, qv_rt_7]
            unfold qf_X2_takeStepOfText_101
            rw [if_neg (show ¬ (0 : Int32) ≤ -1 by decide)]
            exact Or.inl ⟨m0, _, s, _, w, by omega, rfl, rfl⟩
        · rw [if_neg h99, if_neg h114, if_neg h116, if_neg h120, qa_t1, if_pos rfl, if_neg h99, if_neg h116, if_neg h114, if_neg h120]
          exact Or.inl ⟨m0, p, s, p, v, by omega, rfl, rfl⟩
