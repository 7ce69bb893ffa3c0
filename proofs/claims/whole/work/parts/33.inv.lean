/-- the class's pile and the reference are alike -/
def qv_I (M : wM) (h : Nat → Nat) (t : wm) : Prop := ∃ P D : Nat, P ≤ 5 ∧ D ≤ 120 ∧ qs_R (M 0) (t 1) ∧ M 8 0 4 = nI P ∧ t 0 3 = nI P ∧ t 0 4 = nI 0 ∧ M 8 2 1 = nI D ∧ t 0 6 = nI D ∧ (∀ i : Nat, i < D → M 8 3 i = t 4 i) ∧ qv_hist M h P (t 2)
/-- both answer the same and stay alike -/
def qv_S (A : Option (Int32 × wM × (Nat → Nat))) (B : Option (Int32 × wm)) (M : wM) : Prop :=
  ∃ (r : Int32) (M' : wM) (h' : Nat → Nat) (t' : wm), A = some (r, M', h') ∧ B = some (r, t') ∧ qv_I M' h' t' ∧ M' 9 = M 9
theorem qv_I_cg {M M' : wM} {h : Nat → Nat} {t : wm} (g : ∀ k : Nat, k = 0 ∨ (3 ≤ k ∧ k < 9) → M' k = M k) (I : qv_I M h t) : qv_I M' h t := by
  obtain ⟨P, D, hP, hD, R, a1, a2, a3, a4, a5, a6, H⟩ := I
  refine ⟨P, D, hP, hD, ?_, ?_, a2, a3, ?_, a5, ?_, ?_⟩
  · rw [g 0 (by omega)]
    exact R
  · rw [g 8 (by omega)]
    exact a1
  · rw [g 8 (by omega)]
    exact a4
  · rw [g 8 (by omega)]
    exact a6
  · exact qv_hist_cg hP (fun k h1 h2 => g k (by omega)) (fun k _ => rfl) H
theorem qv_P2_le {P : Nat} (h : P ≤ 5) : qv_P2 P ≤ 5 ∧ 1 ≤ qv_P2 P := by
  unfold qv_P2
  split <;> omega
theorem qv_cpy (M : wM) {s : Nat → Int32} (R : qs_R (M 0) s) : qs_R (fun x y => if y < qs_len x then M 0 x y else M 1 x y) s := by
  refine qs_R_cg (m := M 0) (s := s) (fun x y hy => ?_) (fun k _ => rfl) R
  rw [if_pos hy]
theorem qv_cpy1 (M : wM) {s : Nat → Int32} (R : qs_R (M 1) s) : qs_R (fun x y => if y < qs_len x then M 1 x y else M 0 x y) s := by
  refine qs_R_cg (m := M 1) (s := s) (fun x y hy => ?_) (fun k _ => rfl) R
  rw [if_pos hy]
theorem qe_action {M : wM} {h : Nat → Nat} {t : wm} {k x2 x3 : Int32} {B : Option (Int32 × wm)} (I : qv_I M h t)
    (sim : ∀ ta : wm, qf_X3_acts t = some ta → ta 1 = t 1 → qo_sim (qf_X0_take k x2 x3 (M 0)) B (M 0) t ta) : qv_S (qf_X2_takeAsAction k x2 x3 M h) B M := by
  obtain ⟨P, D, hP, hD, R, a1, a2, a3, a4, a5, a6, H⟩ := I
  obtain ⟨ta, k1, k2, k3, k4, k5, k6, k7⟩ := qm_acts a3 a2 hP
  rcases sim ta k1 k2 with ⟨e, he, eA, eB⟩ | ⟨r, m', t', hr, eA, eB, R', ho⟩
  · refine ⟨e, qw_u1 (qw_u1 M 1 (fun x y => if y < qs_len x then M 0 x y else M 1 x y)) 0 (M 0), h, t, ?_, eB, ?_, ?_⟩
    · unfold qf_X2_takeAsAction
      rw [qp_copyFrom, qa_t1, qn_e, qw_u1_n _ _ (by decide), eA, qa_t2, qn_e, if_pos he]
    · refine qv_I_cg (M := M) ?_ ⟨P, D, hP, hD, R, a1, a2, a3, a4, a5, a6, H⟩
      intro k hk
      by_cases e0 : k = 0
      · subst e0
        rw [qw_u1_s]
      · rw [qw_u1_n _ _ e0, qw_u1_n _ _ (by omega)]
    · rw [qw_u1_n _ _ (by decide), qw_u1_n _ _ (by decide)]
  · have H1 : qv_hist (qw_u1 (qw_u1 M 1 (fun x y => if y < qs_len x then M 0 x y else M 1 x y)) 0 m') h P (t 2) := qv_hist_cg hP (fun k h1 h2 => by rw [qw_u1_n _ _ (by omega), qw_u1_n _ _ (by omega)]) (fun k _ => rfl) H
    obtain ⟨M', h', c1, c2, c3, c4⟩ := qe_record (o := 1) (p' := ta 2) (s := t 1) (by decide) hP (by rw [qw_u1_n _ _ (by decide), qw_u1_n _ _ (by decide)]; exact a1) H1 (by
      rw [qw_u1_n _ _ (by decide), qw_u1_s]
      exact qv_cpy M R) k6 k7
    have hp2 := qv_P2_le hP
    have e8 : M' 8 = qw_u2 (M 8) 0 4 (nI (qv_P2 P)) := by rw [c3, qw_u1_n _ _ (by decide), qw_u1_n _ _ (by decide)]
    refine ⟨nI r, M', h', t', ?_, eB, ⟨qv_P2 P, D, hp2.1, hD, ?_, ?_, ?_, ?_, ?_, ?_, ?_, ?_⟩, ?_⟩
    · unfold qf_X2_takeAsAction
      rw [qp_copyFrom, qa_t1, qn_e, qw_u1_n _ _ (by decide), eA, qa_t2, qn_e, if_neg (by rw [qa_l0 (by omega)]; exact fun q => q), c1, qa_t2]
    · rw [c2 0 (by decide), qw_u1_s]
      exact R'
    · rw [e8, qw_u2_s]
    · rw [ho 0 (by decide), k5]
    · rw [ho 0 (by decide), k4 4 (by decide), a3]
    · rw [e8, qw_u2_n _ _ (by decide), a4]
    · rw [ho 0 (by decide), k4 6 (by decide), a5]
    · intro i hi
      rw [e8, qw_u2_n _ _ (by omega), ho 4 (by decide), k3 4 (by decide), a6 i hi]
    · rw [ho 2 (by decide)]
      exact c4
    · rw [c2 9 (by decide), qw_u1_n _ _ (by decide), qw_u1_n _ _ (by decide)]
theorem qv_S3 {A : Option (Int32 × wM × (Nat → Nat))} {B : Option (Int32 × wm)} {M : wM} (s : qv_S A B M) : qv_S (qb3 A fun r M3 h4 => some (r, M3, h4)) B M := by
  obtain ⟨r, M', h', t', e1, e2, e3, e4⟩ := s
  refine ⟨r, M', h', t', ?_, e2, e3, e4⟩
  rw [e1, qa_t3]
theorem qk_call {M : wM} {h : Nat → Nat} {t : wm} (I : qv_I M h t) (x1 x2 : Int32) : qv_S (qf_X2_call x1 x2 M h) (qf_X3_call x1 x2 t) M := by
  have R : qs_R (M 0) (t 1) := by
    obtain ⟨P, D, hP, hD, R, -⟩ := I
    exact R
  unfold qf_X2_call
  exact qv_S3 (qe_action I (fun ta h1 h2 => qo_simC R h1 h2 x1 x2))
theorem qk_tail {M : wM} {h : Nat → Nat} {t : wm} (I : qv_I M h t) (x1 : Int32) : qv_S (qf_X2_tail x1 M h) (qf_X3_tail x1 t) M := by
  have R : qs_R (M 0) (t 1) := by
    obtain ⟨P, D, hP, hD, R, -⟩ := I
    exact R
  unfold qf_X2_tail
  exact qv_S3 (qe_action I (fun ta h1 h2 => qo_simT R h1 h2 x1))
theorem qk_ret {M : wM} {h : Nat → Nat} {t : wm} (I : qv_I M h t) : qv_S (qf_X2_ret M h) (qf_X3_ret t) M := by
  have R : qs_R (M 0) (t 1) := by
    obtain ⟨P, D, hP, hD, R, -⟩ := I
    exact R
  unfold qf_X2_ret
  exact qv_S3 (qe_action I (fun ta h1 h2 => qo_simR R h1 h2))
theorem qk_raise {M : wM} {h : Nat → Nat} {t : wm} (I : qv_I M h t) (x1 : Int32) : qv_S (qf_X2_raise x1 M h) (qf_X3_raise x1 t) M := by
  have R : qs_R (M 0) (t 1) := by
    obtain ⟨P, D, hP, hD, R, -⟩ := I
    exact R
  unfold qf_X2_raise
  exact qv_S3 (qe_action I (fun ta h1 h2 => qo_simX R h1 h2 x1))
