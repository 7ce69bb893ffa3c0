/-! the class's history: how many are kept, and that nothing else changes -/
def qd_J (M : wM) (h : Nat → Nat) : Prop := qv_H h ∧ (∃ P : Nat, P ≤ 5 ∧ M 8 0 4 = nI P) ∧ M 8 2 1 = nI 0
theorem qd_J_cg {M M' : wM} {h : Nat → Nat} (e : M' 8 = M 8) (J : qd_J M h) : qd_J M' h := by
  obtain ⟨a, ⟨P, b, c⟩, d⟩ := J
  exact ⟨a, ⟨P, b, by rw [e]; exact c⟩, by rw [e]; exact d⟩
theorem qd_rec12 {M : wM} {h : Nat → Nat} {o Q : Nat} (ho : o < 3) (hQ : Q ≤ 4) (eP : M 8 0 4 = nI Q) (H : qv_H h) :
    ∃ M' : wM, qf_X2_record_12 o M h = some (M', h) ∧ (∀ k : Nat, k < 3 ∨ k = 9 → M' k = M k) ∧ M' 8 = qw_u2 (M 8) 0 4 (nI (Q + 1)) := by
  obtain ⟨g1, g2⟩ := H.1 Q (by omega)
  refine ⟨qw_u1 (qw_u1 M (h Q) (fun x y => if y < qs_len x then M o x y else M (h Q) x y)) 8 (qw_u2 ((qw_u1 M (h Q) (fun x y => if y < qs_len x then M o x y else M (h Q) x y)) 8) 0 4 (nI (Q + 1))), ?_, ?_, ?_⟩
  · unfold qf_X2_record_12
    rw [qn_e, eP, qa_g (by omega) (by decide), qn_e, qa_cl (by omega), qg_t (by omega), qg_t (by omega), qg_t (by omega), qp_copyFrom, qa_t1, qn_e, qn_e, qw_u1_n (k := 8) _ _ (by omega), eP, qn_e, nI_add, qn_e]
  · intro k hk
    rw [qw_u1_n _ _ (by omega), qw_u1_n _ _ (by omega)]
  · rw [qw_u1_s, qw_u1_n _ _ (by omega)]
theorem qd_rec {M : wM} {h : Nat → Nat} {o : Nat} (ho : o < 3) (J : qd_J M h) : ∃ (M' : wM) (h' : Nat → Nat), qf_X2_record o M h = some (M', h') ∧ (∀ k : Nat, k < 3 ∨ k = 9 → M' k = M k) ∧ qd_J M' h' := by
  obtain ⟨H, ⟨P, hP, eP⟩, et⟩ := J
  by_cases e : P = 5
  · subst e
    obtain ⟨M', k1, k2, k3⟩ := qd_rec12 (M := qw_u1 M 8 (qw_u2 (M 8) 0 4 (nI 4))) (h := qv_rot h) ho (Q := 4) (by decide) (by rw [qw_u1_s, qw_u2_s]) (qv_rot_H H)
    refine ⟨M', qv_rot h, ?_, ?_, qv_rot_H H, ⟨5, by decide, ?_⟩, ?_⟩
    · unfold qf_X2_record
      rw [qn_e, eP, if_pos rfl, qe_drop H, qa_t2, k1]
    · intro k hk
      rw [k2 k hk, qw_u1_n _ _ (by omega)]
    · rw [k3, qw_u2_s]
    · rw [k3, qw_u2_n _ _ (by decide), qw_u1_s, qw_u2_n _ _ (by decide), et]
  · obtain ⟨M', k1, k2, k3⟩ := qd_rec12 ho (Q := P) (by omega) eP H
    refine ⟨M', h, ?_, k2, H, ⟨P + 1, by omega, ?_⟩, ?_⟩
    · unfold qf_X2_record
      rw [qn_e, eP, if_neg (by rw [qa_eq (by omega) (by decide)]; exact e), k1]
    · rw [k3, qw_u2_s]
    · rw [k3, qw_u2_n _ _ (by decide), et]
/-- a step that is taken -/
theorem qd_act {M : wM} {h : Nat → Nat} {k x2 x3 : Int32} {r : Nat} {m' : wm} (J : qd_J M h) (hr : r < 2147483648) (e : qf_X0_take k x2 x3 (M 0) = some (nI r, m')) :
    ∃ (M' : wM) (h' : Nat → Nat), qf_X2_takeAsAction k x2 x3 M h = some (nI r, M', h') ∧ M' 0 = m' ∧ M' 9 = M 9 ∧ qd_J M' h' := by
  have J1 : qd_J (qw_u1 (qw_u1 M 1 (fun x y => if y < qs_len x then M 0 x y else M 1 x y)) 0 m') h := qd_J_cg (by rw [qw_u1_n _ _ (by decide), qw_u1_n _ _ (by decide)]) J
  obtain ⟨M', h', c1, c2, c3⟩ := qd_rec (o := 1) (by decide) J1
  refine ⟨M', h', ?_, ?_, ?_, c3⟩
  · unfold qf_X2_takeAsAction
    rw [qp_copyFrom, qa_t1, qn_e, qw_u1_n _ _ (by decide), e, qa_t2, qn_e, if_neg (by rw [qa_l0 (by omega)]; exact fun q => q), c1, qa_t2]
  · rw [c2 0 (by decide), qw_u1_s]
  · rw [c2 9 (by decide), qw_u1_n _ _ (by decide), qw_u1_n _ _ (by decide)]
/-- a step that is refused -/
theorem qd_actE {M : wM} {h : Nat → Nat} {k x2 x3 e : Int32} (J : qd_J M h) (he : e < 0) (hk : qf_X0_take k x2 x3 (M 0) = some (e, M 0)) :
    ∃ M' : wM, qf_X2_takeAsAction k x2 x3 M h = some (e, M', h) ∧ M' 0 = M 0 ∧ M' 9 = M 9 ∧ qd_J M' h := by
  refine ⟨qw_u1 (qw_u1 M 1 (fun x y => if y < qs_len x then M 0 x y else M 1 x y)) 0 (M 0), ?_, qw_u1_s _ _ _, ?_, qd_J_cg ?_ J⟩
  · unfold qf_X2_takeAsAction
    rw [qp_copyFrom, qa_t1, qn_e, qw_u1_n _ _ (by decide), hk, qa_t2, qn_e, if_pos he]
  · rw [qw_u1_n _ _ (by decide), qw_u1_n _ _ (by decide)]
  · rw [qw_u1_n _ _ (by decide), qw_u1_n _ _ (by decide)]
/-- what a method of the class does that answers r: the state m', the law's cells as they were -/
def qd_A (A : Option (Int32 × wM × (Nat → Nat))) (M : wM) (r : Int32) (m' : wm) : Prop := ∃ (M' : wM) (h' : Nat → Nat), A = some (r, M', h') ∧ M' 0 = m' ∧ M' 9 = M 9 ∧ qd_J M' h'
theorem qd_A3 {A : Option (Int32 × wM × (Nat → Nat))} {M : wM} {r : Int32} {m' : wm} (s : qd_A A M r m') : qd_A (qb3 A fun r M3 h4 => some (r, M3, h4)) M r m' := by
  obtain ⟨M', h', e1, e2, e3, e4⟩ := s
  refine ⟨M', h', ?_, e2, e3, e4⟩
  rw [e1, qa_t3]
theorem qd_actE3 {M : wM} {h : Nat → Nat} {k x2 x3 e : Int32} (J : qd_J M h) (he : e < 0) (hk : qf_X0_take k x2 x3 (M 0) = some (e, M 0)) : qd_A (qf_X2_takeAsAction k x2 x3 M h) M e (M 0) := by
  obtain ⟨M', a, b, c, d⟩ := qd_actE J he hk
  exact ⟨M', h, a, b, c, d⟩
