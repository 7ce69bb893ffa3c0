/-- the history of both sides, P of them -/
def qv_hist (M : wM) (h : Nat → Nat) (P : Nat) (p : Nat → Int32) : Prop := qv_H h ∧ ∀ i : Nat, i < P → qs_R (M (h i)) (fun k => p (935 * i + k))
theorem qw_u1_s (M : wM) (o : Nat) (m : wm) : qw_u1 M o m o = m := by
  unfold qw_u1
  rw [if_pos rfl]
theorem qw_u1_n (M : wM) {o k : Nat} (m : wm) (g : k ≠ o) : qw_u1 M o m k = M k := by
  unfold qw_u1
  rw [if_neg g]
theorem qv_hist_cg {M M' : wM} {h : Nat → Nat} {P : Nat} {p p' : Nat → Int32} (hP : P ≤ 5) (hM : ∀ k : Nat, 3 ≤ k → k < 8 → M' k = M k) (hp : ∀ k : Nat, k < 935 * P → p' k = p k) (H : qv_hist M h P p) : qv_hist M' h P p' := by
  refine ⟨H.1, fun i hi => ?_⟩
  obtain ⟨a, b⟩ := H.1.1 i (by omega)
  rw [hM _ a b]
  exact qs_R_cg (fun x y _ => rfl) (fun k hk => hp _ (by omega)) (H.2 i hi)
theorem qe_record_12 {M : wM} {h : Nat → Nat} {o Q : Nat} {s p p' : Nat → Int32} (ho : o < 3) (hQ : Q ≤ 4) (eP : M 8 0 4 = nI Q) (H : qv_hist M h Q p) (R : qs_R (M o) s)
    (hp : ∀ i k : Nat, i < Q → k < 935 → p' (935 * i + k) = p (935 * i + k)) (hq : ∀ k : Nat, k < 935 → p' (935 * Q + k) = s k) :
    ∃ M' : wM, qf_X2_record_12 o M h = some (M', h) ∧ (∀ k : Nat, k < 3 ∨ k = 9 → M' k = M k) ∧ M' 8 = qw_u2 (M 8) 0 4 (nI (Q + 1)) ∧ qv_hist M' h (Q + 1) p' := by
  obtain ⟨g1, g2⟩ := H.1.1 Q (by omega)
  refine ⟨qw_u1 (qw_u1 M (h Q) (fun x y => if y < qs_len x then M o x y else M (h Q) x y)) 8 (qw_u2 ((qw_u1 M (h Q) (fun x y => if y < qs_len x then M o x y else M (h Q) x y)) 8) 0 4 (nI (Q + 1))), ?_, ?_, ?_, ?_⟩
  · unfold qf_X2_record_12
    rw [qn_e, eP, qa_g (by omega) (by decide), qn_e, qa_cl (by omega), qg_t (by omega), qg_t (by omega), qg_t (by omega), qp_copyFrom, qa_t1, qn_e, qn_e, qw_u1_n (k := 8) _ _ (by omega), eP, qn_e, nI_add, qn_e]
  · intro k hk
    rw [qw_u1_n _ _ (by omega), qw_u1_n _ _ (by omega)]
  · rw [qw_u1_s, qw_u1_n _ _ (by omega)]
  · refine ⟨H.1, fun i hi => ?_⟩
    obtain ⟨a, b⟩ := H.1.1 i (by omega)
    rw [qw_u1_n _ _ (by omega)]
    by_cases e : i = Q
    · subst e
      rw [qw_u1_s]
      refine qs_R_cg (m := M o) (s := s) (fun x y hy => ?_) (fun k hk => hq k hk) R
      rw [if_pos hy]
    · rw [qw_u1_n _ _ (fun q => e (H.1.2 i Q (by omega) (by omega) q))]
      exact qs_R_cg (fun x y _ => rfl) (fun k hk => hp i k (by omega) hk) (H.2 i (by omega))
theorem qv_rot_H {h : Nat → Nat} (H : qv_H h) : qv_H (qv_rot h) := by
  have e : ∀ i : Nat, i < 5 → qv_rot h i = h (if i < 4 then i + 1 else 0) := by
    intro i hi
    unfold qv_rot
    by_cases c : i < 4
    · rw [if_pos c, if_pos c]
    · rw [if_neg c, if_neg c, if_pos (by omega)]
  refine ⟨fun i hi => ?_, fun i j hi hj g => ?_⟩
  · rw [e i hi]
    apply H.1
    split <;> omega
  · rw [e i hi, e j hj] at g
    have := H.2 _ _ (by split <;> omega) (by split <;> omega) g
    by_cases c : i < 4
    · by_cases d : j < 4
      · rw [if_pos c, if_pos d] at this
        omega
      · rw [if_pos c, if_neg d] at this
        omega
    · by_cases d : j < 4
      · rw [if_neg c, if_pos d] at this
        omega
      · omega
theorem qe_record {M : wM} {h : Nat → Nat} {o P : Nat} {s p p' : Nat → Int32} (ho : o < 3) (hP : P ≤ 5) (eP : M 8 0 4 = nI P) (H : qv_hist M h P p) (R : qs_R (M o) s)
    (hp : ∀ i k : Nat, i < qv_P2 P - 1 → k < 935 → p' (935 * i + k) = p (935 * (i + qv_s P) + k)) (hq : ∀ k : Nat, k < 935 → p' (935 * (qv_P2 P - 1) + k) = s k) :
    ∃ (M' : wM) (h' : Nat → Nat), qf_X2_record o M h = some (M', h') ∧ (∀ k : Nat, k < 3 ∨ k = 9 → M' k = M k) ∧ M' 8 = qw_u2 (M 8) 0 4 (nI (qv_P2 P)) ∧ qv_hist M' h' (qv_P2 P) p' := by
  by_cases e : P = 5
  · subst e
    have hH : qv_hist (qw_u1 M 8 (qw_u2 (M 8) 0 4 (nI 4))) (qv_rot h) 4 (fun k => p (k + 935)) := by
      refine ⟨qv_rot_H H.1, fun i hi => ?_⟩
      have er : qv_rot h i = h (i + 1) := by unfold qv_rot; rw [if_pos hi]
      obtain ⟨a, b⟩ := H.1.1 (i + 1) (by omega)
      rw [er, qw_u1_n _ _ (by omega)]
      exact qs_R_cg (fun x y _ => rfl) (fun k hk => congrArg p (by omega)) (H.2 (i + 1) (by omega))
    obtain ⟨M', k1, k2, k3, k4⟩ := qe_record_12 (M := qw_u1 M 8 (qw_u2 (M 8) 0 4 (nI 4))) (p' := p') (s := s) ho (Q := 4) (by decide) (by rw [qw_u1_s, qw_u2_s]) hH (by rw [qw_u1_n _ _ (by omega)]; exact R)
      (fun i k hi hk => (hp i k hi hk).trans (congrArg p (show 935 * (i + 1) + k = 935 * i + k + 935 by omega))) hq
    refine ⟨M', qv_rot h, ?_, ?_, ?_, k4⟩
    · unfold qf_X2_record
      rw [qn_e, eP, if_pos rfl, qe_drop H.1, qa_t2, k1]
    · intro k hk
      rw [k2 k hk, qw_u1_n _ _ (by omega)]
    · rw [k3, qw_u1_s]
      funext x y
      by_cases g : x = 0 ∧ y = 4
      · rw [qw_u2_e _ _ g.1 g.2, qw_u2_e _ _ g.1 g.2]
        rfl
      · rw [qw_u2_n _ _ g, qw_u2_n _ _ g, qw_u2_n _ _ g]
  · have hq2 : qv_P2 P = P + 1 := by unfold qv_P2; rw [if_neg e]
    have hs : qv_s P = 0 := by unfold qv_s; rw [if_neg e]
    rw [hq2] at hp hq ⊢
    rw [hs] at hp
    obtain ⟨M', k1, k2, k3, k4⟩ := qe_record_12 (p' := p') (s := s) ho (Q := P) (by omega) eP H R (fun i k hi hk => hp i k hi hk) hq
    refine ⟨M', h, ?_, k2, k3, k4⟩
    unfold qf_X2_record
    rw [qn_e, eP, if_neg (by rw [qa_eq (by omega) (by decide)]; exact e), k1]
