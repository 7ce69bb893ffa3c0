/-! a return -/
def ql_k (t : wm) (oc : Nat) : wm := qw_u2 (qw_u2 (qw_u2 (qw_u2 t 1 6 (t 1 6 + if oc < 2 then nI 1 else nI 0)) 1 7 (t 1 7 + if oc = 1 then nI 1 else nI 0)) 1 8 (t 1 8 + if oc = 2 then nI 1 else nI 0)) 1 9 (t 1 9 + if oc = 3 then nI 1 else nI 0)
def ql_p (t : wm) (H T2 S : Nat) : wm := ql_st (qw_u2 (qw_u2 t 1 0 (nI (H - 1))) 1 12 (nI T2)) S 2 (nI 0)
def ql_cf (t : wm) (K : Nat) (x : Int64) : wm := qw_u2 (qw_uc t 5 (qj_s (t 5) K x)) 1 10 (nI (K + 1))
theorem ql_ret_262 {t : wm} {T Z H S oc : Nat} (e0 : t 1 0 = nI H) (h1 : 1 ≤ H) (hH : H ≤ 40) (e12 : t 1 12 = nI T) (hT : T < 16) (e11 : t 1 11 = nI Z) (hZ : 1 ≤ Z ∧ Z ≤ 16) (eS : t 1 1 = nI S) (hS : S < 64) :
    qf_L_returned_262 (nI oc) t = some (nI oc, ql_p t H (qx_sb Z T) S) := by
  have k294 : ∀ v : Int32, qf_L_returned_294 (nI oc) v (nI 12) (qw_u2 t 1 0 (nI (H - 1))) = some (nI oc, ql_st (qw_u2 (qw_u2 t 1 0 (nI (H - 1))) 1 12 v) S 2 (nI 0)) := by
    intro v
    unfold qf_L_returned_294
    simp (disch := omega) only [qn_e, qa_g, qa_cl]
    rw [ql_steps (S := S) (by rw [qw_u2_n _ _ (by omega), qw_u2_n _ _ (by omega), eS]) hS (by decide), qa_t1]
  unfold qf_L_returned_262
  simp (disch := omega) only [qn_e, e0, e12, e11, qa_sub, qw_u2_n, qa_e0]
  unfold ql_p qx_sb
  by_cases g : T = 0
  · rw [if_pos g, if_pos g, k294]
  · rw [if_neg g, if_neg g, k294]
theorem ql_ret_159 {t : wm} {x6 : Int64} {x8 x9 x10 x11 y0 y1 : Int32} {oc : Nat} (h : oc < 4) : qf_L_returned_159 x6 x8 x9 x10 x11 (nI oc) y0 y1 (nI 9) t =
    if oc < 2 then qf_L_returned_262 (nI oc) (qw_u2 t 1 9 (y1 + y0)) else if oc = 2 then qb1 (qf_L_by x6) (fun r6 => qf_L_returned_183 x9 x10 x11 (nI oc) r6 (qw_u2 t 1 9 (y1 + y0))) else qf_L_returned_183 x9 x10 x11 (nI oc) x8 (qw_u2 t 1 9 (y1 + y0)) := by
  unfold qf_L_returned_159
  rw [qn_e, qa_g (by decide) (by decide), qn_e, qa_cl (by decide)]
  by_cases g : oc < 2
  · rw [if_pos (show nI oc ≤ nI 1 by rw [qa_le (by omega) (by omega)]; omega), if_pos g]
  · rw [if_neg (show ¬ nI oc ≤ nI 1 by rw [qa_le (by omega) (by omega)]; omega), if_neg g]
    by_cases g2 : oc = 2
    · rw [if_pos (congrArg nI g2), if_pos g2]
    · rw [if_neg (show ¬ nI oc = nI 2 by rw [qa_eq (by omega) (by omega)]; exact g2), if_neg g2]
theorem ql_ret_141 {t : wm} {x6 : Int64} {x8 x9 x10 x11 y0 y1 : Int32} {oc : Nat} (h : oc < 4) : qf_L_returned_141 x6 x8 x9 x10 x11 (nI oc) y0 y1 (nI 8) t =
    qf_L_returned_159 x6 x8 x9 x10 x11 (nI oc) (if oc = 3 then nI 1 else nI 0) (t 1 9) (nI 9) (qw_u2 t 1 8 (y1 + y0)) := by
  unfold qf_L_returned_141
  rw [qn_e, qa_g (by decide) (by decide), qn_e, qa_cl (by decide), qn_e, qw_u2_n _ _ (by decide)]
  by_cases g : oc = 3
  · rw [if_pos (congrArg nI g), if_pos g]
  · rw [if_neg (show ¬ nI oc = nI 3 by rw [qa_eq (by omega) (by omega)]; exact g), if_neg g]
theorem ql_ret_123 {t : wm} {x6 : Int64} {x8 x9 x10 x11 y0 y1 : Int32} {oc : Nat} (h : oc < 4) : qf_L_returned_123 x6 x8 x9 x10 x11 (nI oc) y0 y1 (nI 7) t =
    qf_L_returned_141 x6 x8 x9 x10 x11 (nI oc) (if oc = 2 then nI 1 else nI 0) (t 1 8) (nI 8) (qw_u2 t 1 7 (y1 + y0)) := by
  unfold qf_L_returned_123
  rw [qn_e, qa_g (by decide) (by decide), qn_e, qa_cl (by decide), qn_e, qw_u2_n _ _ (by decide)]
  by_cases g : oc = 2
  · rw [if_pos (congrArg nI g), if_pos g]
  · rw [if_neg (show ¬ nI oc = nI 2 by rw [qa_eq (by omega) (by omega)]; exact g), if_neg g]
theorem ql_ret_105 {t : wm} {x6 : Int64} {x8 x9 x10 x11 y0 y1 : Int32} {oc : Nat} (h : oc < 4) : qf_L_returned_105 x6 x8 x9 x10 x11 (nI oc) y0 y1 (nI 6) t =
    qf_L_returned_123 x6 x8 x9 x10 x11 (nI oc) (if oc = 1 then nI 1 else nI 0) (t 1 7) (nI 7) (qw_u2 t 1 6 (y1 + y0)) := by
  unfold qf_L_returned_105
  rw [qn_e, qa_g (by decide) (by decide), qn_e, qa_cl (by decide), qn_e, qw_u2_n _ _ (by decide)]
  by_cases g : oc = 1
  · rw [if_pos (congrArg nI g), if_pos g]
  · rw [if_neg (show ¬ nI oc = nI 1 by rw [qa_eq (by omega) (by omega)]; exact g), if_neg g]
theorem ql_ret_87 {t : wm} {x6 : Int64} {x8 x9 x10 x11 : Int32} {oc : Nat} (h : oc < 4) : qf_L_returned_87 x6 x8 x9 x10 x11 (nI oc) t =
    if oc < 2 then qf_L_returned_262 (nI oc) (ql_k t oc) else if oc = 2 then qb1 (qf_L_by x6) (fun r6 => qf_L_returned_183 x9 x10 x11 (nI oc) r6 (ql_k t oc)) else qf_L_returned_183 x9 x10 x11 (nI oc) x8 (ql_k t oc) := by
  have e : qf_L_returned_87 x6 x8 x9 x10 x11 (nI oc) t = qf_L_returned_105 x6 x8 x9 x10 x11 (nI oc) (if oc < 2 then nI 1 else nI 0) (t 1 6) (nI 6) t := by
    unfold qf_L_returned_87
    rw [qn_e]
    by_cases g : oc < 2
    · rw [if_neg (show ¬ nI 2 ≤ nI oc by rw [qa_le (by omega) (by omega)]; omega), if_pos g]
    · rw [if_pos (show nI 2 ≤ nI oc by rw [qa_le (by omega) (by omega)]; omega), if_neg g]
  rw [e, ql_ret_105 h, ql_ret_123 h, ql_ret_141 h, ql_ret_159 h]
  repeat rw [qw_u2_n _ _ (by decide)]
  rfl
theorem ql_ret_183 {t : wm} {K S oc g c a u : Nat} (hK : t 1 10 = nI K) (hK2 : K < 64) (eS : t 1 1 = nI S) (hS : S < 64) (ho : 2 ≤ oc) (ho2 : oc < 4) (hg : g < 1009) (hc : c < 1000) (ha : a < 200) (hu : u < 73) (hu9 : u = 0 ∨ 9 ≤ u) :
    qf_L_returned_183 (nI g - nI 9) (nI c) (nI a) (nI oc) (nI u - nI 9) t = qf_L_returned_262 (nI oc) (if u = 0 then ql_cf t K (lN (qd_cpk (oc - 1) u a g c S)) else qw_u2 (ql_cf t K (lN (qd_cpk (oc - 1) u a g c S))) 6 (u - 9) (t 6 (u - 9) + nI 1)) := by
  unfold qf_L_returned_183
  simp only [qn_e, hK, eS]
  rw [qd_p9 (show u < 1000000 by omega), qd_p9 (show g < 1000000 by omega), nI_l (n := oc) (by omega), lN_sub (show 1 ≤ oc by omega), qd_cpack (by omega) (by omega) (by omega) (by omega) (by omega) (by omega)]
  simp (disch := omega) only [qa_g, qa_cl, qw_uc_n, hK, nI_add]
  rcases qd_n9 (show u < 1000000 by omega) hu9 with ⟨h0, h9⟩ | ⟨h0, h9⟩
  · rw [h9, if_pos (by decide), if_pos h0]
    rfl
  · rw [h9, if_neg (by rw [qa_l0 (by omega)]; exact fun q => q), if_neg (by omega)]
    simp (disch := omega) only [qa_g, qa_cl, qw_u2_n, qw_uc_n]
    rfl
set_option maxHeartbeats 1000000 in
theorem ql_retR {m mm t tt : wm} {T Z H S C N K C2 K2 oc : Nat} (R : qd_rel m t T Z H S C N K) (h1 : 1 ≤ H) (hS : S < 60) (hoc : oc < 4)
    (okm : qs_ok (qw_u2 mm 2 oc (m 2 oc + nI 1)) T Z H S C2 N) (hm : ∀ x y : Nat, x < 19 → x ≠ 3 → ¬ (x = 0 ∧ y = 6) → mm x y = m x y)
    (t1 : ∀ y : Nat, y ≠ 10 → tt 1 y = ql_k t oc 1 y) (t10 : tt 1 10 = nI K2) (hK2 : K2 ≤ S + 1) (t2 : tt 2 = t 2) (t3 : ∀ y : Nat, tt 3 y = t 3 y) (hC : qd_C mm tt C2 K2)
    (hN : qd_N (qw_u2 (qw_u2 mm 2 oc (m 2 oc + nI 1)) 1 2 (m 1 2 + nI 1)) tt N (S + 1)) :
    qd_rel (qx_pop (qw_u2 mm 2 oc (m 2 oc + nI 1)) (qx_sb Z T) H S) (ql_p tt H (qx_sb Z T) S) (qx_sb Z T) Z (H - 1) (S + 1) C2 N K2 := by
  obtain ⟨ok, hK, G, F, Sl, Cf, Nm⟩ := R
  obtain ⟨⟨b1, b2, b3, b4, b5, b6, b7⟩, ⟨e1, e2, e3, e5, e6, eN, er⟩, okF, okS, okN, okV⟩ := id ok
  obtain ⟨g0, g1, g2, g3, g4, g5, g6, g7, g8, g9, g10, g11, g12, g13, g14⟩ := G
  refine ⟨qo_popO okm h1 (by omega) (qx_sb_lt (by omega) b3), hK2, ⟨?_, ?_, ?_, ?_, ?_, ?_, ?_, ?_, ?_, ?_, ?_, ?_, ?_, ?_, ?_⟩, ?_, ?_, ?_, ?_⟩
  · simp (disch := omega) only [qx_pop, qx_note, ql_p, ql_st_n, qw_u2_n, qw_u2_e]
  · rw [ql_p, ql_st_1]
    simp (disch := omega) only [qx_pop, qx_note, qw_u2_n, qw_u2_e]
  · simp (disch := omega) only [qx_pop, qx_note, ql_p, ql_st_n, qw_u2_n, hm, t1, ql_k, g2]
  · simp (disch := omega) only [qx_pop, qx_note, ql_p, ql_st_n, qw_u2_n, hm, t1, ql_k, g3]
  · rw [ql_p, ql_st_k rfl]
    simp (disch := omega) only [qx_pop, qx_note, qw_u2_n, qw_u2_e, hm, t1, ql_k, g4]
  · simp (disch := omega) only [qx_pop, qx_note, ql_p, ql_st_n, qw_u2_n, hm, t1, ql_k, g5]
  · simp (disch := omega) only [qx_pop, qx_note, ql_p, ql_st_n, qw_u2_n, t1]
    rcases (show oc = 0 ∨ oc = 1 ∨ oc = 2 ∨ oc = 3 by omega) with rfl | rfl | rfl | rfl
    · simp (disch := omega) only [ql_k, qw_u2_n, qw_u2_e, hm, g6, if_pos]
      exact qa_ac _ _
    · simp (disch := omega) only [ql_k, qw_u2_n, qw_u2_e, hm, g6, if_pos]
      exact qa_aa _ _
    · simp (disch := omega) only [ql_k, qw_u2_n, qw_u2_e, hm, g6, if_neg, qa_p0]
    · simp (disch := omega) only [ql_k, qw_u2_n, qw_u2_e, hm, g6, if_neg, qa_p0]
  · simp (disch := omega) only [qx_pop, qx_note, ql_p, ql_st_n, qw_u2_n, t1]
    rcases (show oc = 0 ∨ oc = 1 ∨ oc = 2 ∨ oc = 3 by omega) with rfl | rfl | rfl | rfl
    · simp (disch := omega) only [ql_k, qw_u2_n, qw_u2_e, hm, g7, if_neg, qa_p0]
    · simp (disch := omega) only [ql_k, qw_u2_n, qw_u2_e, hm, g7, if_true]
    · simp (disch := omega) only [ql_k, qw_u2_n, qw_u2_e, hm, g7, if_neg, qa_p0]
    · simp (disch := omega) only [ql_k, qw_u2_n, qw_u2_e, hm, g7, if_neg, qa_p0]
  · simp (disch := omega) only [qx_pop, qx_note, ql_p, ql_st_n, qw_u2_n, t1]
    rcases (show oc = 0 ∨ oc = 1 ∨ oc = 2 ∨ oc = 3 by omega) with rfl | rfl | rfl | rfl
    · simp (disch := omega) only [ql_k, qw_u2_n, qw_u2_e, hm, g8, if_neg, qa_p0]
    · simp (disch := omega) only [ql_k, qw_u2_n, qw_u2_e, hm, g8, if_neg, qa_p0]
    · simp (disch := omega) only [ql_k, qw_u2_n, qw_u2_e, hm, g8, if_true]
    · simp (disch := omega) only [ql_k, qw_u2_n, qw_u2_e, hm, g8, if_neg, qa_p0]
  · simp (disch := omega) only [qx_pop, qx_note, ql_p, ql_st_n, qw_u2_n, t1]
    rcases (show oc = 0 ∨ oc = 1 ∨ oc = 2 ∨ oc = 3 by omega) with rfl | rfl | rfl | rfl
    · simp (disch := omega) only [ql_k, qw_u2_n, qw_u2_e, hm, g9, if_neg, qa_p0]
    · simp (disch := omega) only [ql_k, qw_u2_n, qw_u2_e, hm, g9, if_neg, qa_p0]
    · simp (disch := omega) only [ql_k, qw_u2_n, qw_u2_e, hm, g9, if_neg, qa_p0]
    · simp (disch := omega) only [ql_k, qw_u2_n, qw_u2_e, hm, g9, if_true]
  · simp (disch := omega) only [ql_p, ql_st_n, qw_u2_n, t10]
  · simp (disch := omega) only [qx_pop, qx_note, ql_p, ql_st_n, qw_u2_n, hm, t1, ql_k, g11]
  · simp (disch := omega) only [qx_pop, qx_note, ql_p, ql_st_n, qw_u2_n, qw_u2_e]
  · simp (disch := omega) only [qx_pop, qx_note, ql_p, ql_st_n, qw_u2_n, hm, t1, ql_k, g13]
  · simp (disch := omega) only [qx_pop, qx_note, ql_p, ql_st_n, qw_u2_n, hm, t1, ql_k, g14]
  · refine qd_F_cg (m := m) (t := t) (H := H) (by omega) (fun x y h1 h2 => ?_) ?_ F
    · simp (disch := omega) only [qx_pop, qx_note, qw_u2_n, hm]
    · rw [ql_p, ql_st_c (by decide) (by decide), qw_u2_c _ _ (by decide), qw_u2_c _ _ (by decide), t2]
  · refine qd_S_cg (m := m) (t := t) (fun x y h1 h2 => ?_) (fun y => ?_) Sl
    · simp (disch := omega) only [qx_pop, qx_note, qw_u2_n, hm]
    · simp (disch := omega) only [ql_p, ql_st_n, qw_u2_n, t3]
  · refine qd_C_cg (m := mm) (t := tt) (fun x y h1 h2 => ?_) ?_ hC
    · simp (disch := omega) only [qx_pop, qx_note, qw_u2_n]
    · rw [ql_p, ql_st_c (by decide) (by decide), qw_u2_c _ _ (by decide), qw_u2_c _ _ (by decide)]
  · refine qd_N_cg (t := tt) (Nat.le_refl _) (fun y => ?_) (fun y => ?_) ?_ (fun y => ?_) hN
    · simp (disch := omega) only [qx_pop, qx_note, qw_u2_n]
    · simp (disch := omega) only [qx_pop, qx_note, qw_u2_n]
    · simp (disch := omega) only [qx_pop, qx_note, qw_u2_n, qw_u2_e, hm]
    · simp (disch := omega) only [ql_p, ql_st_n, qw_u2_n]
