theorem qo_oc {m t : wm} {H S C N T : Nat} (rl : qs_rel m (t 1) H S C N) (h1 : 1 ≤ H) (hT : T < 16) : qx_moc t H T = qx_oc m H T := by
  obtain ⟨-, rF, rS, -, -, -⟩ := rl
  have f0 : t 1 (15 + 5 * (H - 1) + 0) = m 8 (H - 1) := rF (H - 1) 0 (by omega) (by decide)
  have f2 : t 1 (15 + 5 * (H - 1) + 2) = m 10 (H - 1) := rF (H - 1) 2 (by omega) (by decide)
  have f4 : t 1 (15 + 5 * (H - 1) + 4) = m 12 (H - 1) := rF (H - 1) 4 (by omega) (by decide)
  have s0 : t 1 (215 + 3 * T + 0) = m 13 T := rS T 0 hT (by decide)
  have s1 : t 1 (215 + 3 * T + 1) = m 14 T := rS T 1 hT (by decide)
  unfold qx_moc qx_oc
  rw [f0, f2, f4, s0, s1]
/-- the counts and the confession of a return -/
theorem qo_ret1 {m t : wm} {T Z H S C N : Nat} (ok : qs_ok m T Z H S C N) (rl : qs_rel m (t 1) H S C N) (h1 : 1 ≤ H) :
    ∃ C2 : Nat, qs_ok (qw_u2 (qx_rm1 m H T C) 2 (qx_oc m H T) (m 2 (qx_oc m H T) + nI 1)) T Z H S C2 N ∧ qs_rel (qw_u2 (qx_rm1 m H T C) 2 (qx_oc m H T) (m 2 (qx_oc m H T) + nI 1)) (qx_mret1 t H T C 1) H S C2 N := by
  have ok0 := ok
  have rl0 := rl
  obtain ⟨⟨b1, b2, b3, b4, b5, b6, b7⟩, ⟨e1, e2, e3, e5, e6, eN, er⟩, okF, okS, -⟩ := ok
  obtain ⟨⟨r0, r1, r2, r3, r4, r5, r6, r7, r8, r9, r10, r11, r12, r13, r14⟩, rF, rS, -, -, -⟩ := rl
  have hoc := qo_oc (T := T) rl0 h1 (by omega)
  have h4 := qx_oc_lt m H T
  have hok1 : ∀ (o : Nat) (v : Int32), qs_ok (qw_u2 m 2 o v) T Z H S C N := fun o v => qs_ok_cg (fun x y h => by rw [qw_u2_n _ _ (by omega)]) ok0
  have hcu : qx_cu m H T = -9 ∨ ∃ q : Nat, qx_cu m H T = nI q ∧ q < N := by
    unfold qx_cu
    split
    · exact (okF (H - 1) (by omega)).2.1
    · exact okS T (by omega)
  unfold qx_mret1
  rw [hoc]
  rcases (show qx_oc m H T = 0 ∨ qx_oc m H T = 1 ∨ qx_oc m H T = 2 ∨ qx_oc m H T = 3 by omega) with h | h | h | h
  · have hrm : qx_rm1 m H T C = m := by unfold qx_rm1; rw [if_pos (by omega)]
    rw [hrm, h, if_pos rfl]
    refine ⟨C, hok1 _ _, qo_cnt rl0 (fun x y hx => by rw [qw_u2_n _ _ (by omega)]) (fun y hy => by simp (disch := omega) only [qw_u2_n]) ?_ ?_ ?_ ?_⟩
    · simp (disch := omega) only [qw_u2_n, qw_u2_e, r6]
      exact qa_ac _ _
    · simp (disch := omega) only [qw_u2_n, qw_u2_e, r7, qa_p0]
    · simp (disch := omega) only [qw_u2_n, qw_u2_e, r8]
    · simp (disch := omega) only [qw_u2_n, qw_u2_e, r9]
  · have hrm : qx_rm1 m H T C = m := by unfold qx_rm1; rw [if_pos (by omega)]
    rw [hrm, h, if_neg (by decide), if_pos rfl]
    refine ⟨C, hok1 _ _, qo_cnt rl0 (fun x y hx => by rw [qw_u2_n _ _ (by omega)]) (fun y hy => by simp (disch := omega) only [qw_u2_n]) ?_ ?_ ?_ ?_⟩
    · simp (disch := omega) only [qw_u2_n, qw_u2_e, r6]
      exact qa_aa _ _
    · simp (disch := omega) only [qw_u2_n, qw_u2_e, r7]
    · simp (disch := omega) only [qw_u2_n, qw_u2_e, r8]
    · simp (disch := omega) only [qw_u2_n, qw_u2_e, r9]
  · have hrm : qx_rm1 m H T C = qx_cf m H T C (nI 1) (qx_cu m H T) := by unfold qx_rm1; rw [if_neg (by omega), if_pos h]
    have ecu : t 1 (15 + 5 * (H - 1) + 4) = qx_cu m H T := by
      unfold qx_cu
      rw [if_pos h]
      exact rF (H - 1) 4 (by omega) (by decide)
    rw [hrm, h, if_neg (by decide), if_neg (by decide), if_neg (by decide), ecu, ← qx_cf_cm]
    have rl1 : qs_rel (qw_u2 m 2 2 (m 2 2 + nI 1)) (qw_u2 t 1 8 (t 1 8 + nI 1) 1) H S C N := by
      refine qo_cnt rl0 (fun x y hx => by rw [qw_u2_n _ _ (by omega)]) (fun y hy => by simp (disch := omega) only [qw_u2_n]) ?_ ?_ ?_ ?_
      · simp (disch := omega) only [qw_u2_n, r6]
      · simp (disch := omega) only [qw_u2_n, r7]
      · simp (disch := omega) only [qw_u2_e, r8]
      · simp (disch := omega) only [qw_u2_n, r9]
    exact ⟨_, qs_ok_cf (hok1 _ _) rfl hcu, qo_cf (hok1 _ _) rl1 h1 rfl hcu⟩
  · have hrm : qx_rm1 m H T C = qx_cf m H T C (nI 2) (qx_cu m H T) := by unfold qx_rm1; rw [if_neg (by omega), if_neg (by omega)]
    have ecu : t 1 (215 + 3 * T + 0) = qx_cu m H T := by
      unfold qx_cu
      rw [if_neg (by omega)]
      exact rS T 0 (by omega) (by decide)
    rw [hrm, h, if_neg (by decide), if_neg (by decide), if_pos rfl, ecu, ← qx_cf_cm]
    have rl1 : qs_rel (qw_u2 m 2 3 (m 2 3 + nI 1)) (qw_u2 t 1 9 (t 1 9 + nI 1) 1) H S C N := by
      refine qo_cnt rl0 (fun x y hx => by rw [qw_u2_n _ _ (by omega)]) (fun y hy => by simp (disch := omega) only [qw_u2_n]) ?_ ?_ ?_ ?_
      · simp (disch := omega) only [qw_u2_n, r6]
      · simp (disch := omega) only [qw_u2_n, r7]
      · simp (disch := omega) only [qw_u2_n, r8]
      · simp (disch := omega) only [qw_u2_e, r9]
    exact ⟨_, qs_ok_cf (hok1 _ _) rfl hcu, qo_cf (hok1 _ _) rl1 h1 rfl hcu⟩
def qx_r (m : wm) (T Z H S C : Nat) : wm := qx_pop (qw_u2 (qx_rm1 m H T C) 2 (qx_oc m H T) (m 2 (qx_oc m H T) + nI 1)) (qx_sb Z T) H S
def qx_mr (t : wm) (T Z H S C : Nat) : wm := qx_mpop (qx_mret1 t H T C) (qx_sb Z T) H S
theorem qo_retT {m : wm} {T Z H S C N : Nat} (ok : qs_ok m T Z H S C N) (h1 : 1 ≤ H) (hS : S < 200) :
    qf_X0_take (nI 2) (nI 0) (nI 0) m = some (nI (qx_oc m H T), qx_r m T Z H S C) := by
  obtain ⟨⟨b1, b2, b3, b4, b5, b6, b7⟩, ⟨e1, e2, e3, e5, e6, eN, er⟩, okF, okS, -⟩ := ok
  have hby : m 12 (H - 1) = -9 ∨ ∃ q : Nat, m 12 (H - 1) = nI q ∧ q < 200 := by
    rcases (okF (H - 1) (by omega)).2.1 with h | ⟨q, h, hq⟩
    · exact Or.inl h
    · exact Or.inr ⟨q, h, by omega⟩
  have hsl : m 13 T = -9 ∨ ∃ q : Nat, m 13 T = nI q ∧ q < 200 := by
    rcases okS T (by omega) with h | ⟨q, h, hq⟩
    · exact Or.inl h
    · exact Or.inr ⟨q, h, by omega⟩
  unfold qf_X0_take qf_X0_take_81
  rw [qe_errR e3 h1 b4 e5 hS, qa_t1, if_pos (show nI 0 = 0 from rfl), if_neg (show ¬ nI 2 = nI 0 by decide), if_neg (show ¬ nI 2 = nI 1 by decide), if_pos rfl, qe_rem e1 ⟨by omega, b2⟩ e2 b3 e3 h1 b4 e6 b6 hby hsl, qa_t2, qe_note (S := S) (by simp (disch := omega) only [qx_rem, qw_u2_n, qx_rm1_n]; exact e5) hS (by decide), qa_t1]
  rfl
theorem qo_retO {m t : wm} {T Z H S C N : Nat} (ok : qs_ok m T Z H S C N) (rl : qs_rel m (t 1) H S C N) (h1 : 1 ≤ H) (hS : S < 200) :
    ∃ C2 : Nat, qs_ok (qx_r m T Z H S C) (qx_sb Z T) Z (H - 1) (S + 1) C2 N ∧ qs_rel (qx_r m T Z H S C) (qx_mr t T Z H S C 1) (H - 1) (S + 1) C2 N := by
  obtain ⟨C2, k1, k2⟩ := qo_ret1 ok rl h1
  obtain ⟨⟨b1, b2, b3, b4, b5, b6, b7⟩, -⟩ := ok
  exact ⟨C2, qo_popO k1 h1 hS (qx_sb_lt (by omega) b3), qo_popR k1 k2 h1 hS⟩
/-! what the reference's steps do to its other cells -/
theorem qx_mtl_o {t u : wm} {D f T : Nat} {kd cu : Int32} {c y : Nat} (h : c ≠ 1) (hu : u c y = t c y) : qx_mtl t u D f T kd cu c y = t c y := by
  unfold qx_mtl
  by_cases hc : cu = -9
  · rw [if_pos hc]
    simp (disch := omega) only [qw_u2_n, hu]
  · rw [if_neg hc]
    simp (disch := omega) only [qw_u2_n, hu]
theorem qx_mtell_o {t : wm} {C f T : Nat} {kd cu : Int32} {c y : Nat} (h : c ≠ 1) : qx_mtell t C f T kd cu c y = t c y := by
  unfold qx_mtell
  split
  · refine qx_mtl_o h ?_
    rw [qw_u2_n _ _ (by omega)]
    exact if_neg (fun q => h q.1)
  · exact qx_mtl_o h rfl
theorem qx_mret1_o {t : wm} {H T C : Nat} {c y : Nat} (h : c ≠ 1) : qx_mret1 t H T C c y = t c y := by
  unfold qx_mret1
  split
  · simp (disch := omega) only [qw_u2_n]
  · split
    · simp (disch := omega) only [qw_u2_n]
    · split
      · rw [qx_mtell_o h, qw_u2_n _ _ (by omega)]
      · rw [qx_mtell_o h, qw_u2_n _ _ (by omega)]
theorem qx_mr_o {t : wm} {T Z H S C : Nat} {c y : Nat} (h : c ≠ 1) : qx_mr t T Z H S C c y = t c y := by
  unfold qx_mr qx_mpop qx_notes
  simp (disch := omega) only [qw_u2_n, qx_mret1_o]
theorem qx_mx_o {t : wm} {T Z H S n : Nat} {c y : Nat} (h : c ≠ 1) : qx_mx t T Z H S n c y = t c y := by
  unfold qx_mx qx_notes
  simp (disch := omega) only [qw_u2_n]
theorem qx_mt_o {t : wm} {H S f : Nat} {c y : Nat} (h : c ≠ 1) : qx_mt t H S f c y = t c y := by
  unfold qx_mt qx_notes
  simp (disch := omega) only [qw_u2_n]
theorem qx_mcall_o {t : wm} {H S N T2 : Nat} {fn a : Int32} {c y : Nat} (h : c ≠ 1) : qx_mcall t H S N T2 fn a c y = t c y := by
  unfold qx_mcall qx_notes
  simp (disch := omega) only [qw_u2_n, qx_mov_n]
/-! the reference's steps behind acts -/
theorem qm_retE {t : wm} {T Z H S C N : Nat} {m : wm} (ok : qs_ok m T Z H S C N) (rl : qs_rel m (t 1) H S C N) (h1 : 1 ≤ H) (hS : S < 200) :
    (qb2 (qf_X3_returns t) fun r7 m9 => qn (m9 1 0) fun z10 => qn (z10 - (nI 1)) fun z11 => qn (qw_u2 m9 1 0 z11) fun m12 => qn (m12 1 12) fun z13 => qn (m12 1 11) fun z14 => qb1 (qf_X3_back z13 (nI 1) z14) fun r15 => qn (qw_u2 m12 1 12 r15) fun m17 => qb1 (qf_X3_notes (nI 2) (nI 0) m17) fun m19 => some (r7, m19)) = some (nI (qx_oc m H T), qx_mr t T Z H S C) := by
  obtain ⟨C2, k1, k2⟩ := qo_ret1 ok rl h1
  have hoc := qo_oc (T := T) rl h1 (by have := ok.1; omega)
  obtain ⟨⟨b1, b2, b3, b4, b5, b6, b7⟩, ⟨e1, e2, e3, e5, e6, eN, er⟩, okF, okS, -⟩ := ok
  obtain ⟨⟨r0, r1, r2, r3, r4, r5, r6, r7, r8, r9, r10, r11, r12, r13, r14⟩, rF, rS, -, -, -⟩ := rl
  obtain ⟨⟨p0, p1, -, -, -, -, -, -, -, -, -, p11, p12, -, -⟩, -⟩ := k2
  obtain ⟨-, ⟨k11, k12, k13, k15, -⟩, -⟩ := k1
  have hby : t 1 (15 + 5 * (H - 1) + 4) = -9 ∨ ∃ q : Nat, t 1 (15 + 5 * (H - 1) + 4) = nI q ∧ q < 200 := by
    have f4 : t 1 (15 + 5 * (H - 1) + 4) = m 12 (H - 1) := rF (H - 1) 4 (by omega) (by decide)
    rw [f4]
    rcases (okF (H - 1) (by omega)).2.1 with h | ⟨q, h, hq⟩
    · exact Or.inl h
    · exact Or.inr ⟨q, h, by omega⟩
  have hsl : t 1 (215 + 3 * T + 0) = -9 ∨ ∃ q : Nat, t 1 (215 + 3 * T + 0) = nI q ∧ q < 200 := by
    have s0 : t 1 (215 + 3 * T + 0) = m 13 T := rS T 0 (by omega) (by decide)
    rw [s0]
    rcases okS T (by omega) with h | ⟨q, h, hq⟩
    · exact Or.inl h
    · exact Or.inr ⟨q, h, by omega⟩
  have p0 : qx_mret1 t H T C 1 0 = nI H := p0.trans k13
  have p1 : qx_mret1 t H T C 1 1 = nI S := p1.trans k15
  have p11 : qx_mret1 t H T C 1 11 = nI Z := p11.trans k11
  have p12 : qx_mret1 t H T C 1 12 = nI T := p12.trans k12
  have hbk : (T + Z * 40 - 1) % Z = qx_sb Z T := by
    have := qx_back_sb (x := T) b2 (by omega) b3 0 (by omega)
    rw [this]
    congr 1
    exact (Nat.add_mul_mod_self_left T Z 40).trans (Nat.mod_eq_of_lt b3)
  rw [qm_returns (r0.trans e3) h1 b4 (r12.trans e2) (by omega) (r10.trans e6) b6 hby hsl, qa_t2, hoc]
  have hb : qf_X3_back (nI T) (nI 1) (nI Z) = some (nI (qx_sb Z T)) := by rw [qm_back (by omega) (by omega) (by omega) b2, hbk]
  have hn : ∀ w : wm, w 1 1 = nI S → qf_X3_notes (nI 2) (nI 0) w = some (qx_notes w S 2 (nI 0)) := fun w hw => qm_notes hw hS (by decide)
  simp (disch := omega) only [qn_e, p0, p12, p11, qa_sub, qw_u2_n, hb, qa_t1]
  rw [hn _ (by simp (disch := omega) only [qw_u2_n]; exact p1), qa_t1]
  rfl
