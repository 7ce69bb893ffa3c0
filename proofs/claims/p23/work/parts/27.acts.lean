/-! what the class's methods do -/
theorem qd_call {M : wM} {h : Nat → Nat} {T Z H S C N f a : Nat} (J : qd_J M h) (ok : qs_ok (M 0) T Z H S C N) (hH : H < 40) (hS : S < 60) (hf : f ≤ 15) (ha : a ≤ 999) : qd_A (qf_X2_call (nI f) (nI a) M h) M (nI N) (qx_c (M 0) T Z H S N f a) := by
  have hN : N ≤ S := ok.1.2.2.2.2.2.2
  unfold qf_X2_call
  exact qd_A3 (qd_act J (by omega) (qo_callT ok hH (by omega) hf ha))
theorem qd_tail1 {M : wM} {h : Nat → Nat} {T Z H S C N f b : Nat} (J : qd_J M h) (ok : qs_ok (M 0) T Z H S C N) (h1 : 1 ≤ H) (hS : S < 60) (hf : f ≤ 15) (hb : b < 16) (eb : M 0 9 (H - 1) = nI b) : qd_A (qf_X2_tail (nI f) M h) M (nI b) (qx_t (M 0) H S f) := by
  unfold qf_X2_tail
  refine qd_A3 (qd_act J (by omega) ?_)
  rw [← eb]
  exact qo_tailT ok h1 (by omega) hf
theorem qd_ret {M : wM} {h : Nat → Nat} {T Z H S C N : Nat} (J : qd_J M h) (ok : qs_ok (M 0) T Z H S C N) (h1 : 1 ≤ H) (hS : S < 60) : qd_A (qf_X2_ret M h) M (nI (qx_oc (M 0) H T)) (qx_r (M 0) T Z H S C) := by
  have := qx_oc_lt (M 0) H T
  unfold qf_X2_ret
  exact qd_A3 (qd_act J (by omega) (qo_retT ok h1 (by omega)))
theorem qd_raise {M : wM} {h : Nat → Nat} {T Z H S C N n : Nat} (J : qd_J M h) (ok : qs_ok (M 0) T Z H S C N) (h1 : 1 ≤ n) (h2 : n ≤ H) (hS : S < 60) : qd_A (qf_X2_raise (nI n) M h) M (nI (H - n)) (qx_x (M 0) T Z H S n) := by
  have hH : H ≤ 40 := ok.1.2.2.2.1
  unfold qf_X2_raise
  exact qd_A3 (qd_act J (by omega) (qo_throwT ok h1 h2 (by omega)))
theorem qd_rep {M : wM} {h : Nat → Nat} {r : Nat} (J : qd_J M h) (hr : r ≤ 1) : qd_A (qf_X2_setRepair (nI r) M h) M (M 0 0 0) (qw_u2 (M 0) 0 0 (nI r)) := by
  obtain ⟨M', h', c1, c2, c3⟩ := qd_rec (o := 0) (by decide) J
  refine ⟨qw_u1 M' 0 (qw_u2 (M' 0) 0 0 (nI r)), h', ?_, ?_, ?_, qd_J_cg (qw_u1_n _ _ (by decide)) c3⟩
  · unfold qf_X2_setRepair
    simp (disch := omega) only [qa_l0, qa_le, if_false, ↓reduceIte]
    rw [if_pos hr, c1, qa_t2, qn_e, qn_e, c2 0 (by decide)]
  · rw [qw_u1_s, c2 0 (by decide)]
  · rw [qw_u1_n _ _ (by decide), c2 9 (by decide)]
theorem qd_begin {M : wM} {h : Nat → Nat} {Z : Nat} (J : qd_J M h) (h1 : 2 ≤ Z) (h2 : Z ≤ 16) : qd_A (qf_X2_begin (nI Z) M h) M (M 0 0 1) (qx_new Z (M 0)) := by
  obtain ⟨M', h', c1, c2, c3⟩ := qd_rec (o := 0) (by decide) J
  refine ⟨qw_u1 M' 0 (qx_new Z (M' 0)), h', ?_, ?_, ?_, qd_J_cg (qw_u1_n _ _ (by decide)) c3⟩
  · unfold qf_X2_begin
    rw [qe_isSizeT h1 h2, qa_t1, if_neg (show ¬ nI 1 = 0 by decide), c1, qa_t2, qn_e, c2 0 (by decide), qe_new h1 h2, qa_t1, qn_e]
  · rw [qw_u1_s, c2 0 (by decide)]
  · rw [qw_u1_n _ _ (by decide), c2 9 (by decide)]
/-! refusals -/
theorem qd_callF {M : wM} {h : Nat → Nat} {T Z S C N f a : Nat} (J : qd_J M h) (ok : qs_ok (M 0) T Z 40 S C N) (hS : S < 60) (hf : f ≤ 15) (ha : a ≤ 999) : qd_A (qf_X2_call (nI f) (nI a) M h) M (-3) (M 0) := by
  obtain ⟨⟨b1, b2, b3, b4, b5, b6, b7⟩, ⟨e1, e2, e3, e5, e6, eN, er⟩, -⟩ := ok
  unfold qf_X2_call
  refine qd_A3 (qd_actE3 J (by decide) (qe_takeE ?_ (by decide)))
  unfold qf_X0_errorOf qf_X0_isNumberFor qf_X0_framesNeeded
  simp (disch := omega) only [qa_l0, qa_lt, qa_le, qa_eq, qa_e0, qn_e, qa_t1, e3, e5, if_pos, if_neg, ↓reduceIte]
theorem qd_tailF {M : wM} {h : Nat → Nat} {T Z S C N f : Nat} (J : qd_J M h) (ok : qs_ok (M 0) T Z 0 S C N) (hS : S < 60) (hf : f ≤ 15) : qd_A (qf_X2_tail (nI f) M h) M (-2) (M 0) := by
  obtain ⟨⟨b1, b2, b3, b4, b5, b6, b7⟩, ⟨e1, e2, e3, e5, e6, eN, er⟩, -⟩ := ok
  unfold qf_X2_tail
  refine qd_A3 (qd_actE3 J (by decide) (qe_takeE ?_ (by decide)))
  unfold qf_X0_errorOf qf_X0_isNumberFor qf_X0_framesNeeded
  simp (disch := omega) only [qa_l0, qa_lt, qa_le, qa_eq, qa_e0, qn_e, qa_t1, e3, e5, if_pos, if_neg, ↓reduceIte]
theorem qd_retF {M : wM} {h : Nat → Nat} {T Z S C N : Nat} (J : qd_J M h) (ok : qs_ok (M 0) T Z 0 S C N) (hS : S < 60) : qd_A (qf_X2_ret M h) M (-2) (M 0) := by
  obtain ⟨⟨b1, b2, b3, b4, b5, b6, b7⟩, ⟨e1, e2, e3, e5, e6, eN, er⟩, -⟩ := ok
  unfold qf_X2_ret
  refine qd_A3 (qd_actE3 J (by decide) (qe_takeE ?_ (by decide)))
  unfold qf_X0_errorOf qf_X0_isNumberFor qf_X0_framesNeeded
  simp (disch := omega) only [qa_l0, qa_lt, qa_le, qa_eq, qa_e0, qn_e, qa_t1, e3, e5, if_pos, if_neg, ↓reduceIte]
theorem qd_raiseF {M : wM} {h : Nat → Nat} {T Z H S C N n : Nat} (J : qd_J M h) (ok : qs_ok (M 0) T Z H S C N) (h1 : 1 ≤ n) (h2 : H < n) (h3 : n ≤ 40) : qd_A (qf_X2_raise (nI n) M h) M (-2) (M 0) := by
  obtain ⟨⟨b1, b2, b3, b4, b5, b6, b7⟩, ⟨e1, e2, e3, e5, e6, eN, er⟩, -⟩ := ok
  unfold qf_X2_raise
  refine qd_A3 (qd_actE3 J (by decide) (qe_takeE ?_ (by decide)))
  unfold qf_X0_errorOf qf_X0_isNumberFor qf_X0_framesNeeded
  simp (disch := omega) only [qa_l0, qa_lt, qa_le, qa_eq, qa_e0, qn_e, qa_t1, e3, e5, if_pos, if_neg, ↓reduceIte]
theorem qd_raiseB {M : wM} {h : Nat → Nat} {n : Nat} (J : qd_J M h) (hn : n = 0 ∨ n = 41) : qd_A (qf_X2_raise (nI n) M h) M (-1) (M 0) := by
  unfold qf_X2_raise
  refine qd_A3 (qd_actE3 J (by decide) (qe_takeE ?_ (by decide)))
  unfold qf_X0_errorOf qf_X0_isNumberFor qf_X0_framesNeeded
  simp (disch := omega) only [qa_l0, qa_lt, qa_le, qa_eq, qa_e0, qn_e, qa_t1, if_pos, if_neg, ↓reduceIte]
  rcases hn with rfl | rfl
  · simp (disch := omega) only [qa_l0, qa_lt, qa_le, qa_eq, qa_e0, qn_e, qa_t1, if_pos, if_neg, ↓reduceIte]
  · simp (disch := omega) only [qa_l0, qa_lt, qa_le, qa_eq, qa_e0, qn_e, qa_t1, if_pos, if_neg, ↓reduceIte]
theorem qd_callB {M : wM} {h : Nat → Nat} {f a : Nat} (J : qd_J M h) (hn : (f = 16 ∧ a = 0) ∨ (f = 0 ∧ a = 1000)) : qd_A (qf_X2_call (nI f) (nI a) M h) M (-1) (M 0) := by
  unfold qf_X2_call
  refine qd_A3 (qd_actE3 J (by decide) (qe_takeE ?_ (by decide)))
  unfold qf_X0_errorOf qf_X0_isNumberFor qf_X0_framesNeeded
  rcases hn with ⟨rfl, rfl⟩ | ⟨rfl, rfl⟩
  · simp (disch := omega) only [qa_l0, qa_lt, qa_le, qa_eq, qa_e0, qn_e, qa_t1, if_pos, if_neg, ↓reduceIte]
  · simp (disch := omega) only [qa_l0, qa_lt, qa_le, qa_eq, qa_e0, qn_e, qa_t1, if_pos, if_neg, ↓reduceIte]
theorem qd_tailB {M : wM} {h : Nat → Nat} (J : qd_J M h) : qd_A (qf_X2_tail (-1) M h) M (-1) (M 0) := by
  unfold qf_X2_tail
  refine qd_A3 (qd_actE3 J (by decide) (qe_takeE ?_ (by decide)))
  unfold qf_X0_errorOf
  rw [if_pos (by decide)]
theorem qd_beginB {M : wM} {h : Nat → Nat} {n : Nat} (hn : n = 1 ∨ n = 17) : qf_X2_begin (nI n) M h = some (-1, M, h) := by
  unfold qf_X2_begin
  rw [qe_isSizeF (by rcases hn with rfl | rfl <;> decide), qa_t1, if_pos (show nI 0 = 0 from rfl)]
theorem qd_repB {M : wM} {h : Nat → Nat} : qf_X2_setRepair (nI 2) M h = some (-1, M, h) := by
  unfold qf_X2_setRepair
  rw [if_neg (by decide), if_neg (by decide)]
/-! the law's setRepair and begin -/
theorem ql_rep {m t : wm} {T Z H S C N K r : Nat} (R : qd_rel m t T Z H S C N K) (hr : r ≤ 1) : qd_rel (qw_u2 m 0 0 (nI r)) (qw_u2 t 1 14 (nI r)) T Z H S C N K := by
  obtain ⟨ok, hK, G, F, Sl, Cf, Nm⟩ := R
  obtain ⟨g0, g1, g2, g3, g4, g5, g6, g7, g8, g9, g10, g11, g12, g13, g14⟩ := G
  refine ⟨?_, hK, ⟨?_, ?_, ?_, ?_, ?_, ?_, ?_, ?_, ?_, ?_, ?_, ?_, ?_, ?_, ?_⟩, ?_, ?_, ?_, ?_⟩
  · obtain ⟨b, ⟨e1, e2, e3, e5, e6, eN, er⟩, okF, okS, okN, v1, v2⟩ := ok
    refine ⟨b, ⟨?_, ?_, ?_, ?_, ?_, ?_, ?_⟩, ?_, ?_, ?_, ?_, ?_⟩
    · rw [qw_u2_n _ _ (by decide), e1]
    · rw [qw_u2_n _ _ (by decide), e2]
    · rw [qw_u2_n _ _ (by decide), e3]
    · rw [qw_u2_n _ _ (by decide), e5]
    · rw [qw_u2_n _ _ (by decide), e6]
    · rw [qw_u2_n _ _ (by decide), eN]
    · rw [qw_u2_s]
      rcases (show r = 0 ∨ r = 1 by omega) with rfl | rfl
      · exact Or.inl rfl
      · exact Or.inr rfl
    · intro i hi
      rw [qw_u2_n _ _ (by omega), qw_u2_n _ _ (by omega), qw_u2_n _ _ (by omega)]
      exact okF i hi
    · intro i hi
      rw [qw_u2_n _ _ (by omega)]
      exact okS i hi
    · intro i hi h2
      rw [qw_u2_n _ _ (by omega)]
      exact okN i hi h2
    · intro i hi
      rw [qs_hg_cg i (m := m) (fun j _ => ⟨qw_u2_n _ _ (by omega), qw_u2_n _ _ (by omega)⟩)]
      exact qs_step_cg (qw_u2_n _ _ (by omega)) (qw_u2_n _ _ (by omega)) (qw_u2_n _ _ (by omega)) (v1 i hi)
    · rw [qs_hg_cg S (m := m) (fun j _ => ⟨qw_u2_n _ _ (by omega), qw_u2_n _ _ (by omega)⟩)]
      exact v2
  · rw [qw_u2_n _ _ (by decide), qw_u2_n _ _ (by decide), g0]
  · rw [qw_u2_n _ _ (by decide), qw_u2_n _ _ (by decide), g1]
  · rw [qw_u2_n _ _ (by decide), qw_u2_n _ _ (by decide), g2]
  · rw [qw_u2_n _ _ (by decide), qw_u2_n _ _ (by decide), g3]
  · rw [qw_u2_n _ _ (by decide), qw_u2_n _ _ (by decide), g4]
  · rw [qw_u2_n _ _ (by decide), qw_u2_n _ _ (by decide), g5]
  · rw [qw_u2_n _ _ (by decide), qw_u2_n _ _ (by decide), qw_u2_n _ _ (by decide), g6]
  · rw [qw_u2_n _ _ (by decide), qw_u2_n _ _ (by decide), g7]
  · rw [qw_u2_n _ _ (by decide), qw_u2_n _ _ (by decide), g8]
  · rw [qw_u2_n _ _ (by decide), qw_u2_n _ _ (by decide), g9]
  · rw [qw_u2_n _ _ (by decide), g10]
  · rw [qw_u2_n _ _ (by decide), qw_u2_n _ _ (by decide), g11]
  · rw [qw_u2_n _ _ (by decide), qw_u2_n _ _ (by decide), g12]
  · rw [qw_u2_n _ _ (by decide), qw_u2_n _ _ (by decide), g13]
  · rw [qw_u2_s, qw_u2_s]
  · exact qd_F_cg (Nat.le_refl _) (fun x y _ _ => qw_u2_n _ _ (by omega)) (qw_u2_c _ _ (by decide)) F
  · exact qd_S_cg (fun x y _ _ => qw_u2_n _ _ (by omega)) (fun y => qw_u2_n _ _ (by omega)) Sl
  · exact qd_C_cg (fun x y _ _ => qw_u2_n _ _ (by omega)) (qw_u2_c _ _ (by decide)) Cf
  · exact qd_N_cg (Nat.le_refl _) (fun y => qw_u2_n _ _ (by omega)) (fun y => qw_u2_n _ _ (by omega)) (qw_u2_n _ _ (by omega)) (fun y => qw_u2_n _ _ (by omega)) Nm
def ql_f0 (i : Nat) (t : wm) : wm := fun x y => if x = 1 ∧ i ≤ y ∧ y < 15 then nI 0 else t x y
def ql_f1 (i : Nat) (t : wm) : wm := fun x y => if x = 3 ∧ i ≤ y ∧ y < 48 then (if y % 3 = 2 then nI 0 else -9) else t x y
theorem ql_fresh_8 {x2 x3 : Int32} : ∀ (d n i : Nat) (t : wm), i ≤ 15 → 15 - i = d → d < n →
    qf_L_fresh_8 n x2 x3 (nI i) t = qf_L_fresh_26 x2 x3 (ql_f0 i t) := by
  intro d
  induction d with
  | zero =>
    intro n i t hi hd hn
    obtain ⟨n, rfl⟩ : ∃ k, n = k + 1 := ⟨n - 1, by omega⟩
    rw [qf_L_fresh_8]
    simp (disch := omega) only [qa_le]
    rw [if_pos (by omega)]
    congr 1
    funext x y
    unfold ql_f0
    rw [if_neg (by omega)]
  | succ d ih =>
    intro n i t hi hd hn
    obtain ⟨n, rfl⟩ : ∃ k, n = k + 1 := ⟨n - 1, by omega⟩
    rw [qf_L_fresh_8]
    simp (disch := omega) only [qa_le, qn_e, qa_g, qa_cl, nI_add]
    rw [if_neg (by omega), ih n (i + 1) _ (by omega) (by omega) (by omega)]
    congr 1
    funext x y
    unfold ql_f0
    by_cases g : x = 1 ∧ y = i
    · rw [if_neg (by omega), if_pos (by omega), qw_u2_e _ _ g.1 g.2]
    · by_cases g2 : x = 1 ∧ i ≤ y ∧ y < 15
      · rw [if_pos (by omega), if_pos g2]
      · rw [if_neg (by omega), if_neg g2, qw_u2_n _ _ g]
theorem ql_fresh_46 : ∀ (d n i : Nat) (t : wm), i ≤ 48 → 48 - i = d → d < n → qf_L_fresh_46 n (nI i) t = some (ql_f1 i t) := by
  intro d
  induction d with
  | zero =>
    intro n i t hi hd hn
    obtain ⟨n, rfl⟩ : ∃ k, n = k + 1 := ⟨n - 1, by omega⟩
    rw [qf_L_fresh_46]
    simp (disch := omega) only [qa_le]
    rw [if_pos (by omega)]
    congr 1
    funext x y
    unfold ql_f1
    rw [if_neg (by omega)]
  | succ d ih =>
    intro n i t hi hd hn
    obtain ⟨n, rfl⟩ : ∃ k, n = k + 1 := ⟨n - 1, by omega⟩
    have fin : ∀ v : Int32, v = (if i % 3 = 2 then nI 0 else -9) → ql_f1 (i + 1) (qw_u2 t 3 i v) = ql_f1 i t := by
      intro v hv
      funext x y
      unfold ql_f1
      by_cases g : x = 3 ∧ y = i
      · rw [if_neg (by omega), if_pos (by omega), qw_u2_e _ _ g.1 g.2, hv, g.2]
      · by_cases g2 : x = 3 ∧ i ≤ y ∧ y < 48
        · rw [if_pos (by omega), if_pos g2]
        · rw [if_neg (by omega), if_neg g2, qw_u2_n _ _ g]
    rw [qf_L_fresh_46]
    simp (disch := omega) only [qa_le, qn_e, qa_g, qa_cl, nI_add, qa_rem, qa_eq]
    rw [if_neg (by omega)]
    by_cases g : i % 3 = 2
    · rw [if_pos g, ih n (i + 1) _ (by omega) (by omega) (by omega), fin _ (by rw [if_pos g])]
    · rw [if_neg g, ih n (i + 1) _ (by omega) (by omega) (by omega), fin _ (by rw [if_neg g])]
def ql_fr (Z : Nat) (t : wm) : wm := ql_f1 0 (qw_u2 (qw_u2 (qw_u2 (ql_f0 0 t) 1 14 (t 1 14)) 1 11 (nI Z)) 1 12 (nI (Z - 1)))
theorem ql_fresh {Z : Nat} {t : wm} (h1 : 2 ≤ Z) (h2 : Z ≤ 16) : qf_L_fresh (nI Z) t = some (ql_fr Z t) := by
  unfold qf_L_fresh
  rw [qn_e, ql_fresh_8 15 qfu 0 t (by omega) (by omega) (by unfold qfu; omega)]
  unfold qf_L_fresh_26
  rw [qn_e, qn_e, qn_e, qa_sub (by omega), qn_e, ql_fresh_46 48 qfu 0 _ (by omega) (by omega) (by unfold qfu; omega)]
  rfl
theorem ql_fr_1 {Z : Nat} {t : wm} {y : Nat} : ql_fr Z t 1 y = if y = 12 then nI (Z - 1) else if y = 11 then nI Z else if y = 14 then t 1 14 else if y < 15 then nI 0 else t 1 y := by
  unfold ql_fr ql_f1
  rw [if_neg (by omega)]
  simp only [qw_u2_at, true_and]
  unfold ql_f0
  simp only [true_and, Nat.zero_le]
theorem ql_fr_3 {Z : Nat} {t : wm} {y : Nat} (hy : y < 48) : ql_fr Z t 3 y = if y % 3 = 2 then nI 0 else -9 := by
  unfold ql_fr ql_f1
  rw [if_pos ⟨rfl, Nat.zero_le _, hy⟩]
theorem ql_begin {m t : wm} {Z : Nat} (h1 : 2 ≤ Z) (h2 : Z ≤ 16) (e14 : t 1 14 = m 0 0) (er : m 0 0 = nI 0 ∨ m 0 0 = nI 1) : qd_rel (qx_new Z m) (ql_fr Z t) (Z - 1) Z 0 0 0 0 0 := by
  have F := qx_new_f (m := m) (Z := Z)
  have ok := qv_freshO h1 h2 er F
  obtain ⟨⟨f0, f1, f2, f3, f4, f5, f6⟩, k1, k2, k3, k13, k14, k15⟩ := F
  refine ⟨ok, Nat.le_refl _, ⟨?_, ?_, ?_, ?_, ?_, ?_, ?_, ?_, ?_, ?_, ?_, ?_, ?_, ?_, ?_⟩, ?_, ?_, ?_, ?_⟩
  · rw [ql_fr_1, f3]; rfl
  · rw [ql_fr_1, f5]; rfl
  · rw [ql_fr_1, k1 _ (by decide)]; rfl
  · rw [ql_fr_1, k1 _ (by decide)]; rfl
  · rw [ql_fr_1, k1 _ (by decide)]; rfl
  · rw [ql_fr_1, k1 _ (by decide)]; rfl
  · rw [ql_fr_1, k2 _ (by decide), k2 _ (by decide)]; rfl
  · rw [ql_fr_1, k2 _ (by decide)]; rfl
  · rw [ql_fr_1, k2 _ (by decide)]; rfl
  · rw [ql_fr_1, k2 _ (by decide)]; rfl
  · rw [ql_fr_1]; rfl
  · rw [ql_fr_1, f1]; rfl
  · rw [ql_fr_1, f2]; rfl
  · rw [ql_fr_1, f4]; rfl
  · rw [ql_fr_1, f0, ← e14]; rfl
  · intro i hi
    omega
  · intro k hk
    refine ⟨?_, ?_, ?_, 0, by omega, ?_⟩
    · rw [ql_fr_3 (by omega), if_neg (by omega), k13 k hk]
    · rw [ql_fr_3 (by omega), if_neg (by omega), k14 k hk]
    · rw [ql_fr_3 (by omega), if_pos (by omega), k15 k hk]
    · rw [k14 k hk]; decide
  · refine ⟨rfl, fun j hj => ?_⟩
    omega
  · exact ⟨fun _ => 0, 0, 0, 0, 0, fun k hk => by omega, k2 _ (by decide), k2 _ (by decide), k2 _ (by decide), k2 _ (by decide), k1 _ (by decide), Nat.le_refl _, Nat.le_refl _, Nat.le_refl _⟩
