theorem qs_R_rep {m : wm} {s s' : Nat → Int32} {r : Nat} (hr : r ≤ 1) (R : qs_R m s) (h : ∀ k : Nat, s' k = if k = 14 then nI r else s k) : qs_R (qw_u2 m 0 0 (nI r)) s' := by
  obtain ⟨T, Z, H, S, C, N, ok, rl⟩ := R
  have hn : ∀ k : Nat, k ≠ 14 → s' k = s k := fun k hk => by rw [h, if_neg hk]
  refine ⟨T, Z, H, S, C, N, ?_, ?_⟩
  · obtain ⟨b, ⟨e1, e2, e3, e5, e6, eN, er⟩, okF, okS, okN, v1, v2⟩ := ok
    refine ⟨b, ⟨?_, ?_, ?_, ?_, ?_, ?_, ?_⟩, ?_, ?_, ?_, ?_, ?_⟩
    · rw [qw_u2_n _ _ (by decide), e1]
    · rw [qw_u2_n _ _ (by decide), e2]
    · rw [qw_u2_n _ _ (by decide), e3]
    · rw [qw_u2_n _ _ (by decide), e5]
    · rw [qw_u2_n _ _ (by decide), e6]
    · rw [qw_u2_n _ _ (by decide), eN]
    · rw [qw_u2_s]
      rcases (show r = 0 ∨ r = 1 by omega) with rfl | rfl
      · exact Or.inl rfl
      · exact Or.inr rfl
    · intro i hi
      rw [qw_u2_n _ _ (by omega), qw_u2_n _ _ (by omega), qw_u2_n _ _ (by omega)]
      exact okF i hi
    · intro i hi
      rw [qw_u2_n _ _ (by omega)]
      exact okS i hi
    · intro i hi h2
      rw [qw_u2_n _ _ (by omega)]
      exact okN i hi h2
    · intro i hi
      rw [qs_hg_cg i (m := m) (fun j _ => ⟨qw_u2_n _ _ (by omega), qw_u2_n _ _ (by omega)⟩)]
      exact qs_step_cg (qw_u2_n _ _ (by omega)) (qw_u2_n _ _ (by omega)) (qw_u2_n _ _ (by omega)) (v1 i hi)
    · rw [qs_hg_cg S (m := m) (fun j _ => ⟨qw_u2_n _ _ (by omega), qw_u2_n _ _ (by omega)⟩)]
      exact v2
  · obtain ⟨⟨b1, b2, b3, b4, b5, b6, b7⟩, -⟩ := ok
    obtain ⟨⟨r0, r1, r2, r3, r4, r5, r6, r7, r8, r9, r10, r11, r12, r13, r14⟩, rF, rS, rT, rP, rN⟩ := rl
    refine ⟨⟨?_, ?_, ?_, ?_, ?_, ?_, ?_, ?_, ?_, ?_, ?_, ?_, ?_, ?_, ?_⟩, ?_, ?_, ?_, ?_, ?_⟩
    · rw [hn _ (by decide), qw_u2_n _ _ (by decide), r0]
    · rw [hn _ (by decide), qw_u2_n _ _ (by decide), r1]
    · rw [hn _ (by decide), qw_u2_n _ _ (by decide), r2]
    · rw [hn _ (by decide), qw_u2_n _ _ (by decide), r3]
    · rw [hn _ (by decide), qw_u2_n _ _ (by decide), r4]
    · rw [hn _ (by decide), qw_u2_n _ _ (by decide), r5]
    · rw [hn _ (by decide), qw_u2_n _ _ (by decide), qw_u2_n _ _ (by decide), r6]
    · rw [hn _ (by decide), qw_u2_n _ _ (by decide), r7]
    · rw [hn _ (by decide), qw_u2_n _ _ (by decide), r8]
    · rw [hn _ (by decide), qw_u2_n _ _ (by decide), r9]
    · rw [hn _ (by decide), qw_u2_n _ _ (by decide), r10]
    · rw [hn _ (by decide), qw_u2_n _ _ (by decide), r11]
    · rw [hn _ (by decide), qw_u2_n _ _ (by decide), r12]
    · rw [hn _ (by decide), qw_u2_n _ _ (by decide), r13]
    · rw [h, if_pos rfl, qw_u2_s]
    · intro k w hk hw
      rw [hn _ (by omega), qw_u2_n _ _ (by omega), rF k w hk hw]
    · intro k w hk hw
      rw [hn _ (by omega), qw_u2_n _ _ (by omega), rS k w hk hw]
    · intro j w hj hw
      rw [hn _ (by omega), qw_u2_n _ _ (by omega), rT j w hj hw]
    · intro k hk
      rw [hn _ (by omega), hn _ (by omega), qw_u2_n _ _ (by omega), qw_u2_n _ _ (by omega), qw_u2_n _ _ (by omega)]
      exact rP k hk
    · intro k hk
      rw [hn _ (by omega), qw_u2_n _ _ (by omega), rN k hk]
theorem qs_R14 {m : wm} {s : Nat → Int32} (R : qs_R m s) : s 14 = m 0 0 ∧ s 11 = m 0 1 ∧ (m 0 0 = nI 0 ∨ m 0 0 = nI 1) := by
  obtain ⟨T, Z, H, S, C, N, ok, rl⟩ := R
  obtain ⟨b, ⟨e1, e2, e3, e5, e6, eN, er⟩, -⟩ := ok
  obtain ⟨⟨r0, r1, r2, r3, r4, r5, r6, r7, r8, r9, r10, r11, r12, r13, r14⟩, -⟩ := rl
  exact ⟨r14, r11, er⟩
theorem qk_setRepair {M : wM} {h : Nat → Nat} {t : wm} (I : qv_I M h t) (x1 : Int32) : qv_S (qf_X2_setRepair x1 M h) (qf_X3_setRepair x1 t) M := by
  rcases qa_rng x1 1 (by decide) with ⟨q, hq, eq⟩ | hx | hx
  · subst eq
    obtain ⟨M', h', ta, c1, c2, c3, c4, c5, c6⟩ := qk_edit I
    obtain ⟨e14, -, -⟩ := qs_R14 (qk_R I)
    refine ⟨M 0 0 0, qw_u1 M' 0 (qw_u2 (M' 0) 0 0 (nI q)), h', qw_u2 ta 1 14 (nI q), ?_, ?_, ?_, ?_⟩
    · unfold qf_X2_setRepair
      simp (disch := omega) only [qa_l0, qa_le, if_false, ↓reduceIte]
      rw [if_pos hq, c1, qa_t2, qn_e, qn_e, c3]
    · unfold qf_X3_setRepair
      rw [qm_inT (by omega) hq (by decide), qa_t1, if_neg (show ¬ nI 1 = 0 by decide), c2, qa_t1, qn_e, qn_e, c4, e14]
    · refine c6 _ _ (fun c hc => funext fun y => qw_u2_n _ _ (by omega)) ?_
      rw [c3]
      refine qs_R_rep hq (qk_R I) (fun k => ?_)
      by_cases hk : k = 14
      · subst hk
        rw [qw_u2_s, if_pos rfl]
      · rw [qw_u2_n _ _ (by omega), if_neg hk, c4]
    · rw [qw_u1_n _ _ (by decide), c5]
  · refine ⟨-1, M, h, t, ?_, ?_, I, rfl⟩
    · unfold qf_X2_setRepair
      rw [if_pos hx]
    · unfold qf_X3_setRepair
      rw [qm_inF (Or.inl hx), qa_t1, if_pos (show nI 0 = 0 from rfl)]
  · refine ⟨-1, M, h, t, ?_, ?_, I, rfl⟩
    · unfold qf_X2_setRepair
      rw [if_neg (qa_gtn (by decide) hx), if_neg (by rw [qa_le_iff]; rw [qa_lt_iff] at hx; omega)]
    · unfold qf_X3_setRepair
      rw [qm_inF (Or.inr hx), qa_t1, if_pos (show nI 0 = 0 from rfl)]
theorem qe_isSizeT {Z : Nat} (h1 : 2 ≤ Z) (h2 : Z ≤ 16) : qf_X2_isSize (nI Z) = some (nI 1) := by
  unfold qf_X2_isSize
  simp (disch := omega) only [qa_lt]
  rw [if_neg (by omega), if_neg (by omega)]
theorem qe_isSizeF {x : Int32} (h : x < nI 2 ∨ nI 16 < x) : qf_X2_isSize x = some (nI 0) := by
  unfold qf_X2_isSize
  rcases h with h | h
  · rw [if_pos h]
  · by_cases h2 : x < nI 2
    · rw [if_pos h2]
    · rw [if_neg h2, if_pos h]
theorem qa_rng2 (x : Int32) {a n : Nat} (ha : a < 2147483648) (hn : n < 2147483648) : (∃ q : Nat, a ≤ q ∧ q ≤ n ∧ x = nI q) ∨ x < nI a ∨ nI n < x := by
  rcases qa_rng x n hn with ⟨q, hq, eq⟩ | h | h
  · by_cases g : a ≤ q
    · exact Or.inl ⟨q, g, hq, eq⟩
    · refine Or.inr (Or.inl ?_)
      rw [eq, qa_lt (by omega) (by omega)]
      omega
  · refine Or.inr (Or.inl ?_)
    rw [qa_lt_iff] at h ⊢
    rw [qa_ti (by omega)]
    have e0 : (0 : Int32).toInt = 0 := by decide
    omega
  · exact Or.inr (Or.inr h)
theorem qk_begin {M : wM} {h : Nat → Nat} {t : wm} (I : qv_I M h t) (x1 : Int32) : qv_S (qf_X2_begin x1 M h) (qf_X3_begin x1 t) M := by
  rcases qa_rng2 x1 (a := 2) (n := 16) (by decide) (by decide) with ⟨Z, h1, h2, eq⟩ | hx
  · subst eq
    obtain ⟨M', h', ta, c1, c2, c3, c4, c5, c6⟩ := qk_edit I
    obtain ⟨e14, e11, er⟩ := qs_R14 (qk_R I)
    refine ⟨M 0 0 1, qw_u1 M' 0 (qx_new Z (M' 0)), h', qx_beg Z ta, ?_, ?_, ?_, ?_⟩
    · unfold qf_X2_begin
      rw [qe_isSizeT h1 h2, qa_t1, if_neg (show ¬ nI 1 = 0 by decide), c1, qa_t2, qn_e, c3, qe_new h1 h2, qa_t1, qn_e]
    · unfold qf_X3_begin
      rw [qm_inT h1 h2 (by decide), qa_t1, if_neg (show ¬ nI 1 = 0 by decide), c2, qa_t1, qn_e, c4, e11, qm_begins h1 h2, qa_t1]
    · refine c6 _ _ (fun c hc => qx_beg_o hc) ?_
      refine qv_freshR (r := M 0 0 0) h1 h2 er ?_ ?_
      · rw [← c3]
        exact qx_new_f
      · have := qx_beg_f (Z := Z) (t := ta)
        rw [c4, e14] at this
        exact this
    · rw [qw_u1_n _ _ (by decide), c5]
  · refine ⟨-1, M, h, t, ?_, ?_, I, rfl⟩
    · unfold qf_X2_begin
      rw [qe_isSizeF hx, qa_t1, if_pos (show nI 0 = 0 from rfl)]
    · unfold qf_X3_begin
      rw [qm_inF hx, qa_t1, if_pos (show nI 0 = 0 from rfl)]
/-! undo -/
def qx_ud (Q i : Nat) (t : wm) : wm := fun x y => if x = 1 ∧ i ≤ y ∧ y < 935 then t 2 (935 * Q + y) else t x y
theorem qx_ud_s {Q i : Nat} {t : wm} {y : Nat} (g : i ≤ y ∧ y < 935) : qx_ud Q i t 1 y = t 2 (935 * Q + y) := if_pos ⟨rfl, g⟩
theorem qx_ud_n {Q i : Nat} {t : wm} {x y : Nat} (g : ¬ (x = 1 ∧ i ≤ y ∧ y < 935)) : qx_ud Q i t x y = t x y := if_neg g
theorem qm_undo_22 {Q : Nat} (hQ : Q ≤ 4) : ∀ (d n i : Nat) (t : wm), t 0 3 = nI Q → i ≤ 935 → 935 - i = d → d < n →
    qf_X3_undo_22 n (nI i) t = some (nI Q, qx_ud Q i t) := by
  intro d
  induction d with
  | zero =>
    intro n i t e3 hi hd hn
    obtain ⟨n, rfl⟩ : ∃ k, n = k + 1 := ⟨n - 1, by omega⟩
    rw [qf_X3_undo_22]
    simp (disch := omega) only [qa_le]
    rw [if_pos (by omega), qn_e, e3]
    congr 2
    funext x y
    rw [qx_ud_n (by omega)]
  | succ d ih =>
    intro n i t e3 hi hd hn
    obtain ⟨n, rfl⟩ : ∃ k, n = k + 1 := ⟨n - 1, by omega⟩
    rw [qf_X3_undo_22]
    simp (disch := omega) only [qn_e, e3, qa_le, pk_mul, nI_add, qa_g, qa_cl]
    rw [if_neg (by omega), ih n (i + 1) _ (by rw [qw_u2_n _ _ (by omega)]; exact e3) (by omega) (by omega) (by omega)]
    congr 2
    funext x y
    by_cases hx : x = 1
    · subst hx
      by_cases hy : y = i
      · subst hy
        rw [qx_ud_n (by omega), qw_u2_s, qx_ud_s (by omega)]
      · by_cases hr : i ≤ y ∧ y < 935
        · rw [qx_ud_s (by omega), qx_ud_s hr, qw_u2_n _ _ (by omega)]
        · rw [qx_ud_n (by omega), qx_ud_n (by omega), qw_u2_n _ _ (by omega)]
    · rw [qx_ud_n (by omega), qx_ud_n (by omega), qw_u2_n _ _ (by omega)]
theorem qk_undo {M : wM} {h : Nat → Nat} {t : wm} (I : qv_I M h t) : qv_S (qf_X2_undo M h) (qf_X3_undo t) M := by
  obtain ⟨P, D, hP, hD, R, a1, a2, a3, a4, a5, a6, H⟩ := id I
  by_cases hp : P = 0
  · subst hp
    refine ⟨-2, M, h, t, ?_, ?_, I, rfl⟩
    · unfold qf_X2_undo
      rw [qn_e, a1, if_pos (show nI 0 = 0 from rfl)]
    · unfold qf_X3_undo
      rw [qn_e, a2, if_pos (show nI 0 = 0 from rfl)]
  · obtain ⟨g1, g2⟩ := H.1.1 (P - 1) (by omega)
    have H2 := H.2 (P - 1) (by omega)
    refine ⟨nI (P - 1), qw_u1 (qw_u1 M 8 (qw_u2 (M 8) 0 4 (nI (P - 1)))) 0 (fun x y => if y < qs_len x then M (h (P - 1)) x y else M 0 x y), h, qx_ud (P - 1) 0 (qw_u2 t 0 3 (nI (P - 1))), ?_, ?_, ⟨P - 1, D, by omega, hD, ?_, ?_, ?_, ?_, ?_, ?_, ?_, ?_⟩, ?_⟩
    · unfold qf_X2_undo
      rw [qn_e, a1, if_neg (by rw [qa_e0 (by omega)]; exact hp), qn_e, qn_e, qa_sub (by omega), qn_e, qn_e, qw_u1_s, qw_u2_s, qa_g (by omega) (by decide), qn_e, qa_cl (by omega), qg_t (by omega), qg_t (by omega), qp_copyFrom, qa_t1, qn_e, qn_e, qw_u1_n (k := 0) _ _ (by decide), qw_u1_n (k := h (P - 1)) _ _ (by omega), qw_u1_n (k := 8) _ _ (by decide), qw_u1_s, qw_u2_s]
    · unfold qf_X3_undo
      rw [qn_e, a2, if_neg (by rw [qa_e0 (by omega)]; exact hp), qn_e, qn_e, qa_sub (by omega), qn_e, qm_undo_22 (Q := P - 1) (by omega) 935 qfu 0 _ (qw_u2_s _ _ _ _) (by omega) (by omega) (by unfold qfu; omega)]
    · rw [qw_u1_s]
      refine qs_R_cg (fun x y hy => if_pos hy) (fun k hk => ?_) H2
      rw [qx_ud_s (by omega), qw_u2_n _ _ (by omega)]
    · rw [qw_u1_n _ _ (by decide), qw_u1_s, qw_u2_s]
    · rw [qx_ud_n (by omega), qw_u2_s]
    · rw [qx_ud_n (by omega), qw_u2_n _ _ (by omega), a3]
    · rw [qw_u1_n _ _ (by decide), qw_u1_s, qw_u2_n _ _ (by omega), a4]
    · rw [qx_ud_n (by omega), qw_u2_n _ _ (by omega), a5]
    · intro i hi
      rw [qw_u1_n _ _ (by decide), qw_u1_s, qw_u2_n _ _ (by omega), qx_ud_n (by omega), qw_u2_n _ _ (by omega), a6 i hi]
    · refine ⟨H.1, fun i hi => ?_⟩
      obtain ⟨b1, b2⟩ := H.1.1 i (by omega)
      rw [qw_u1_n _ _ (by omega), qw_u1_n _ _ (by omega)]
      refine qs_R_cg (fun x y hy => rfl) (fun k hk => ?_) (H.2 i (by omega))
      rw [qx_ud_n (by omega), qw_u2_n _ _ (by omega)]
    · rw [qw_u1_n _ _ (by decide), qw_u1_n _ _ (by decide)]
/-! the text -/
theorem qv_I_text {M : wM} {h : Nat → Nat} {t : wm} {m8 t' : wm} {D' : Nat} (I : qv_I M h t) (hD : D' ≤ 120) (g8 : m8 0 4 = M 8 0 4) (gD : m8 2 1 = nI D') (tD : t' 0 6 = nI D') (t3 : t' 0 3 = t 0 3) (t4 : t' 0 4 = t 0 4) (t1 : t' 1 = t 1) (t2 : t' 2 = t 2)
    (gc : ∀ i : Nat, i < D' → m8 3 i = t' 4 i) : qv_I (qw_u1 M 8 m8) h t' := by
  obtain ⟨P, D, hP, _, R, a1, a2, a3, a4, a5, a6, H⟩ := id I
  refine ⟨P, D', hP, hD, ?_, ?_, ?_, ?_, ?_, tD, ?_, ?_⟩
  · rw [qw_u1_n _ _ (by decide), t1]
    exact R
  · rw [qw_u1_s, g8, a1]
  · rw [t3, a2]
  · rw [t4, a3]
  · rw [qw_u1_s, gD]
  · rw [qw_u1_s]
    exact gc
  · rw [t2]
    exact qv_hist_cg hP (fun k h1 h2 => qw_u1_n _ _ (by omega)) (fun k _ => rfl) H
theorem qk_append {M : wM} {h : Nat → Nat} {t : wm} (I : qv_I M h t) (x1 : Int32) : qv_S (qf_X2_append x1 M h) (qf_X3_append x1 t) M := by
  obtain ⟨P, D, hP, hD, R, a1, a2, a3, a4, a5, a6, H⟩ := id I
  rcases qa_rng2 x1 (a := 1) (n := 255) (by decide) (by decide) with ⟨c, h1, h2, eq⟩ | hx
  · subst eq
    by_cases e : D = 120
    · refine ⟨-3, M, h, t, ?_, ?_, I, rfl⟩
      · unfold qf_X2_append
        simp (disch := omega) only [qa_lt, qa_le, qa_eq, qn_e, a4]
        rw [if_neg (by omega), if_pos h2, if_pos e]
      · unfold qf_X3_append
        simp (disch := omega) only [qm_inT, qa_t1, qa_eq, qn_e, a5]
        rw [if_neg (show ¬ nI 1 = 0 by decide), if_pos e]
    · refine ⟨nI (D + 1), qw_u1 M 8 (qw_u2 (qw_u2 (M 8) 3 D (nI c)) 2 1 (nI (D + 1))), h, qw_u2 (qw_u2 t 4 D (nI c)) 0 6 (nI (D + 1)), ?_, ?_, ?_, ?_⟩
      · unfold qf_X2_append qf_X1_add
        simp (disch := omega) only [qa_lt, qa_le, qa_eq, qn_e, a4, qa_g, qa_cl, qa_t1, qw_u2_n, nI_add, qw_u1_s, qw_u2_s]
        rw [if_neg (by omega), if_pos h2, if_neg e]
      · unfold qf_X3_append
        simp (disch := omega) only [qm_inT, qa_t1, qa_eq, qn_e, a5, qa_g, qa_cl, qw_u2_n, nI_add, qw_u2_s]
        rw [if_neg (show ¬ nI 1 = 0 by decide), if_neg e]
      · refine qv_I_text (D' := D + 1) I (by omega) ?_ ?_ ?_ ?_ ?_ ?_ ?_ ?_
        · simp (disch := omega) only [qw_u2_n]
        · rw [qw_u2_s]
        · rw [qw_u2_s]
        · simp (disch := omega) only [qw_u2_n]
        · simp (disch := omega) only [qw_u2_n]
        · funext y
          simp (disch := omega) only [qw_u2_n]
        · funext y
          simp (disch := omega) only [qw_u2_n]
        · intro i hi
          by_cases g : i = D
          · subst g
            simp (disch := omega) only [qw_u2_n, qw_u2_s]
          · simp (disch := omega) only [qw_u2_n]
            exact a6 i (by omega)
      · rw [qw_u1_n _ _ (by decide)]
  · refine ⟨-1, M, h, t, ?_, ?_, I, rfl⟩
    · unfold qf_X2_append
      rcases hx with hx | hx
      · rw [if_pos hx]
      · by_cases h0 : x1 < nI 1
        · rw [if_pos h0]
        · rw [if_neg h0, if_neg (by rw [qa_le_iff]; rw [qa_lt_iff] at hx; omega)]
    · unfold qf_X3_append
      rw [qm_inF hx, qa_t1, if_pos (show nI 0 = 0 from rfl)]
theorem qk_clearText {M : wM} {h : Nat → Nat} {t : wm} (I : qv_I M h t) : qv_S (qf_X2_clearText M h) (qf_X3_clearText t) M := by
  obtain ⟨P, D, hP, hD, R, a1, a2, a3, a4, a5, a6, H⟩ := id I
  refine ⟨nI D, qw_u1 M 8 (qw_u2 (M 8) 2 1 (nI 0)), h, qw_u2 t 0 6 (nI 0), ?_, ?_, ?_, ?_⟩
  · unfold qf_X2_clearText
    rw [qn_e, qn_e, a4]
  · unfold qf_X3_clearText
    rw [qn_e, qn_e, a5]
  · refine qv_I_text (D' := 0) I (by omega) ?_ (qw_u2_s _ _ _ _) (qw_u2_s _ _ _ _) ?_ ?_ ?_ ?_ (fun i hi => by omega)
    · simp (disch := omega) only [qw_u2_n]
    · simp (disch := omega) only [qw_u2_n]
    · simp (disch := omega) only [qw_u2_n]
    · funext y
      simp (disch := omega) only [qw_u2_n]
    · funext y
      simp (disch := omega) only [qw_u2_n]
  · rw [qw_u1_n _ _ (by decide)]
