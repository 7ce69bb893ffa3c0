theorem qd_cnt0 {M : wM} {h : Nat → Nat} : qf_X2_count (nI 0) M h = some (M 0 0 3) := by
  unfold qf_X2_count
  rw [if_pos rfl, qn_e]
theorem qd_cnt1 {M : wM} {h : Nat → Nat} : qf_X2_count (nI 1) M h = some (M 0 0 5) := by
  unfold qf_X2_count
  rw [if_neg (by decide), if_pos rfl, qn_e]
theorem qd_cnt2 {M : wM} {h : Nat → Nat} : qf_X2_count (nI 2) M h = some (M 0 1 0) := by
  unfold qf_X2_count
  rw [if_neg (by decide), if_neg (by decide), if_pos rfl, qn_e]
theorem qd_cnt3 {M : wM} {h : Nat → Nat} : qf_X2_count (nI 3) M h = some (M 0 1 1) := by
  unfold qf_X2_count
  rw [if_neg (by decide), if_neg (by decide), if_neg (by decide), if_pos rfl, qn_e]
theorem qd_cnt4 {M : wM} {h : Nat → Nat} : qf_X2_count (nI 4) M h = some (M 0 1 2) := by
  unfold qf_X2_count
  rw [if_neg (by decide), if_neg (by decide), if_neg (by decide), if_neg (by decide), if_pos rfl, qn_e]
theorem qd_cnt5 {M : wM} {h : Nat → Nat} : qf_X2_count (nI 5) M h = some (M 0 1 3) := by
  unfold qf_X2_count
  rw [if_neg (by decide), if_neg (by decide), if_neg (by decide), if_neg (by decide), if_neg (by decide), if_pos rfl, qn_e]
theorem qd_cnt6 {M : wM} {h : Nat → Nat} : qf_X2_count (nI 6) M h = some ((M 0 2 0 + M 0 2 1)) := by
  unfold qf_X2_count
  rw [if_neg (by decide), if_neg (by decide), if_neg (by decide), if_neg (by decide), if_neg (by decide), if_neg (by decide), if_pos rfl, qn_e, qn_e, qn_e]
theorem qd_cnt7 {M : wM} {h : Nat → Nat} : qf_X2_count (nI 7) M h = some (M 0 2 1) := by
  unfold qf_X2_count
  rw [if_neg (by decide), if_neg (by decide), if_neg (by decide), if_neg (by decide), if_neg (by decide), if_neg (by decide), if_neg (by decide), if_pos rfl, qn_e]
theorem qd_cnt8 {M : wM} {h : Nat → Nat} : qf_X2_count (nI 8) M h = some (M 0 2 2) := by
  unfold qf_X2_count
  rw [if_neg (by decide), if_neg (by decide), if_neg (by decide), if_neg (by decide), if_neg (by decide), if_neg (by decide), if_neg (by decide), if_neg (by decide), if_pos rfl, qn_e]
theorem qd_cnt9 {M : wM} {h : Nat → Nat} : qf_X2_count (nI 9) M h = some (M 0 2 3) := by
  unfold qf_X2_count
  rw [if_neg (by decide), if_neg (by decide), if_neg (by decide), if_neg (by decide), if_neg (by decide), if_neg (by decide), if_neg (by decide), if_neg (by decide), if_neg (by decide), if_pos rfl, qn_e]
theorem qd_cnt10 {M : wM} {h : Nat → Nat} : qf_X2_count (nI 10) M h = some (M 0 0 6) := by
  unfold qf_X2_count
  rw [if_neg (by decide), if_neg (by decide), if_neg (by decide), if_neg (by decide), if_neg (by decide), if_neg (by decide), if_neg (by decide), if_neg (by decide), if_neg (by decide), if_neg (by decide), if_pos rfl, qn_e]
theorem qd_cnt11 {M : wM} {h : Nat → Nat} : qf_X2_count (nI 11) M h = some (M 0 0 1) := by
  unfold qf_X2_count
  rw [if_neg (by decide), if_neg (by decide), if_neg (by decide), if_neg (by decide), if_neg (by decide), if_neg (by decide), if_neg (by decide), if_neg (by decide), if_neg (by decide), if_neg (by decide), if_neg (by decide), if_pos rfl, qn_e]
theorem qd_cnt12 {M : wM} {h : Nat → Nat} : qf_X2_count (nI 12) M h = some (M 0 0 2) := by
  unfold qf_X2_count
  rw [if_neg (by decide), if_neg (by decide), if_neg (by decide), if_neg (by decide), if_neg (by decide), if_neg (by decide), if_neg (by decide), if_neg (by decide), if_neg (by decide), if_neg (by decide), if_neg (by decide), if_neg (by decide), if_pos rfl, qn_e]
theorem qd_cnt13 {M : wM} {h : Nat → Nat} : qf_X2_count (nI 13) M h = some (M 0 0 4) := by
  unfold qf_X2_count
  rw [if_neg (by decide), if_neg (by decide), if_neg (by decide), if_neg (by decide), if_neg (by decide), if_neg (by decide), if_neg (by decide), if_neg (by decide), if_neg (by decide), if_neg (by decide), if_neg (by decide), if_neg (by decide), if_neg (by decide), if_pos rfl, qn_e]
theorem qd_cnt14 {M : wM} {h : Nat → Nat} : qf_X2_count (nI 14) M h = some (M 0 0 0) := by
  unfold qf_X2_count
  rw [if_neg (by decide), if_neg (by decide), if_neg (by decide), if_neg (by decide), if_neg (by decide), if_neg (by decide), if_neg (by decide), if_neg (by decide), if_neg (by decide), if_neg (by decide), if_neg (by decide), if_neg (by decide), if_neg (by decide), if_neg (by decide), if_pos rfl, qn_e]
theorem qd_cnt16 {M : wM} {h : Nat → Nat} : qf_X2_count (nI 16) M h = some (M 8 2 1) := by
  unfold qf_X2_count
  rw [if_neg (by decide), if_neg (by decide), if_neg (by decide), if_neg (by decide), if_neg (by decide), if_neg (by decide), if_neg (by decide), if_neg (by decide), if_neg (by decide), if_neg (by decide), if_neg (by decide), if_neg (by decide), if_neg (by decide), if_neg (by decide), if_neg (by decide), if_neg (by decide), if_pos rfl, qn_e]
theorem qd_cnt17 {M : wM} {h : Nat → Nat} {H : Nat} (e3 : M 0 0 3 = nI H) (hH : H ≤ 40) : qf_X2_count (nI 17) M h = some (nI (qd_oc (M 0) H)) := by
  unfold qf_X2_count
  rw [if_neg (by decide), if_neg (by decide), if_neg (by decide), if_neg (by decide), if_neg (by decide), if_neg (by decide), if_neg (by decide), if_neg (by decide), if_neg (by decide), if_neg (by decide), if_neg (by decide), if_neg (by decide), if_neg (by decide), if_neg (by decide), if_neg (by decide), if_neg (by decide), if_neg (by decide), if_pos rfl, qd_ovr e3 hH, qa_t1]
theorem qd_cntB {M : wM} {h : Nat → Nat} : qf_X2_count (nI 18) M h = some (-1) ∧ qf_X2_count (-1) M h = some (-1) := by
  constructor
  · unfold qf_X2_count
    rw [if_neg (by decide), if_neg (by decide), if_neg (by decide), if_neg (by decide), if_neg (by decide), if_neg (by decide), if_neg (by decide), if_neg (by decide), if_neg (by decide), if_neg (by decide), if_neg (by decide), if_neg (by decide), if_neg (by decide), if_neg (by decide), if_neg (by decide), if_neg (by decide), if_neg (by decide), if_neg (by decide)]
  · unfold qf_X2_count
    rw [if_neg (by decide), if_neg (by decide), if_neg (by decide), if_neg (by decide), if_neg (by decide), if_neg (by decide), if_neg (by decide), if_neg (by decide), if_neg (by decide), if_neg (by decide), if_neg (by decide), if_neg (by decide), if_neg (by decide), if_neg (by decide), if_neg (by decide), if_neg (by decide), if_neg (by decide), if_neg (by decide)]
theorem qd_G15 {M : wM} {h : Nat → Nat} {C K : Nat} (G : qd_G (M 0) (M 9) K) (e6 : M 0 0 6 = nI C) (i : Nat) (hi : i < 15) : qf_X2_count (nI i) M h = some (if i = 10 then nI C else M 9 1 i) := by
  obtain ⟨g0, g1, g2, g3, g4, g5, g6, g7, g8, g9, g10, g11, g12, g13, g14⟩ := G
  rcases (show i = 0 ∨ i = 1 ∨ i = 2 ∨ i = 3 ∨ i = 4 ∨ i = 5 ∨ i = 6 ∨ i = 7 ∨ i = 8 ∨ i = 9 ∨ i = 10 ∨ i = 11 ∨ i = 12 ∨ i = 13 ∨ i = 14 by omega) with rfl | rfl | rfl | rfl | rfl | rfl | rfl | rfl | rfl | rfl | rfl | rfl | rfl | rfl | rfl
  · rw [qd_cnt0, if_neg (by decide), g0]
  · rw [qd_cnt1, if_neg (by decide), g1]
  · rw [qd_cnt2, if_neg (by decide), g2]
  · rw [qd_cnt3, if_neg (by decide), g3]
  · rw [qd_cnt4, if_neg (by decide), g4]
  · rw [qd_cnt5, if_neg (by decide), g5]
  · rw [qd_cnt6, if_neg (by decide), g6]
  · rw [qd_cnt7, if_neg (by decide), g7]
  · rw [qd_cnt8, if_neg (by decide), g8]
  · rw [qd_cnt9, if_neg (by decide), g9]
  · rw [qd_cnt10, e6, if_pos rfl]
  · rw [qd_cnt11, if_neg (by decide), g11]
  · rw [qd_cnt12, if_neg (by decide), g12]
  · rw [qd_cnt13, if_neg (by decide), g13]
  · rw [qd_cnt14, if_neg (by decide), g14]
set_option maxHeartbeats 1000000 in
theorem ql_is_414 {M : wM} {h : Nat → Nat} {N : Nat} {w : Nat → Nat} {x6 x11 : Int32} (eN : M 0 1 0 = nI N) (t2 : M 9 1 2 = nI N) (hN : N ≤ 60) (hw : ∀ k : Nat, k < N → M 0 3 k = nI (w k) ∧ M 9 6 k = nI (w k) ∧ w k ≤ 1000) : ∀ (d n i : Nat), i ≤ N → N - i = d → d < n →
    qf_L_isSo_414 n x6 (nI (qd_wm w i)) (qd_ww w i) (nI (qd_sum w i)) (nI 1) x11 (nI i) M h = qf_L_isSo_505 x6 (qd_ww w N) (nI (qd_sum w N)) (nI 1) x11 M h := by
  intro d
  induction d with
  | zero =>
    intro n i hi hd hn
    obtain ⟨n, rfl⟩ : ∃ k, n = k + 1 := ⟨n - 1, by omega⟩
    have : i = N := by omega
    subst this
    rw [qf_L_isSo_414, qn_e, t2, if_pos (by rw [qa_le (by omega) (by omega)]; omega)]
  | succ d ih =>
    intro n i hi hd hn
    obtain ⟨n, rfl⟩ : ∃ k, n = k + 1 := ⟨n - 1, by omega⟩
    have ih2 := ih n (i + 1) (by omega) (by omega) (by omega)
    obtain ⟨w1, w6, w2⟩ := hw i (by omega)
    have hm := qd_wm_lt w 1000 i (fun j hj => (hw j (by omega)).2.2)
    have qn0 : qf_X2_named (nI i) M h = some (nI (w i)) := by rw [qd_named eN (by omega) (by omega), w1]
    rw [← ih2]
    show _ = qf_L_isSo_414 n x6 (nI (if w i ≤ qd_wm w i then qd_wm w i else w i)) (if w i ≤ qd_wm w i then qd_ww w i else nI i) (nI (qd_sum w i + w i)) (nI 1) x11 (nI (i + 1)) M h
    rw [qf_L_isSo_414, qn_e, t2, if_neg (by rw [qa_le (by omega) (by omega)]; omega), if_neg (by decide), qa_g (by omega) (by decide), qn_e, qa_cl (by omega), w6]
    by_cases g : w i ≤ qd_wm w i
    · have g' : nI (w i) ≤ nI (qd_wm w i) := by rw [qa_le (by omega) (by omega)]; exact g
      rw [if_pos g', qa_g (by omega) (by decide), qn_e, if_pos g', qa_g (by omega) (by decide), qn_e, qn_e, nI_add, qn0, qa_t1, qa_g (by omega) (by decide), qn_e, if_pos rfl, qn_e, nI_add, if_pos g, if_pos g]
    · have g' : ¬ nI (w i) ≤ nI (qd_wm w i) := by rw [qa_le (by omega) (by omega)]; exact g
      rw [if_neg g', qa_g (by omega) (by decide), qn_e, if_neg g', qa_g (by omega) (by decide), qn_e, qa_g (by omega) (by decide), qn_e, qn_e, nI_add, qn0, qa_t1, qa_g (by omega) (by decide), qn_e, if_pos rfl, qn_e, nI_add, if_neg g, if_neg g]
theorem ql_is_508 {M : wM} {h : Nat → Nat} {C : Nat} {x6 x8 x9 : Int32} (hc : ∀ i : Nat, i < 15 → qf_X2_count (nI i) M h = some (if i = 10 then nI C else M 9 1 i)) : ∀ (d n i : Nat), i ≤ 15 → 15 - i = d → d < n →
    qf_L_isSo_508 n x6 x8 x9 (nI 1) (nI C) (nI i) M h = qf_L_isSo_558 x6 x8 x9 (nI 1) (nI C) M h := by
  intro d
  induction d with
  | zero =>
    intro n i hi hd hn
    obtain ⟨n, rfl⟩ : ∃ k, n = k + 1 := ⟨n - 1, by omega⟩
    rw [qf_L_isSo_508, if_pos (by rw [qa_le (by omega) (by omega)]; omega)]
  | succ d ih =>
    intro n i hi hd hn
    obtain ⟨n, rfl⟩ : ∃ k, n = k + 1 := ⟨n - 1, by omega⟩
    have ih2 := ih n (i + 1) (by omega) (by omega) (by omega)
    rw [qf_L_isSo_508, if_neg (by rw [qa_le (by omega) (by omega)]; omega), if_neg (by decide), hc i (by omega), qa_t1, qi_eq (by omega) (by omega)]
    by_cases g : i = 10
    · rw [if_pos g, if_pos g, if_pos rfl, qn_e, nI_add, ih2]
    · rw [if_neg g, if_neg g, qa_g (by omega) (by decide), qn_e, qa_cl (by omega), if_pos rfl, qn_e, nI_add, ih2]
set_option maxHeartbeats 1000000 in
/-- THE LAW'S LOOKS: all is so -/
theorem ql_isSo {M : wM} {h : Nat → Nat} {b : Nat} (I : qd_I M h b) (hb : b ≤ 60) : qf_L_isSo M h = some (nI 1) := by
  obtain ⟨T, Z, H, S, C, N, K, ⟨ok, hK, G, F, Sl, Cf, Nm⟩, hSb, J⟩ := I
  obtain ⟨t0, t1, t2, t10, t11, t12⟩ := qd_Gb ok G
  obtain ⟨⟨b1, b2, b3, b4, b5, b6, b7⟩, ⟨e1, e2, e3, e5, e6, eN, er⟩, okF, okS, okN, okV⟩ := id ok
  obtain ⟨w, r0, r1, r2, r3, p, p0, p1, p2, p3, pr, ps, pa, pb⟩ := Nm
  have hc := qd_G15 (h := h) G e6
  obtain ⟨g0, g1, g2, g3, g4, g5, g6, g7, g8, g9, g10, g11, g12, g13, g14⟩ := G
  have hw : ∀ k : Nat, k < N → M 0 3 k = nI (w k) ∧ M 9 6 k = nI (w k) ∧ w k ≤ 1000 := by
    intro k hk
    have := qd_sum_ge w N k hk
    exact ⟨(p k hk).1, (p k hk).2, by omega⟩
  have hCK : C ≤ K := by
    have := Cf.1
    split at this <;> omega
  have hkept : (if 12 ≤ K then 12 else K) = C := by
    rw [Cf.1]
    by_cases q : K ≤ 12
    · rw [if_pos q]
      split <;> omega
    · rw [if_neg q, if_pos (by omega)]
  unfold qf_L_isSo
  have e19 := ql_is_19 (h := h) (x7 := nI 0) (x8 := -9) (x9 := nI 0) e3 t0 b4 F H qfu 0 (by omega) (by omega) (by unfold qfu; omega)
  rw [show qd_ov (M 0) H 0 = 0 from rfl] at e19
  rw [e19, qd_ovH]
  unfold qf_L_isSo_172
  rw [ql_is_175 e1 t11 b2 Sl (3 * Z) qfu 0 (by omega) (by omega) (by unfold qfu; omega)]
  have e223 : ∀ x6 x7 x8 x9 : Int32, qf_L_isSo_223 x6 x7 x8 x9 (nI 1) M h = qf_L_isSo_411 x6 x7 x8 x9 (nI 1) (nI C) M h := by
    intro x6 x7 x8 x9
    have e241 : qf_L_isSo_241 x6 x7 x8 x9 (nI 1) (nI C) M h = qf_L_isSo_411 x6 x7 x8 x9 (nI 1) (nI C) M h := by
      unfold qf_L_isSo_241
      exact ql_is_246 e6 t10 b6 (by omega) hCK Cf.2 C qfu 0 (by omega) (by omega) (by unfold qfu; omega)
    unfold qf_L_isSo_223
    rw [qn_e, t10, qi_le (by omega) (by omega), ← e241, ← hkept]
    by_cases q : 12 ≤ K
    · rw [if_pos q, if_pos q]
    · rw [if_neg q, if_neg q, qn_e]
  rw [e223]
  unfold qf_L_isSo_411
  have e414 := ql_is_414 (h := h) (x6 := nI (qd_oc (M 0) H)) (x11 := nI C) eN t2 (by omega) hw N qfu 0 (by omega) (by omega) (by unfold qfu; omega)
  rw [show qd_wm w 0 = 0 from rfl, show qd_ww w 0 = -9 from rfl, show qd_sum w 0 = 0 from rfl] at e414
  rw [e414]
  unfold qf_L_isSo_505
  rw [ql_is_508 hc 15 qfu 0 (by omega) (by omega) (by unfold qfu; omega)]
  have e611 : qf_L_isSo_611 (nI (qd_oc (M 0) H)) (qd_ww w N) (nI C) (nI 1) M h = some (nI 1) := by
    unfold qf_L_isSo_611
    rw [if_neg (by decide), qd_cnt16, J.2.2, qa_t1, if_pos (show nI 0 = 0 from rfl), qd_cnt17 e3 b4, qa_t1, if_pos rfl, qd_worst eN (by omega) (fun k hk => ⟨(hw k hk).1, (hw k hk).2.2⟩), qa_t1, if_pos rfl, qn_e, t0, qd_frameF e3 b4, qa_t1, if_pos rfl, qn_e, t11, qd_slotF e1 b2, qa_t1, if_pos rfl, qd_confF e6 b6, qa_t1, if_pos rfl, qn_e, t2, qd_namedF eN (by omega), qa_t1, if_pos rfl]
  unfold qf_L_isSo_558
  have q4 : M 9 1 4 = nI (r0 + r1 + r2 + r3) := by rw [g4, pr]
  have q6 : M 9 1 6 = nI (r0 + r1) := by rw [g6, p0, p1, nI_add]
  have q8 : M 9 1 8 = nI r2 := by rw [g8, p2]
  have q9 : M 9 1 9 = nI r3 := by rw [g9, p3]
  rw [if_neg (by decide), qn_e, qn_e, qn_e, qn_e, qn_e, qn_e, q4, q6, q8, q9, nI_add, nI_add, if_pos rfl, qn_e, qn_e, qn_e, nI_add, if_neg (by rw [qa_lt (by omega) (by omega)]; omega), qn_e, if_neg (by rw [qa_lt (by omega) (by omega)]; omega), e611]
