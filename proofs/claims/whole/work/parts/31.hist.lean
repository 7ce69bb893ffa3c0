theorem qs_R_cg {m m' : wm} {s s' : Nat → Int32} (hm : ∀ x y : Nat, y < qs_len x → m' x y = m x y) (hs : ∀ k : Nat, k < 935 → s' k = s k) (R : qs_R m s) : qs_R m' s' := by
  obtain ⟨T, Z, H, S, C, N, ok, rl⟩ := R
  have l0 : ∀ y : Nat, y < 7 → m' 0 y = m 0 y := fun y h => hm 0 y h
  have l1 : ∀ y : Nat, y < 4 → m' 1 y = m 1 y := fun y h => hm 1 y h
  have l2 : ∀ y : Nat, y < 4 → m' 2 y = m 2 y := fun y h => hm 2 y h
  have l3 : ∀ y : Nat, y < 200 → m' 3 y = m 3 y := fun y h => hm 3 y h
  have lf : ∀ x y : Nat, 8 ≤ x → x < 13 → y < 40 → m' x y = m x y := fun x y h1 h2 h => hm x y (by
    unfold qs_len qw_lnS
    simp (disch := omega) only [if_pos, if_neg]
    exact h)
  have ls : ∀ x y : Nat, 13 ≤ x → x < 16 → y < 16 → m' x y = m x y := fun x y h1 h2 h => hm x y (by
    unfold qs_len qw_lnS
    simp (disch := omega) only [if_pos, if_neg]
    exact h)
  have lp : ∀ x y : Nat, 16 ≤ x → x < 19 → y < 200 → m' x y = m x y := fun x y h1 h2 h => hm x y (by
    unfold qs_len qw_lnS
    simp (disch := omega) only [if_pos, if_neg]
    exact h)
  have lc : ∀ x y : Nat, 19 ≤ x → x < 25 → y < 12 → m' x y = m x y := fun x y h1 h2 h => hm x y (by
    unfold qs_len qw_lnS
    simp (disch := omega) only [if_pos, if_neg]
    exact h)
  refine ⟨T, Z, H, S, C, N, ?_, ?_⟩
  · obtain ⟨b, ⟨e1, e2, e3, e5, e6, eN, er⟩, okF, okS, okN, v1, v2⟩ := ok
    refine ⟨b, ⟨?_, ?_, ?_, ?_, ?_, ?_, ?_⟩, ?_, ?_, ?_, ?_, ?_⟩
    · rw [l0 _ (by decide), e1]
    · rw [l0 _ (by decide), e2]
    · rw [l0 _ (by decide), e3]
    · rw [l0 _ (by decide), e5]
    · rw [l0 _ (by decide), e6]
    · rw [l1 _ (by decide), eN]
    · rw [l0 _ (by decide)]
      exact er
    · intro i hi
      rw [lf _ _ (by decide) (by decide) (by omega), lf _ _ (by decide) (by decide) (by omega), lf _ _ (by decide) (by decide) (by omega)]
      exact okF i hi
    · intro i hi
      rw [ls _ _ (by decide) (by decide) hi]
      exact okS i hi
    · intro i hi h2
      rw [l3 _ h2]
      exact okN i hi h2
    · have hc : ∀ n : Nat, n ≤ S → qs_hg m' n = qs_hg m n := fun n hn => qs_hg_cg n (fun i hi => ⟨lp _ _ (by decide) (by decide) (by omega), lp _ _ (by decide) (by decide) (by omega)⟩)
      intro i hi
      rw [hc i (by omega)]
      exact qs_step_cg (lp _ _ (by decide) (by decide) (by omega)) (lp _ _ (by decide) (by decide) (by omega)) (lp _ _ (by decide) (by decide) (by omega)) (v1 i hi)
    · rw [qs_hg_cg S (fun i hi => ⟨lp _ _ (by decide) (by decide) (by omega), lp _ _ (by decide) (by decide) (by omega)⟩)]
      exact v2
  · obtain ⟨⟨b1, b2, b3, b4, b5, b6, b7⟩, -⟩ := ok
    obtain ⟨⟨r0, r1, r2, r3, r4, r5, r6, r7, r8, r9, r10, r11, r12, r13, r14⟩, rF, rS, rT, rP, rN⟩ := rl
    refine ⟨⟨?_, ?_, ?_, ?_, ?_, ?_, ?_, ?_, ?_, ?_, ?_, ?_, ?_, ?_, ?_⟩, ?_, ?_, ?_, ?_, ?_⟩
    · rw [hs _ (by decide), l0 _ (by decide), r0]
    · rw [hs _ (by decide), l0 _ (by decide), r1]
    · rw [hs _ (by decide), l1 _ (by decide), r2]
    · rw [hs _ (by decide), l1 _ (by decide), r3]
    · rw [hs _ (by decide), l1 _ (by decide), r4]
    · rw [hs _ (by decide), l1 _ (by decide), r5]
    · rw [hs _ (by decide), l2 _ (by decide), l2 _ (by decide), r6]
    · rw [hs _ (by decide), l2 _ (by decide), r7]
    · rw [hs _ (by decide), l2 _ (by decide), r8]
    · rw [hs _ (by decide), l2 _ (by decide), r9]
    · rw [hs _ (by decide), l0 _ (by decide), r10]
    · rw [hs _ (by decide), l0 _ (by decide), r11]
    · rw [hs _ (by decide), l0 _ (by decide), r12]
    · rw [hs _ (by decide), l0 _ (by decide), r13]
    · rw [hs _ (by decide), l0 _ (by decide), r14]
    · intro k w hk hw
      rw [hs _ (by omega), lf _ _ (by omega) (by omega) (by omega)]
      exact rF k w hk hw
    · intro k w hk hw
      rw [hs _ (by omega), ls _ _ (by omega) (by omega) (by omega)]
      exact rS k w hk hw
    · intro j w hj hw
      rw [hs _ (by omega), lc _ _ (by omega) (by omega) (by omega)]
      exact rT j w hj hw
    · intro k hk
      rw [hs _ (by omega), hs _ (by omega), lp _ _ (by decide) (by decide) (by omega), lp _ _ (by decide) (by decide) (by omega), lp _ _ (by decide) (by decide) (by omega)]
      exact rP k hk
    · intro k hk
      rw [hs _ (by omega), l3 _ (by omega)]
      exact rN k hk
/-! the reference's history -/
theorem qm_acts_59 {P : Nat} (hP : P ≤ 4) : ∀ (d n i : Nat) (t : wm), t 0 3 = nI P → i ≤ 935 → 935 - i = d → d < n →
    qf_X3_acts_59 n (nI i) t = qf_X3_acts_93 (fun x y => if x = 2 ∧ 935 * P + i ≤ y ∧ y < 935 * P + 935 then t 1 (y - 935 * P) else t x y) := by
  intro d
  induction d with
  | zero =>
    intro n i t e3 hi hd hn
    obtain ⟨n, rfl⟩ : ∃ k, n = k + 1 := ⟨n - 1, by omega⟩
    rw [qf_X3_acts_59]
    simp (disch := omega) only [qa_le]
    rw [if_pos (by omega)]
    congr 1
    funext x y
    rw [if_neg (by omega)]
  | succ d ih =>
    intro n i t e3 hi hd hn
    obtain ⟨n, rfl⟩ : ∃ k, n = k + 1 := ⟨n - 1, by omega⟩
    rw [qf_X3_acts_59]
    simp (disch := omega) only [qn_e, e3, qa_le, pk_mul, nI_add, qa_g, qa_cl]
    rw [if_neg (by omega), ih n (i + 1) _ (by rw [qw_u2_n _ _ (by omega)]; exact e3) (by omega) (by omega) (by omega)]
    congr 1
    funext x y
    by_cases hx : x = 2
    · subst hx
      by_cases hy : y = 935 * P + i
      · subst hy
        rw [if_neg (by omega), qw_u2_s, if_pos (by omega)]
        congr 1
        omega
      · by_cases hr : 935 * P + i ≤ y ∧ y < 935 * P + 935
        · rw [if_pos (by omega), if_pos (by omega), qw_u2_n _ _ (by omega)]
        · rw [if_neg (by omega), if_neg (by omega), qw_u2_n _ _ (by omega)]
    · rw [if_neg (fun q => hx q.1), if_neg (fun q => hx q.1), qw_u2_n _ _ (by omega)]
theorem qm_acts_18 : ∀ (d n i : Nat) (t : wm), i ≤ 3740 → 3740 - i = d → d < n →
    qf_X3_acts_18 n (nI i) t = qf_X3_acts_47 (fun x y => if x = 2 ∧ i ≤ y ∧ y < 3740 then t 2 (y + 935) else t x y) := by
  intro d
  induction d with
  | zero =>
    intro n i t hi hd hn
    obtain ⟨n, rfl⟩ : ∃ k, n = k + 1 := ⟨n - 1, by omega⟩
    rw [qf_X3_acts_18]
    simp (disch := omega) only [qa_le]
    rw [if_pos (by omega)]
    congr 1
    funext x y
    rw [if_neg (by omega)]
  | succ d ih =>
    intro n i t hi hd hn
    obtain ⟨n, rfl⟩ : ∃ k, n = k + 1 := ⟨n - 1, by omega⟩
    rw [qf_X3_acts_18]
    simp (disch := omega) only [qn_e, qa_le, nI_add, qa_g, qa_cl]
    rw [if_neg (by omega), ih n (i + 1) _ (by omega) (by omega) (by omega)]
    congr 1
    funext x y
    by_cases hx : x = 2
    · subst hx
      by_cases hy : y = i
      · subst hy
        rw [if_neg (by omega), qw_u2_s, if_pos (by omega)]
      · by_cases hr : i ≤ y ∧ y < 3740
        · rw [if_pos (by omega), if_pos (by omega), qw_u2_n _ _ (by omega)]
        · rw [if_neg (by omega), if_neg (by omega), qw_u2_n _ _ (by omega)]
    · rw [if_neg (fun q => hx q.1), if_neg (fun q => hx q.1), qw_u2_n _ _ (by omega)]
/-- how many are kept behind one more, and which go -/
def qv_P2 (P : Nat) : Nat := if P = 5 then 5 else P + 1
def qv_s (P : Nat) : Nat := if P = 5 then 1 else 0
def qx_hsh (t : wm) : wm := fun x y => if x = 2 ∧ y < 3740 then t 2 (y + 935) else t x y
def qx_hpu (Q : Nat) (u : wm) : wm := fun x y => if x = 2 ∧ 935 * Q ≤ y ∧ y < 935 * Q + 935 then u 1 (y - 935 * Q) else u x y
theorem qx_hsh_n (t : wm) {x y : Nat} (g : ¬(x = 2 ∧ y < 3740)) : qx_hsh t x y = t x y := by
  unfold qx_hsh
  rw [if_neg g]
theorem qx_hsh_s (t : wm) {y : Nat} (g : y < 3740) : qx_hsh t 2 y = t 2 (y + 935) := by
  unfold qx_hsh
  rw [if_pos ⟨rfl, g⟩]
theorem qx_hpu_n (Q : Nat) (t : wm) {x y : Nat} (g : ¬(x = 2 ∧ 935 * Q ≤ y ∧ y < 935 * Q + 935)) : qx_hpu Q t x y = t x y := by
  unfold qx_hpu
  rw [if_neg g]
theorem qx_hpu_s (Q : Nat) (t : wm) {y : Nat} (g : 935 * Q ≤ y ∧ y < 935 * Q + 935) : qx_hpu Q t 2 y = t 1 (y - 935 * Q) := by
  unfold qx_hpu
  rw [if_pos ⟨rfl, g⟩]
theorem qm_acts_57 {Q : Nat} {u : wm} (hQ : Q ≤ 4) (eu : u 0 3 = nI Q) : qf_X3_acts_57 u = some (qw_u2 (qx_hpu Q u) 0 3 (nI (Q + 1))) := by
  unfold qf_X3_acts_57
  rw [qm_acts_59 hQ 935 qfu 0 u eu (by omega) (by omega) (by unfold qfu; omega)]
  have e : (fun x y => if x = 2 ∧ 935 * Q + 0 ≤ y ∧ y < 935 * Q + 935 then u 1 (y - 935 * Q) else u x y) = qx_hpu Q u := rfl
  rw [e]
  unfold qf_X3_acts_93
  rw [qn_e, qx_hpu_n Q u (by omega), eu, qn_e, nI_add, qn_e]
theorem qm_acts {t : wm} {P : Nat} (e4 : t 0 4 = nI 0) (e3 : t 0 3 = nI P) (hP : P ≤ 5) : ∃ ta : wm, qf_X3_acts t = some ta ∧ ta 1 = t 1 ∧ (∀ c : Nat, 3 ≤ c → ta c = t c) ∧ (∀ y : Nat, y ≠ 3 → ta 0 y = t 0 y) ∧ ta 0 3 = nI (qv_P2 P) ∧
    (∀ i k : Nat, i < qv_P2 P - 1 → k < 935 → ta 2 (935 * i + k) = t 2 (935 * (i + qv_s P) + k)) ∧ (∀ k : Nat, k < 935 → ta 2 (935 * (qv_P2 P - 1) + k) = t 1 k) := by
  unfold qf_X3_acts
  rw [qn_e, e4, if_pos (show nI 0 = 0 from rfl), qn_e, e3]
  by_cases h : P = 5
  · subst h
    have hq : qv_P2 5 = 5 := rfl
    have hs : qv_s 5 = 1 := rfl
    have e : (fun x y => if x = 2 ∧ 0 ≤ y ∧ y < 3740 then t 2 (y + 935) else t x y) = qx_hsh t := by
      funext x y
      unfold qx_hsh
      by_cases g : x = 2 ∧ y < 3740
      · rw [if_pos (by omega), if_pos g]
      · rw [if_neg (by omega), if_neg g]
    rw [if_pos rfl, qm_acts_18 3740 qfu 0 t (by omega) (by omega) (by unfold qfu; omega), e]
    unfold qf_X3_acts_47
    rw [qn_e, qx_hsh_n t (by omega), e3, qn_e, qa_sub (by omega), qn_e, qm_acts_57 (Q := 4) (by omega) (qw_u2_s _ _ _ _), hq, hs]
    refine ⟨_, rfl, ?_, ?_, ?_, ?_, ?_, ?_⟩
    · funext y
      simp (disch := omega) only [qw_u2_n, qx_hpu_n, qx_hsh_n]
    · intro c hc
      funext y
      simp (disch := omega) only [qw_u2_n, qx_hpu_n, qx_hsh_n]
    · intro y hy
      simp (disch := omega) only [qw_u2_n, qx_hpu_n, qx_hsh_n]
    · rw [qw_u2_s]
    · intro i k hi hk
      simp (disch := omega) only [qw_u2_n, qx_hpu_n, qx_hsh_s]
      exact congrArg (t 2) (by omega)
    · intro k hk
      simp (disch := omega) only [qw_u2_n, qx_hpu_s, qx_hsh_n]
      exact congrArg (t 1) (by omega)
  · have hq : qv_P2 P = P + 1 := by unfold qv_P2; rw [if_neg h]
    have hs : qv_s P = 0 := by unfold qv_s; rw [if_neg h]
    rw [if_neg (by rw [qa_eq (by omega) (by decide)]; exact h), qm_acts_57 (Q := P) (by omega) e3, hq, hs]
    refine ⟨_, rfl, ?_, ?_, ?_, ?_, ?_, ?_⟩
    · funext y
      simp (disch := omega) only [qw_u2_n, qx_hpu_n]
    · intro c hc
      funext y
      simp (disch := omega) only [qw_u2_n, qx_hpu_n]
    · intro y hy
      simp (disch := omega) only [qw_u2_n, qx_hpu_n]
    · rw [qw_u2_s]
    · intro i k hi hk
      simp (disch := omega) only [qw_u2_n, qx_hpu_n]
      rfl
    · intro k hk
      simp (disch := omega) only [qw_u2_n, qx_hpu_s]
      exact congrArg (t 1) (by omega)
theorem qm_actsR {t : wm} (e4 : t 0 4 = nI 1) : qf_X3_acts t = some t := by
  unfold qf_X3_acts
  rw [qn_e, e4, if_neg (show ¬ nI 1 = 0 by decide)]
/-! the class's history -/
def qv_H (h : Nat → Nat) : Prop := (∀ i : Nat, i < 5 → 3 ≤ h i ∧ h i < 8) ∧ ∀ i j : Nat, i < 5 → j < 5 → h i = h j → i = j
def qv_rot (h : Nat → Nat) : Nat → Nat := fun j => if j < 4 then h (j + 1) else if j = 4 then h 0 else h j
theorem qe_drop {M : wM} {h : Nat → Nat} (hH : qv_H h) : qf_X2_dropOldest M h = some (qw_u1 M 8 (qw_u2 (M 8) 0 4 (nI 4)), qv_rot h) := by
  have g0 := hH.1 0 (by decide)
  have g1 := hH.1 1 (by decide)
  have g2 := hH.1 2 (by decide)
  have g3 := hH.1 3 (by decide)
  have g4 := hH.1 4 (by decide)
  unfold qf_X2_dropOldest
  rw [qn_e, qg_t (by omega)]
  have hf : qfu = 5995 + 1 + 1 + 1 + 1 + 1 := rfl
  rw [hf]
  have hh : ∀ (g : Nat → Nat) (i o j : Nat), qw_hu g i o j = if j = i then o else g j := fun g i o j => rfl
  rw [qf_X2_dropOldest_9]
  simp (disch := omega) only [qa_le, qn_e, qa_sub, qa_g, qa_cl, nI_add, hh, Nat.reduceAdd]
  rw [if_neg (by decide), qg_t (by omega), qf_X2_dropOldest_9]
  simp (disch := omega) only [qa_le, qn_e, qa_sub, qa_g, qa_cl, nI_add, hh, Nat.reduceAdd]
  rw [if_neg (by decide), if_neg (by decide), qg_t (by omega), qf_X2_dropOldest_9]
  simp (disch := omega) only [qa_le, qn_e, qa_sub, qa_g, qa_cl, nI_add, hh, Nat.reduceAdd]
  rw [if_neg (by decide), if_neg (by decide), if_neg (by decide), qg_t (by omega), qf_X2_dropOldest_9]
  simp (disch := omega) only [qa_le, qn_e, qa_sub, qa_g, qa_cl, nI_add, hh, Nat.reduceAdd]
  rw [if_neg (by decide), if_neg (by decide), if_neg (by decide), if_neg (by decide), qg_t (by omega), qf_X2_dropOldest_9]
  simp (disch := omega) only [qa_le]
  rw [if_pos (by decide)]
  unfold qf_X2_dropOldest_34
  rw [qn_e, qn_e]
  congr 2
  funext j
  unfold qv_rot
  simp only [hh]
  rcases (show j = 0 ∨ j = 1 ∨ j = 2 ∨ j = 3 ∨ j = 4 ∨ 5 ≤ j by omega) with rfl | rfl | rfl | rfl | rfl | hj
  · rfl
  · rfl
  · rfl
  · rfl
  · rfl
  · simp (disch := omega) only [if_neg]
