/-- a state just begun -/
def qv_fresh (m : wm) (Z : Nat) (r : Int32) : Prop :=
  (m 0 0 = r ∧ m 0 1 = nI Z ∧ m 0 2 = nI (Z - 1) ∧ m 0 3 = nI 0 ∧ m 0 4 = nI 0 ∧ m 0 5 = nI 0 ∧ m 0 6 = nI 0) ∧ (∀ y : Nat, y < 4 → m 1 y = nI 0) ∧ (∀ y : Nat, y < 4 → m 2 y = nI 0) ∧ (∀ y : Nat, y < 200 → m 3 y = nI 0) ∧ (∀ y : Nat, y < 16 → m 13 y = -9) ∧ (∀ y : Nat, y < 16 → m 14 y = -9) ∧ (∀ y : Nat, y < 16 → m 15 y = nI 0)
def qv_freshS (s : Nat → Int32) (Z : Nat) (r : Int32) : Prop :=
  (∀ y : Nat, y < 11 ∨ y = 13 → s y = nI 0) ∧ s 11 = nI Z ∧ s 12 = nI (Z - 1) ∧ s 14 = r ∧ ∀ k : Nat, k < 16 → s (215 + 3 * k + 0) = -9 ∧ s (215 + 3 * k + 1) = -9 ∧ s (215 + 3 * k + 2) = nI 0
theorem qv_freshO {m : wm} {Z : Nat} {r : Int32} (h1 : 2 ≤ Z) (h2 : Z ≤ 16) (hr : r = nI 0 ∨ r = nI 1) (F : qv_fresh m Z r) : qs_ok m (Z - 1) Z 0 0 0 0 := by
  obtain ⟨⟨f0, f1, f2, f3, f4, f5, f6⟩, g1, g2, g3, g13, g14, g15⟩ := F
  refine ⟨⟨h1, h2, by omega, by omega, by omega, by omega, by omega⟩, ⟨f1, f2, f3, f5, f6, g1 0 (by decide), ?_⟩, ?_, ?_, ?_, ?_, ?_⟩
  · rw [f0]
    exact hr
  · intro i hi
    omega
  · intro i hi
    exact Or.inl (g13 i hi)
  · intro i _ hi
    exact g3 i hi
  · intro i hi
    omega
  · rfl
theorem qv_freshR {m : wm} {Z : Nat} {r : Int32} {s : Nat → Int32} (h1 : 2 ≤ Z) (h2 : Z ≤ 16) (hr : r = nI 0 ∨ r = nI 1) (F : qv_fresh m Z r) (G : qv_freshS s Z r) : qs_R m s := by
  refine ⟨Z - 1, Z, 0, 0, 0, 0, qv_freshO h1 h2 hr F, ?_⟩
  obtain ⟨⟨f0, f1, f2, f3, f4, f5, f6⟩, g1, g2, g3, g13, g14, g15⟩ := F
  obtain ⟨s0, s1, s2, s3, s4⟩ := G
  refine ⟨⟨?_, ?_, ?_, ?_, ?_, ?_, ?_, ?_, ?_, ?_, ?_, ?_, ?_, ?_, ?_⟩, ?_, ?_, ?_, ?_, ?_⟩
  · rw [s0 _ (by decide), f3]
  · rw [s0 _ (by decide), f5]
  · rw [s0 _ (by decide), g1 _ (by decide)]
  · rw [s0 _ (by decide), g1 _ (by decide)]
  · rw [s0 _ (by decide), g1 _ (by decide)]
  · rw [s0 _ (by decide), g1 _ (by decide)]
  · rw [s0 _ (by decide), g2 _ (by decide), g2 _ (by decide)]
    rfl
  · rw [s0 _ (by decide), g2 _ (by decide)]
  · rw [s0 _ (by decide), g2 _ (by decide)]
  · rw [s0 _ (by decide), g2 _ (by decide)]
  · rw [s0 _ (by decide), f6]
  · rw [s1, f1]
  · rw [s2, f2]
  · rw [s0 _ (by decide), f4]
  · rw [s3, f0]
  · intro k w hk
    omega
  · intro k w hk hw
    rcases (show w = 0 ∨ w = 1 ∨ w = 2 by omega) with rfl | rfl | rfl
    · rw [(s4 k hk).1, g13 k hk]
    · rw [(s4 k hk).2.1, g14 k hk]
    · rw [(s4 k hk).2.2, g15 k hk]
  · intro j w hj
    omega
  · intro k hk
    omega
  · intro k hk
    omega
def qx_fl (c n : Nat) (v : Int32) (m : wm) : wm := fun x y => if x = c ∧ y < n then v else m x y
theorem qx_fl_s {c n : Nat} {v : Int32} {m : wm} {x y : Nat} (g : x = c ∧ y < n) : qx_fl c n v m x y = v := if_pos g
theorem qx_fl_n {c n : Nat} {v : Int32} {m : wm} {x y : Nat} (g : ¬ (x = c ∧ y < n)) : qx_fl c n v m x y = m x y := if_neg g
theorem qp_fill2 (ca le : Nat) (x1 : Int32) (hle : le < 5000) (m : wm) : qf_J7_fill_53178 ca le x1 m = some (qx_fl ca le x1 m) := qp_fill ca le x1 hle m
def qx_new (Z : Nat) (m : wm) : wm := qx_fl 15 16 (nI 0) (qx_fl 14 16 (-9) (qx_fl 13 16 (-9) (qx_fl 3 200 (nI 0) (qx_fl 2 4 (nI 0) (qx_fl 1 4 (nI 0) (qw_u2 (qw_u2 (qw_u2 (qw_u2 (qw_u2 (qw_u2 m 0 1 (nI Z)) 0 2 (nI (Z - 1))) 0 3 (nI 0)) 0 4 (nI 0)) 0 5 (nI 0)) 0 6 (nI 0)))))))
theorem qe_new {m : wm} {Z : Nat} (h1 : 2 ≤ Z) (h2 : Z ≤ 16) : qf_X0_beginAnew (nI Z) m = some (qx_new Z m) := by
  unfold qf_X0_beginAnew
  simp (disch := omega) only [qn_e, qp_fill2, qa_t1, qa_sub]
  rfl
theorem qx_new_f {m : wm} {Z : Nat} : qv_fresh (qx_new Z m) Z (m 0 0) := by
  unfold qx_new
  refine ⟨⟨?_, ?_, ?_, ?_, ?_, ?_, ?_⟩, ?_, ?_, ?_, ?_, ?_, ?_⟩
  · simp (disch := omega) only [qx_fl_n, qw_u2_n]
  · simp (disch := omega) only [qx_fl_n, qw_u2_n, qw_u2_e]
  · simp (disch := omega) only [qx_fl_n, qw_u2_n, qw_u2_e]
  · simp (disch := omega) only [qx_fl_n, qw_u2_n, qw_u2_e]
  · simp (disch := omega) only [qx_fl_n, qw_u2_n, qw_u2_e]
  · simp (disch := omega) only [qx_fl_n, qw_u2_n, qw_u2_e]
  · simp (disch := omega) only [qx_fl_n, qw_u2_n, qw_u2_e]
  · intro y hy
    simp (disch := omega) only [qx_fl_n, qx_fl_s]
  · intro y hy
    simp (disch := omega) only [qx_fl_n, qx_fl_s]
  · intro y hy
    simp (disch := omega) only [qx_fl_n, qx_fl_s]
  · intro y hy
    simp (disch := omega) only [qx_fl_n, qx_fl_s]
  · intro y hy
    simp (disch := omega) only [qx_fl_n, qx_fl_s]
  · intro y hy
    simp (disch := omega) only [qx_fl_n, qx_fl_s]
/-! the reference's begins -/
def qx_b0 (i : Nat) (t : wm) : wm := fun x y => if x = 1 ∧ i ≤ y ∧ y < 935 then nI 0 else t x y
theorem qx_b0_s {i : Nat} {t : wm} {x y : Nat} (g : x = 1 ∧ i ≤ y ∧ y < 935) : qx_b0 i t x y = nI 0 := if_pos g
theorem qx_b0_n {i : Nat} {t : wm} {x y : Nat} (g : ¬ (x = 1 ∧ i ≤ y ∧ y < 935)) : qx_b0 i t x y = t x y := if_neg g
theorem qm_begins_10 {x1 x2 : Int32} : ∀ (d n i : Nat) (t : wm), i ≤ 935 → 935 - i = d → d < n →
    qf_X3_begins_10 n x1 x2 (nI i) t = qf_X3_begins_30 x1 x2 (qx_b0 i t) := by
  intro d
  induction d with
  | zero =>
    intro n i t hi hd hn
    obtain ⟨n, rfl⟩ : ∃ k, n = k + 1 := ⟨n - 1, by omega⟩
    rw [qf_X3_begins_10]
    simp (disch := omega) only [qa_le]
    rw [if_pos (by omega)]
    congr 1
    funext x y
    rw [qx_b0_n (by omega)]
  | succ d ih =>
    intro n i t hi hd hn
    obtain ⟨n, rfl⟩ : ∃ k, n = k + 1 := ⟨n - 1, by omega⟩
    rw [qf_X3_begins_10]
    simp (disch := omega) only [qn_e, qa_le, nI_add, qa_g, qa_cl]
    rw [if_neg (by omega), ih n (i + 1) _ (by omega) (by omega) (by omega)]
    congr 1
    funext x y
    by_cases hx : x = 1 ∧ y = i
    · rw [qx_b0_n (by omega), qx_b0_s (by omega), qw_u2_e _ _ hx.1 hx.2]
    · by_cases hr : x = 1 ∧ i ≤ y ∧ y < 935
      · rw [qx_b0_s (by omega), qx_b0_s hr]
      · rw [qx_b0_n (by omega), qx_b0_n hr, qw_u2_n _ _ hx]
def qx_b1 (i : Nat) (t : wm) : wm := fun x y => if x = 1 ∧ 215 + 3 * i ≤ y ∧ y < 263 ∧ (y - 215) % 3 < 2 then -9 else t x y
theorem qx_b1_s {i : Nat} {t : wm} {x y : Nat} (g : x = 1 ∧ 215 + 3 * i ≤ y ∧ y < 263 ∧ (y - 215) % 3 < 2) : qx_b1 i t x y = -9 := if_pos g
theorem qx_b1_n {i : Nat} {t : wm} {x y : Nat} (g : ¬ (x = 1 ∧ 215 + 3 * i ≤ y ∧ y < 263 ∧ (y - 215) % 3 < 2)) : qx_b1 i t x y = t x y := if_neg g
theorem qm_begins_58 : ∀ (d n i : Nat) (t : wm), i ≤ 16 → 16 - i = d → d < n →
    qf_X3_begins_58 n (nI i) t = some (qx_b1 i t) := by
  intro d
  induction d with
  | zero =>
    intro n i t hi hd hn
    obtain ⟨n, rfl⟩ : ∃ k, n = k + 1 := ⟨n - 1, by omega⟩
    rw [qf_X3_begins_58]
    simp (disch := omega) only [qa_le]
    rw [if_pos (by omega)]
    congr 1
    funext x y
    rw [qx_b1_n (by omega)]
  | succ d ih =>
    intro n i t hi hd hn
    obtain ⟨n, rfl⟩ : ∃ k, n = k + 1 := ⟨n - 1, by omega⟩
    rw [qf_X3_begins_58]
    simp (disch := omega) only [qn_e, qa_le, pk_mul, nI_add, qa_g, qa_cl]
    rw [if_neg (by omega), ih n (i + 1) _ (by omega) (by omega) (by omega)]
    congr 1
    funext x y
    by_cases hx : x = 1 ∧ y = 215 + 3 * i + 1
    · rw [qx_b1_n (by omega), qx_b1_s (by omega), qw_u2_e _ _ hx.1 hx.2]
    · by_cases hz : x = 1 ∧ y = 215 + 3 * i + 0
      · rw [qx_b1_n (by omega), qx_b1_s (by omega), qw_u2_n _ _ hx, qw_u2_e _ _ hz.1 hz.2]
      · by_cases hr : x = 1 ∧ 215 + 3 * i ≤ y ∧ y < 263 ∧ (y - 215) % 3 < 2
        · rw [qx_b1_s (by omega), qx_b1_s hr]
        · rw [qx_b1_n (by omega), qx_b1_n hr, qw_u2_n _ _ hx, qw_u2_n _ _ hz]
def qx_beg (Z : Nat) (t : wm) : wm := qx_b1 0 (qw_u2 (qw_u2 (qw_u2 (qx_b0 0 t) 1 14 (t 1 14)) 1 11 (nI Z)) 1 12 (nI (Z - 1)))
theorem qm_begins {t : wm} {Z : Nat} (h1 : 2 ≤ Z) (h2 : Z ≤ 16) : qf_X3_begins (nI Z) t = some (qx_beg Z t) := by
  unfold qf_X3_begins
  rw [qn_e, qm_begins_10 935 qfu 0 t (by omega) (by omega) (by unfold qfu; omega)]
  unfold qf_X3_begins_30
  rw [qn_e, qn_e, qn_e, qa_sub (by omega), qn_e, qm_begins_58 16 qfu 0 _ (by omega) (by omega) (by unfold qfu; omega)]
  rfl
theorem qx_beg_o {Z : Nat} {t : wm} {c : Nat} (hc : c ≠ 1) : qx_beg Z t c = t c := by
  funext y
  unfold qx_beg
  simp (disch := omega) only [qx_b1_n, qx_b0_n, qw_u2_n]
theorem qx_beg_f {Z : Nat} {t : wm} : qv_freshS (qx_beg Z t 1) Z (t 1 14) := by
  unfold qx_beg
  refine ⟨?_, ?_, ?_, ?_, ?_⟩
  · intro y hy
    simp (disch := omega) only [qx_b1_n, qx_b0_s, qw_u2_n]
  · simp (disch := omega) only [qx_b1_n, qw_u2_e, qw_u2_n]
  · simp (disch := omega) only [qx_b1_n, qw_u2_e, qw_u2_n]
  · simp (disch := omega) only [qx_b1_n, qw_u2_e, qw_u2_n]
  · intro k hk
    refine ⟨?_, ?_, ?_⟩
    · simp (disch := omega) only [qx_b1_s]
    · simp (disch := omega) only [qx_b1_s]
    · simp (disch := omega) only [qx_b1_n, qx_b0_s, qw_u2_n]
/-! setRepair, begin, undo, append, clearText -/
theorem qk_R {M : wM} {h : Nat → Nat} {t : wm} (I : qv_I M h t) : qs_R (M 0) (t 1) := by
  obtain ⟨P, D, hP, hD, R, -⟩ := I
  exact R
/-- both record, then change their state alike -/
theorem qk_edit {M : wM} {h : Nat → Nat} {t : wm} (I : qv_I M h t) : ∃ (M' : wM) (h' : Nat → Nat) (ta : wm), qf_X2_record 0 M h = some (M', h') ∧ qf_X3_acts t = some ta ∧ M' 0 = M 0 ∧ ta 1 = t 1 ∧ M' 9 = M 9 ∧
    ∀ (m' : wm) (t' : wm), (∀ c : Nat, c ≠ 1 → t' c = ta c) → qs_R m' (t' 1) → qv_I (qw_u1 M' 0 m') h' t' := by
  obtain ⟨P, D, hP, hD, R, a1, a2, a3, a4, a5, a6, H⟩ := I
  obtain ⟨ta, k1, k2, k3, k4, k5, k6, k7⟩ := qm_acts a3 a2 hP
  obtain ⟨M', h', c1, c2, c3, c4⟩ := qe_record (o := 0) (p' := ta 2) (s := t 1) (by decide) hP a1 H R k6 k7
  have hp2 := qv_P2_le hP
  refine ⟨M', h', ta, c1, k1, c2 0 (by decide), k2, c2 9 (by decide), fun m' t' ho R' => ⟨qv_P2 P, D, hp2.1, hD, ?_, ?_, ?_, ?_, ?_, ?_, ?_, ?_⟩⟩
  · rw [qw_u1_s]
    exact R'
  · rw [qw_u1_n _ _ (by decide), c3, qw_u2_s]
  · rw [ho 0 (by decide), k5]
  · rw [ho 0 (by decide), k4 4 (by decide), a3]
  · rw [qw_u1_n _ _ (by decide), c3, qw_u2_n _ _ (by decide), a4]
  · rw [ho 0 (by decide), k4 6 (by decide), a5]
  · intro i hi
    rw [qw_u1_n _ _ (by decide), c3, qw_u2_n _ _ (by omega), ho 4 (by decide), k3 4 (by decide), a6 i hi]
  · rw [ho 2 (by decide)]
    exact qv_hist_cg hp2.1 (fun k h1 h2 => qw_u1_n _ _ (by omega)) (fun k _ => rfl) c4
