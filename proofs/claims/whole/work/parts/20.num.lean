theorem qa_le {a b : Nat} (ha : a < 2147483648) (hb : b < 2147483648) : (nI a ≤ nI b) = (a ≤ b) := propext (nI_leI ha hb)
theorem qa_lt {a b : Nat} (ha : a < 2147483648) (hb : b < 2147483648) : (nI a < nI b) = (a < b) := propext (nI_ltI ha hb)
theorem qa_eq {a b : Nat} (ha : a < 2147483648) (hb : b < 2147483648) : (nI a = nI b) = (a = b) := propext (nI_eq ha hb)
theorem qa_z : (0 : Int32) = nI 0 := rfl
theorem qa_e0 {a : Nat} (ha : a < 2147483648) : (nI a = 0) = (a = 0) := by rw [qa_z, qa_eq ha (by decide)]
theorem qa_l0 {a : Nat} (ha : a < 2147483648) : (nI a < 0) = False := by rw [qa_z, qa_lt ha (by decide)]; exact eq_false (Nat.not_lt_zero _)
theorem qa_0l {a : Nat} (ha : a < 2147483648) : (0 < nI a) = (0 < a) := by rw [qa_z, qa_lt (by decide) ha]
theorem qa_0e {a : Nat} (ha : a < 2147483648) : (0 ≤ nI a) = True := by rw [qa_z, qa_le (by decide) ha]; exact eq_true (Nat.zero_le _)
theorem qa_e00 {a : Nat} (ha : a < 2147483648) : (nI a ≤ 0) = (a = 0) := by rw [qa_z, qa_le ha (by decide)]; exact propext Nat.le_zero
theorem qa_cl {a : Nat} (ha : a < 2147483648) : (nI a).toNatClampNeg = a := nI_clamp ha
theorem qa_sub {a b : Nat} (h : b ≤ a) : nI a - nI b = nI (a - b) := pk_sub h
theorem qa_rem {a d : Nat} (ha : a < 2147483648) (h0 : 0 < d) (hd : d < 2147483648) : nI a - nI a / nI d * nI d = nI (a % d) := pk_rem ha h0 hd
theorem qa_g {β : Type} {n N : Nat} {k : Option β} (h : n < N) (hN : N < 2147483648) : qg (vp_in (nI n) N) k = k := qg_t (vp_in_nI h hN)
theorem qa_gn {β : Type} {d : Nat} {k : Option β} (h0 : 0 < d) (hd : d < 2147483648) : qg (¬ nI d = 0) k = k := qg_t (by rw [qa_e0 hd]; omega)
theorem qa_gT {β : Type} {k : Option β} : qg True k = k := qg_t trivial
theorem qa_n9 {a : Nat} (ha : a < 2147483648) : (nI a = -9) = False := eq_false (fun h => by
  have := congrArg Int32.toInt h
  rw [nI_toInt ha] at this
  have e : (-9 : Int32).toInt = -9 := by decide
  omega)
theorem qa_9n {a : Nat} (ha : a < 2147483648) : ((-9 : Int32) = nI a) = False := eq_false (fun h => by
  have := qa_n9 ha
  rw [← h] at this
  exact this ▸ rfl)
theorem qa_s1 {α β : Type} {a : α} {k : α → Option β} : qb1 (some a) k = k a := rfl
theorem qa_s2 {α γ β : Type} {a : α} {b : γ} {k : α → γ → Option β} : qb2 (some (a, b)) k = k a b := rfl
theorem qa_s3 {α γ δ β : Type} {a : α} {b : γ} {c : δ} {k : α → γ → δ → Option β} : qb3 (some (a, b, c)) k = k a b c := rfl
theorem qa_99 : ((-9 : Int32) = -9) = True := eq_true rfl
theorem qa_m1 (n : Nat) : nI (n + 1) + (-1) = nI n := pk_m1 n
theorem qa_nz {n : Nat} {x : Int32} (h0 : 0 ≤ x.toInt) (h : x.toInt < n) : ∃ q : Nat, q < n ∧ x = nI q := by
  refine ⟨x.toInt.toNat, by omega, Int32.toInt_inj.mp ?_⟩
  have := x.toInt_lt
  rw [nI_toInt (by omega)]
  omega
theorem qa_i9 : (-9 : Int32).toInt = -9 := by decide
theorem qa_lt_iff (x y : Int32) : x < y ↔ x.toInt < y.toInt := Int32.lt_iff_toInt_lt
theorem qa_le_iff (x y : Int32) : x ≤ y ↔ x.toInt ≤ y.toInt := Int32.le_iff_toInt_le
theorem qa_eq_iff (x y : Int32) : x = y ↔ x.toInt = y.toInt := Int32.toInt_inj.symm
theorem qa_ti {n : Nat} (h : n < 2147483648) : (nI n).toInt = (n : Int) := nI_toInt h
/-- an int between two numbers, or outside -/
theorem qa_rng (x : Int32) (n : Nat) (hn : n < 2147483648) : (∃ q : Nat, q ≤ n ∧ x = nI q) ∨ x < 0 ∨ nI n < x := by
  rcases Int.lt_or_le x.toInt 0 with h | h
  · exact Or.inr (Or.inl ((qa_lt_iff _ _).mpr h))
  · rcases Int.lt_or_le (n : Int) x.toInt with h2 | h2
    · exact Or.inr (Or.inr ((qa_lt_iff _ _).mpr (by rw [qa_ti hn]; exact h2)))
    · obtain ⟨q, hq, e⟩ := qa_nz (n := n + 1) h (by omega)
      exact Or.inl ⟨q, by omega, e⟩
theorem qa_nlt {x : Int32} {q : Nat} (hq : q < 2147483648) (e : x = nI q) : ¬ x < 0 := by
  rw [e, qa_l0 hq]
  exact fun h => h
theorem qw_u2_s (m : wm) (c i : Nat) (v : Int32) : qw_u2 m c i v c i = v := by rw [qw_u2_at, if_pos ⟨rfl, rfl⟩]
theorem qw_u2_n (m : wm) {c i x y : Nat} (v : Int32) (h : ¬ (x = c ∧ y = i)) : qw_u2 m c i v x y = m x y := by rw [qw_u2_at, if_neg h]
/-! Arrays.fill -/
theorem qp_fill_5 (ca le : Nat) (x1 : Int32) (hle : le < 5000) : ∀ (d n i : Nat) (m : wm), i ≤ le → le - i = d → d < n →
    ∃ m' : wm, qf_J7_fill_53178_5 n ca le x1 (nI i) (nI le) m = some m' ∧ ∀ x y, m' x y = if x = ca ∧ i ≤ y ∧ y < le then x1 else m x y := by
  intro d
  induction d with
  | zero =>
    intro n i m hi hd hn
    obtain ⟨n, rfl⟩ : ∃ k, n = k + 1 := ⟨n - 1, by omega⟩
    refine ⟨m, ?_, fun x y => ?_⟩
    · rw [qf_J7_fill_53178_5]
      simp (disch := omega) only [qa_le]
      rw [if_pos (by omega)]
    · rw [if_neg (by omega)]
  | succ d ih =>
    intro n i m hi hd hn
    obtain ⟨n, rfl⟩ : ∃ k, n = k + 1 := ⟨n - 1, by omega⟩
    obtain ⟨m', h1, h2⟩ := ih n (i + 1) (qw_u2 m ca i x1) (by omega) (by omega) (by omega)
    refine ⟨m', ?_, fun x y => ?_⟩
    · rw [qf_J7_fill_53178_5]
      simp (disch := omega) only [qa_le, qn, qa_g, qa_cl, nI_add]
      rw [if_neg (by omega)]
      exact h1
    · rw [h2, qw_u2_at]
      by_cases hx : x = ca ∧ y = i
      · rw [if_neg (by omega), if_pos hx, if_pos (by omega)]
      · rw [if_neg hx]
        by_cases hy : x = ca ∧ i ≤ y ∧ y < le
        · rw [if_pos hy, if_pos (by omega)]
        · rw [if_neg hy, if_neg (by omega)]
theorem qp_fill (ca le : Nat) (x1 : Int32) (hle : le < 5000) (m : wm) : qf_J7_fill_53178 ca le x1 m = some (fun x y => if x = ca ∧ y < le then x1 else m x y) := by
  obtain ⟨m', h1, h2⟩ := qp_fill_5 ca le x1 hle le qfu 0 m (by omega) (by omega) (by unfold qfu; omega)
  unfold qf_J7_fill_53178
  simp only [qn]
  rw [h1]
  congr 1
  funext x y
  rw [h2]
  by_cases hy : x = ca ∧ y < le
  · rw [if_pos hy, if_pos (by omega)]
  · rw [if_neg hy, if_neg (by omega)]
/-! a copy of a whole row -/
theorem qp_cpy0 (f g : Nat → Int32) (n i : Nat) : va_cpy f g 0 0 n i = if i < n then f i else g i := by
  unfold va_cpy
  by_cases h : i < n
  · rw [if_pos (by omega), if_pos h]
    congr 1
    omega
  · rw [if_neg (by omega), if_neg h]
theorem qw_uc_at (m : wm) (c : Nat) (f : Nat → Int32) (x y : Nat) : qw_uc m c f x y = if x = c then f y else m x y := by
  unfold qw_uc
  by_cases h : x = c
  · rw [if_pos h, if_pos h]
  · rw [if_neg h, if_neg h]
theorem qp_copyRows_2 (t : Nat) (mo : wm) (len : Nat) (h4 : 4 ≤ t) (h8 : t < 8) (hl : len = qw_rl t) : ∀ (d n i : Nat) (m : wm), i ≤ qw_nr t → qw_nr t - i = d → d < n →
    ∃ m' : wm, qf_X0_copyRows_2 n t mo (nI len) (nI i) m = some m' ∧ ∀ x y, m' x y = if qw_rb t + i ≤ x ∧ x < qw_rb t + qw_nr t ∧ y < len then mo x y else m x y := by
  have hn6 : qw_nr t ≤ 6 := by
    unfold qw_nr
    split
    · omega
    · split <;> omega
  have hl2 : len ≤ 200 := by
    subst hl
    unfold qw_rl
    split
    · omega
    · split
      · omega
      · split <;> omega
  intro d
  induction d with
  | zero =>
    intro n i m hi hd hn
    obtain ⟨n, rfl⟩ : ∃ k, n = k + 1 := ⟨n - 1, by omega⟩
    refine ⟨m, ?_, fun x y => ?_⟩
    · rw [qf_X0_copyRows_2]
      simp (disch := omega) only [qa_le, qn]
      rw [if_pos (by omega)]
    · rw [if_neg (by omega)]
  | succ d ih =>
    intro n i m hi hd hn
    obtain ⟨n, rfl⟩ : ∃ k, n = k + 1 := ⟨n - 1, by omega⟩
    obtain ⟨m', h1, h2⟩ := ih n (i + 1) (qw_uc m (qw_rb t + i) (va_cpy (mo (qw_rb t + i)) (m (qw_rb t + i)) 0 0 len)) (by omega) (by omega) (by omega)
    refine ⟨m', ?_, fun x y => ?_⟩
    · rw [qf_X0_copyRows_2]
      simp (disch := omega) only [qa_le, qn, qa_g, qa_cl, nI_add, qa_l0, not_false_eq_true, qa_gT]
      rw [if_neg (by omega), qg_t (by omega), qg_t (by omega)]
      exact h1
    · rw [h2, qw_uc_at, qp_cpy0]
      by_cases hx : x = qw_rb t + i
      · subst hx
        rw [if_neg (by omega), if_pos rfl]
        by_cases hy : y < len
        · rw [if_pos hy, if_pos (by omega)]
        · rw [if_neg hy, if_neg (by omega)]
      · rw [if_neg hx]
        by_cases hy : qw_rb t + i ≤ x ∧ x < qw_rb t + qw_nr t ∧ y < len
        · rw [if_pos hy, if_pos (by omega)]
        · rw [if_neg hy, if_neg (by omega)]
theorem qp_copyRows (t : Nat) (mo : wm) (len : Nat) (h4 : 4 ≤ t) (h8 : t < 8) (hl : len = qw_rl t) (m : wm) :
    qf_X0_copyRows t mo (nI len) m = some (fun x y => if qw_rb t ≤ x ∧ x < qw_rb t + qw_nr t ∧ y < len then mo x y else m x y) := by
  have hn6 : qw_nr t ≤ 6 := by
    unfold qw_nr
    split
    · omega
    · split <;> omega
  obtain ⟨m', h1, h2⟩ := qp_copyRows_2 t mo len h4 h8 hl (qw_nr t) qfu 0 m (by omega) (by omega) (by unfold qfu; omega)
  unfold qf_X0_copyRows
  rw [h1]
  congr 1
  funext x y
  exact h2 x y
/-- the cells of a state, and how long they are -/
def qs_len (c : Nat) : Nat := if c = 0 then 7 else if c < 4 ∨ (8 ≤ c ∧ c < 25) then qw_lnS c else 0
theorem qp_copyFrom (mo m : wm) : qf_X0_copyFrom mo m = some (fun x y => if y < qs_len x then mo x y else m x y) := by
  have r4 : ∀ m : wm, qf_X0_copyRows 4 mo (nI 40) m = some (fun x y => if 8 ≤ x ∧ x < 13 ∧ y < 40 then mo x y else m x y) := fun m => qp_copyRows 4 mo 40 (by decide) (by decide) rfl m
  have r5 : ∀ m : wm, qf_X0_copyRows 5 mo (nI 16) m = some (fun x y => if 13 ≤ x ∧ x < 16 ∧ y < 16 then mo x y else m x y) := fun m => qp_copyRows 5 mo 16 (by decide) (by decide) rfl m
  have r6 : ∀ m : wm, qf_X0_copyRows 6 mo (nI 200) m = some (fun x y => if 16 ≤ x ∧ x < 19 ∧ y < 200 then mo x y else m x y) := fun m => qp_copyRows 6 mo 200 (by decide) (by decide) rfl m
  have r7 : ∀ m : wm, qf_X0_copyRows 7 mo (nI 12) m = some (fun x y => if 19 ≤ x ∧ x < 25 ∧ y < 12 then mo x y else m x y) := fun m => qp_copyRows 7 mo 12 (by decide) (by decide) rfl m
  unfold qf_X0_copyFrom
  simp only [qn, r4, r5, r6, r7, qa_s1]
  congr 1
  funext x y
  simp only [qw_u2_at, qw_uc_at, qp_cpy0]
  rcases (show x = 0 ∨ x = 1 ∨ x = 2 ∨ x = 3 ∨ (4 ≤ x ∧ x < 8) ∨ (8 ≤ x ∧ x < 13) ∨ (13 ≤ x ∧ x < 16) ∨ (16 ≤ x ∧ x < 19) ∨ (19 ≤ x ∧ x < 25) ∨ 25 ≤ x by omega) with h | h | h | h | h | h | h | h | h | h
  · subst h
    rcases (show y = 0 ∨ y = 1 ∨ y = 2 ∨ y = 3 ∨ y = 4 ∨ y = 5 ∨ y = 6 ∨ 7 ≤ y by omega) with h | h | h | h | h | h | h | h
    · subst h; rfl
    · subst h; rfl
    · subst h; rfl
    · subst h; rfl
    · subst h; rfl
    · subst h; rfl
    · subst h; rfl
    · simp (disch := omega) only [qs_len, if_pos, if_neg, ↓reduceIte]
  · subst h
    simp (disch := omega) only [qs_len, qw_lnS, if_pos, if_neg, ↓reduceIte]
  · subst h
    simp (disch := omega) only [qs_len, qw_lnS, if_pos, if_neg, ↓reduceIte]
  · subst h
    simp (disch := omega) only [qs_len, qw_lnS, if_pos, if_neg, ↓reduceIte]
  all_goals simp (disch := omega) only [qs_len, qw_lnS, if_pos, if_neg, ↓reduceIte]
  all_goals by_cases hy : y < 12 <;> by_cases hy2 : y < 16 <;> by_cases hy3 : y < 40 <;> by_cases hy4 : y < 200 <;> simp (disch := omega) only [if_pos, if_neg, ↓reduceIte]
