theorem qa_le {a b : Nat} (ha : a < 2147483648) (hb : b < 2147483648) : (nI a ≤ nI b) = (a ≤ b) := propext (nI_leI ha hb)
theorem qa_lt {a b : Nat} (ha : a < 2147483648) (hb : b < 2147483648) : (nI a < nI b) = (a < b) := propext (nI_ltI ha hb)
theorem qa_eq {a b : Nat} (ha : a < 2147483648) (hb : b < 2147483648) : (nI a = nI b) = (a = b) := propext (nI_eq ha hb)
theorem qa_z : (0 : Int32) = nI 0 := rfl
theorem qa_e0 {a : Nat} (ha : a < 2147483648) : (nI a = 0) = (a = 0) := by rw [qa_z, qa_eq ha (by decide)]
theorem qa_l0 {a : Nat} (ha : a < 2147483648) : (nI a < 0) = False := by rw [qa_z, qa_lt ha (by decide)]; exact eq_false (Nat.not_lt_zero _)
theorem qa_0l {a : Nat} (ha : a < 2147483648) : (0 < nI a) = (0 < a) := by rw [qa_z, qa_lt (by decide) ha]
theorem qa_0e {a : Nat} (ha : a < 2147483648) : (0 ≤ nI a) = True := by rw [qa_z, qa_le (by decide) ha]; exact eq_true (Nat.zero_le _)
theorem qa_e00 {a : Nat} (ha : a < 2147483648) : (nI a ≤ 0) = (a = 0) := by rw [qa_z, qa_le ha (by decide)]; exact propext Nat.le_zero
theorem qa_cl {a : Nat} (ha : a < 2147483648) : (nI a).toNatClampNeg = a := nI_clamp ha
theorem qa_sub {a b : Nat} (h : b ≤ a) : nI a - nI b = nI (a - b) := pk_sub h
theorem qa_rem {a d : Nat} (ha : a < 2147483648) (h0 : 0 < d) (hd : d < 2147483648) : nI a - nI a / nI d * nI d = nI (a % d) := pk_rem ha h0 hd
theorem qa_g {β : Type} {n N : Nat} {k : Option β} (h : n < N) (hN : N < 2147483648) : qg (vp_in (nI n) N) k = k := qg_t (vp_in_nI h hN)
theorem qa_gn {β : Type} {d : Nat} {k : Option β} (h0 : 0 < d) (hd : d < 2147483648) : qg (¬ nI d = 0) k = k := qg_t (by rw [qa_e0 hd]; omega)
theorem qa_gT {β : Type} {k : Option β} : qg True k = k := qg_t trivial
theorem qa_n9 {a : Nat} (ha : a < 2147483648) : (nI a = -9) = False := eq_false (fun h => by
  have := congrArg Int32.toInt h
  rw [nI_toInt ha] at this
  have e : (-9 : Int32).toInt = -9 := by decide
  omega)
theorem qa_9n {a : Nat} (ha : a < 2147483648) : ((-9 : Int32) = nI a) = False := eq_false (fun h => by
  have := qa_n9 ha
  rw [← h] at this
  exact this ▸ rfl)
theorem qa_s1 {α β : Type} {a : α} {k : α → Option β} : qb1 (some a) k = k a := rfl
theorem qa_s2 {α γ β : Type} {a : α} {b : γ} {k : α → γ → Option β} : qb2 (some (a, b)) k = k a b := rfl
theorem qa_s3 {α γ δ β : Type} {a : α} {b : γ} {c : δ} {k : α → γ → δ → Option β} : qb3 (some (a, b, c)) k = k a b c := rfl
theorem qa_99 : ((-9 : Int32) = -9) = True := eq_true rfl
theorem qa_m1 (n : Nat) : nI (n + 1) + (-1) = nI n := pk_m1 n
theorem qa_nz {n : Nat} {x : Int32} (h0 : 0 ≤ x.toInt) (h : x.toInt < n) : ∃ q : Nat, q < n ∧ x = nI q := by
  refine ⟨x.toInt.toNat, by omega, Int32.toInt_inj.mp ?_⟩
  have := x.toInt_lt
  rw [nI_toInt (by omega)]
  omega
theorem qa_i9 : (-9 : Int32).toInt = -9 := by decide
theorem qa_lt_iff (x y : Int32) : x < y ↔ x.toInt < y.toInt := Int32.lt_iff_toInt_lt
theorem qa_le_iff (x y : Int32) : x ≤ y ↔ x.toInt ≤ y.toInt := Int32.le_iff_toInt_le
theorem qa_eq_iff (x y : Int32) : x = y ↔ x.toInt = y.toInt := Int32.toInt_inj.symm
theorem qa_ti {n : Nat} (h : n < 2147483648) : (nI n).toInt = (n : Int) := nI_toInt h
/-- an int between two numbers, or outside -/
theorem qa_rng (x : Int32) (n : Nat) (hn : n < 2147483648) : (∃ q : Nat, q ≤ n ∧ x = nI q) ∨ x < 0 ∨ nI n < x := by
  rcases Int.lt_or_le x.toInt 0 with h | h
  · exact Or.inr (Or.inl ((qa_lt_iff _ _).mpr h))
  · rcases Int.lt_or_le (n : Int) x.toInt with h2 | h2
    · exact Or.inr (Or.inr ((qa_lt_iff _ _).mpr (by rw [qa_ti hn]; exact h2)))
    · obtain ⟨q, hq, e⟩ := qa_nz (n := n + 1) h (by omega)
      exact Or.inl ⟨q, by omega, e⟩
theorem qa_nlt {x : Int32} {q : Nat} (hq : q < 2147483648) (e : x = nI q) : ¬ x < 0 := by
  rw [e, qa_l0 hq]
  exact fun h => h
theorem qw_u2_s (m : wm) (c i : Nat) (v : Int32) : qw_u2 m c i v c i = v := by rw [qw_u2_at, if_pos ⟨rfl, rfl⟩]
theorem qw_u2_n (m : wm) {c i x y : Nat} (v : Int32) (h : ¬ (x = c ∧ y = i)) : qw_u2 m c i v x y = m x y := by rw [qw_u2_at, if_neg h]
/-! Arrays.fill -/
theorem qp_fill_5 (ca le : Nat) (x1 : Int32) (hle : le < 5000) : ∀ (d n i : Nat) (m : wm), i ≤ le → le - i = d → d < n →
    ∃ m' : wm, qf_J7_fill_53178_5 n ca le x1 (nI i) (nI le) m = some m' ∧ ∀ x y, m' x y = if x = ca ∧ i ≤ y ∧ y < le then x1 else m x y := by
  intro d
  induction d with
  | zero =>
    intro n i m hi hd hn
    obtain ⟨n, rfl⟩ : ∃ k, n = k + 1 := ⟨n - 1, by omega⟩
    refine ⟨m, ?_, fun x y => ?_⟩
    · rw [qf_J7_fill_53178_5]
      simp (disch := omega) only [qa_le]
      rw [if_pos (by omega)]
    · rw [if_neg (by omega)]
  | succ d ih =>
    intro n i m hi hd hn
    obtain ⟨n, rfl⟩ : ∃ k, n = k + 1 := ⟨n - 1, by omega⟩
    obtain ⟨m', h1, h2⟩ := ih n (i + 1) (qw_u2 m ca i x1) (by omega) (by omega) (by omega)
    refine ⟨m', ?_, fun x y => ?_⟩
    · rw [qf_J7_fill_53178_5]
      simp (disch := omega) only [qa_le, qn, qa_g, qa_cl, nI_add]
      rw [if_neg (by omega)]
      exact h1
    · rw [h2, qw_u2_at]
      by_cases hx : x = ca ∧ y = i
      · rw [if_neg (by omega), if_pos hx, if_pos (by omega)]
      · rw [if_neg hx]
        by_cases hy : x = ca ∧ i ≤ y ∧ y < le
        · rw [if_pos hy, if_pos (by omega)]
        · rw [if_neg hy, if_neg (by omega)]
theorem qp_fill (ca le : Nat) (x1 : Int32) (hle : le < 5000) (m : wm) : qf_J7_fill_53178 ca le x1 m = some (fun x y => if x = ca ∧ y < le then x1 else m x y) := by
  obtain ⟨m', h1, h2⟩ := qp_fill_5 ca le x1 hle le qfu 0 m (by omega) (by omega) (by unfold qfu; omega)
  unfold qf_J7_fill_53178
  simp only [qn]
  rw [h1]
  congr 1
  funext x y
  rw [h2]
  by_cases hy : x = ca ∧ y < le
  · rw [if_pos hy, if_pos (by omega)]
  · rw [if_neg hy, if_neg (by omega)]
/-! a copy of a whole row -/
theorem qp_cpy0 (f g : Nat → Int32) (n i : Nat) : va_cpy f g 0 0 n i = if i < n then f i else g i := by
  unfold va_cpy
  by_cases h : i < n
  · rw [if_pos (by omega), if_pos h]
    congr 1
    omega
  · rw [if_neg (by omega), if_neg h]
theorem qw_uc_at (m : wm) (c : Nat) (f : Nat → Int32) (x y : Nat) : qw_uc m c f x y = if x = c then f y else m x y := by
  unfold qw_uc
  by_cases h : x = c
  · rw [if_pos h, if_pos h]
  · rw [if_neg h, if_neg h]
theorem qp_copyRows_2 (t : Nat) (mo : wm) (len : Nat) (h4 : 4 ≤ t) (h8 : t < 8) (hl : len = qw_rl t) : ∀ (d n i : Nat) (m : wm), i ≤ qw_nr t → qw_nr t - i = d → d < n →
    ∃ m' : wm, qf_X0_copyRows_2 n t mo (nI len) (nI i) m = some m' ∧ ∀ x y, m' x y = if qw_rb t + i ≤ x ∧ x < qw_rb t + qw_nr t ∧ y < len then mo x y else m x y := by
  have hn6 : qw_nr t ≤ 6 := by
    unfold qw_nr
    split
    · omega
    · split <;> omega
  have hl2 : len ≤ 200 := by
    subst hl
    unfold qw_rl
    split
    · omega
    · split
      · omega
      · split <;> omega
  intro d
  induction d with
  | zero =>
    intro n i m hi hd hn
    obtain ⟨n, rfl⟩ : ∃ k, n = k + 1 := ⟨n - 1, by omega⟩
    refine ⟨m, ?_, fun x y => ?_⟩
    · rw [qf_X0_copyRows_2]
      simp (disch := omega) only [qa_le, qn]
      rw [if_pos (by omega)]
    · rw [if_neg (by omega)]
  | succ d ih =>
    intro n i m hi hd hn
    obtain ⟨n, rfl⟩ : ∃ k, n = k + 1 := ⟨n - 1, by omega⟩
    obtain ⟨m', h1, h2⟩ := ih n (i + 1) (qw_uc m (qw_rb t + i) (va_cpy (mo (qw_rb t + i)) (m (qw_rb t + i)) 0 0 len)) (by omega) (by omega) (by omega)
    refine ⟨m', ?_, fun x y => ?_⟩
    · rw [qf_X0_copyRows_2]
      simp (disch := omega) only [qa_le, qn, qa_g, qa_cl, nI_add, qa_l0, not_false_eq_true, qa_gT]
      rw [if_neg (by omega), qg_t (by omega), qg_t (by omega)]
      exact h1
    · rw [h2, qw_uc_at, qp_cpy0]
      by_cases hx : x = qw_rb t + i
      · subst hx
        rw [if_neg (by omega), if_pos rfl]
        by_cases hy : y < len
        · rw [if_pos hy, if_pos (by omega)]
        · rw [if_neg hy, if_neg (by omega)]
      · rw [if_neg hx]
        by_cases hy : qw_rb t + i ≤ x ∧ x < qw_rb t + qw_nr t ∧ y < len
        · rw [if_pos hy, if_pos (by omega)]
        · rw [if_neg hy, if_neg (by omega)]
theorem qp_copyRows (t : Nat) (mo : wm) (len : Nat) (h4 : 4 ≤ t) (h8 : t < 8) (hl : len = qw_rl t) (m : wm) :
    qf_X0_copyRows t mo (nI len) m = some (fun x y => if qw_rb t ≤ x ∧ x < qw_rb t + qw_nr t ∧ y < len then mo x y else m x y) := by
  have hn6 : qw_nr t ≤ 6 := by
    unfold qw_nr
    split
    · omega
    · split <;> omega
  obtain ⟨m', h1, h2⟩ := qp_copyRows_2 t mo len h4 h8 hl (qw_nr t) qfu 0 m (by omega) (by omega) (by unfold qfu; omega)
  unfold qf_X0_copyRows
  rw [h1]
  congr 1
  funext x y
  exact h2 x y
/-- the cells of a state, and how long they are -/
def qs_len (c : Nat) : Nat := if c = 0 then 7 else if c < 4 ∨ (8 ≤ c ∧ c < 25) then qw_lnS c else 0
theorem qp_copyFrom (mo m : wm) : qf_X0_copyFrom mo m = some (fun x y => if y < qs_len x then mo x y else m x y) := by
  have r4 : ∀ m : wm, qf_X0_copyRows 4 mo (nI 40) m = some (fun x y => if 8 ≤ x ∧ x < 13 ∧ y < 40 then mo x y else m x y) := fun m => qp_copyRows 4 mo 40 (by decide) (by decide) rfl m
  have r5 : ∀ m : wm, qf_X0_copyRows 5 mo (nI 16) m = some (fun x y => if 13 ≤ x ∧ x < 16 ∧ y < 16 then mo x y else m x y) := fun m => qp_copyRows 5 mo 16 (by decide) (by decide) rfl m
  have r6 : ∀ m : wm, qf_X0_copyRows 6 mo (nI 200) m = some (fun x y => if 16 ≤ x ∧ x < 19 ∧ y < 200 then mo x y else m x y) := fun m => qp_copyRows 6 mo 200 (by decide) (by decide) rfl m
  have r7 : ∀ m : wm, qf_X0_copyRows 7 mo (nI 12) m = some (fun x y => if 19 ≤ x ∧ x < 25 ∧ y < 12 then mo x y else m x y) := fun m => qp_copyRows 7 mo 12 (by decide) (by decide) rfl m
  unfold qf_X0_copyFrom
  simp only [qn, r4, r5, r6, r7, qa_s1]
  congr 1
  funext x y
  simp only [qw_u2_at, qw_uc_at, qp_cpy0]
  rcases (show x = 0 ∨ x = 1 ∨ x = 2 ∨ x = 3 ∨ (4 ≤ x ∧ x < 8) ∨ (8 ≤ x ∧ x < 13) ∨ (13 ≤ x ∧ x < 16) ∨ (16 ≤ x ∧ x < 19) ∨ (19 ≤ x ∧ x < 25) ∨ 25 ≤ x by omega) with h | h | h | h | h | h | h | h | h | h
  · subst h
    rcases (show y = 0 ∨ y = 1 ∨ y = 2 ∨ y = 3 ∨ y = 4 ∨ y = 5 ∨ y = 6 ∨ 7 ≤ y by omega) with h | h | h | h | h | h | h | h
    · subst h; rfl
    · subst h; rfl
    · subst h; rfl
    · subst h; rfl
    · subst h; rfl
    · subst h; rfl
    · subst h; rfl
    · simp (disch := omega) only [qs_len, if_pos, if_neg, ↓reduceIte]
  · subst h
    simp (disch := omega) only [qs_len, qw_lnS, if_pos, if_neg, ↓reduceIte]
  · subst h
    simp (disch := omega) only [qs_len, qw_lnS, if_pos, if_neg, ↓reduceIte]
  · subst h
    simp (disch := omega) only [qs_len, qw_lnS, if_pos, if_neg, ↓reduceIte]
  all_goals simp (disch := omega) only [qs_len, qw_lnS, if_pos, if_neg, ↓reduceIte]
  all_goals by_cases hy : y < 12 <;> by_cases hy2 : y < 16 <;> by_cases hy3 : y < 40 <;> by_cases hy4 : y < 200 <;> simp (disch := omega) only [if_pos, if_neg, ↓reduceIte]
theorem qe_isOv {m : wm} {i : Nat} (h : i < 40) : qf_X0_isOverrun (nI i) m = some (if m 12 i = -9 then nI 0 else nI 1) := by
  unfold qf_X0_isOverrun
  simp (disch := omega) only [qn, qa_g, qa_cl]
  split <;> rfl
def qx_sb (Z T : Nat) : Nat := if T = 0 then Z - 1 else T - 1
theorem qx_sb_lt {Z T : Nat} (h1 : 1 ≤ Z) (h : T < Z) : qx_sb Z T < Z := by
  unfold qx_sb
  split <;> omega
theorem qe_sb {m : wm} {Z T : Nat} (hz : m 0 1 = nI Z) (h1 : 1 ≤ Z) (h2 : Z < 100) (h3 : T < 100) : qf_X0_slotBefore (nI T) m = some (nI (qx_sb Z T)) := by
  unfold qf_X0_slotBefore qx_sb
  by_cases h : T = 0
  · rw [if_pos h]
    simp (disch := omega) only [qn, hz, qa_e00, qa_sub, if_pos]
  · rw [if_neg h]
    simp (disch := omega) only [qn, hz, qa_e00, qa_sub, if_neg]
theorem qe_out {m : wm} {i T : Nat} (hi : i < 40) (hT : T < 16) : qf_X0_outcomeOf (nI i) (nI T) m = some (if m 14 T = m 10 i then (if m 13 T = m 8 i then nI 0 else nI 1) else if m 12 i = -9 then nI 3 else nI 2) := by
  unfold qf_X0_outcomeOf
  simp (disch := omega) only [qn, qa_g, qa_cl, qe_isOv, qa_s1]
  by_cases h1 : m 14 T = m 10 i
  · rw [if_pos h1, if_pos h1]
    by_cases h2 : m 13 T = m 8 i
    · rw [if_pos h2, if_pos h2]
    · rw [if_neg h2, if_neg h2]
  · rw [if_neg h1, if_neg h1]
    by_cases h3 : m 12 i = -9
    · rw [if_pos h3, if_pos h3, if_pos (show nI 0 = 0 from rfl)]
    · rw [if_neg h3, if_neg h3, if_neg (show ¬ nI 1 = 0 by decide)]
/-- the frames of the slot t below H are overrun by v -/
def qx_ov (H : Nat) (v t : Int32) (m : wm) : wm := fun x y => if x = 12 ∧ y < H ∧ m 11 y = t ∧ m 12 y = -9 then v else m x y
theorem qe_ov_2 {t v : Int32} {H : Nat} (hH : H ≤ 40) : ∀ (d n i : Nat) (m : wm), m 0 3 = nI H → m 0 2 = t → i ≤ H → H - i = d → d < n →
    qf_X0_overrunFramesOfTop_2 n v (nI i) m = some (fun x y => if x = 12 ∧ i ≤ y ∧ y < H ∧ m 11 y = t ∧ m 12 y = -9 then v else m x y) := by
  intro d
  induction d with
  | zero =>
    intro n i m h1 h2 hi hd hn
    obtain ⟨n, rfl⟩ : ∃ k, n = k + 1 := ⟨n - 1, by omega⟩
    rw [qf_X0_overrunFramesOfTop_2]
    simp (disch := omega) only [qn, h1, qa_le]
    rw [if_pos (by omega)]
    congr 1
    funext x y
    rw [if_neg (by omega)]
  | succ d ih =>
    intro n i m h1 h2 hi hd hn
    obtain ⟨n, rfl⟩ : ∃ k, n = k + 1 := ⟨n - 1, by omega⟩
    rw [qf_X0_overrunFramesOfTop_2]
    simp (disch := omega) only [qn, h1, h2, qa_le, qa_g, qa_cl, qe_isOv, qa_s1, nI_add]
    rw [if_neg (by omega)]
    by_cases h3 : m 11 i = t
    · rw [if_pos h3]
      by_cases h4 : m 12 i = -9
      · rw [if_pos h4, if_pos (show nI 0 = 0 from rfl), ih n (i + 1) (qw_u2 m 12 i v) (by rw [qw_u2_n _ _ (by omega)]; exact h1) (by rw [qw_u2_n _ _ (by omega)]; exact h2) (by omega) (by omega) (by omega)]
        congr 1
        funext x y
        simp only [qw_u2_at]
        by_cases hx : x = 12
        · subst hx
          by_cases hy : y = i
          · rw [if_neg (fun q => absurd q.2.1 (by omega)), if_pos ⟨rfl, hy⟩, if_pos ⟨rfl, by omega, by omega, by rw [hy]; exact h3, by rw [hy]; exact h4⟩]
          · simp only [hy, and_false, if_false]
            by_cases hz : m 11 y = t ∧ m 12 y = -9
            · by_cases hr : i ≤ y ∧ y < H
              · rw [if_pos ⟨trivial, by omega, hr.2, hz.1, hz.2⟩, if_pos ⟨trivial, hr.1, hr.2, hz.1, hz.2⟩]
              · rw [if_neg (fun q => hr ⟨by omega, q.2.2.1⟩), if_neg (fun q => hr ⟨q.2.1, q.2.2.1⟩)]
            · rw [if_neg (fun q => hz ⟨q.2.2.2.1, q.2.2.2.2⟩), if_neg (fun q => hz ⟨q.2.2.2.1, q.2.2.2.2⟩)]
        · rw [if_neg (fun q => hx q.1), if_neg (fun q => hx q.1), if_neg (fun q => hx q.1)]
      · rw [if_neg h4, if_neg (show ¬ nI 1 = 0 by decide), ih n (i + 1) m h1 h2 (by omega) (by omega) (by omega)]
        congr 1
        funext x y
        by_cases hy : y = i
        · subst hy
          rw [if_neg (by omega), if_neg (fun q => h4 q.2.2.2.2)]
        · by_cases hz : x = 12 ∧ m 11 y = t ∧ m 12 y = -9
          · by_cases hr : i ≤ y ∧ y < H
            · rw [if_pos ⟨hz.1, by omega, hr.2, hz.2⟩, if_pos ⟨hz.1, hr.1, hr.2, hz.2⟩]
            · rw [if_neg (fun q => hr ⟨by omega, q.2.2.1⟩), if_neg (fun q => hr ⟨q.2.1, q.2.2.1⟩)]
          · rw [if_neg (fun q => hz ⟨q.1, q.2.2.2⟩), if_neg (fun q => hz ⟨q.1, q.2.2.2⟩)]
    · rw [if_neg h3, ih n (i + 1) m h1 h2 (by omega) (by omega) (by omega)]
      congr 1
      funext x y
      by_cases hy : y = i
      · subst hy
        rw [if_neg (by omega), if_neg (fun q => h3 q.2.2.2.1)]
      · by_cases hz : x = 12 ∧ m 11 y = t ∧ m 12 y = -9
        · by_cases hr : i ≤ y ∧ y < H
          · rw [if_pos ⟨hz.1, by omega, hr.2, hz.2⟩, if_pos ⟨hz.1, hr.1, hr.2, hz.2⟩]
          · rw [if_neg (fun q => hr ⟨by omega, q.2.2.1⟩), if_neg (fun q => hr ⟨q.2.1, q.2.2.1⟩)]
        · rw [if_neg (fun q => hz ⟨q.1, q.2.2.2⟩), if_neg (fun q => hz ⟨q.1, q.2.2.2⟩)]
theorem qe_ov {t v : Int32} {H : Nat} (hH : H ≤ 40) {m : wm} (h1 : m 0 3 = nI H) (h2 : m 0 2 = t) : qf_X0_overrunFramesOfTop v m = some (qx_ov H v t m) := by
  unfold qf_X0_overrunFramesOfTop
  rw [qe_ov_2 hH H qfu 0 m h1 h2 (by omega) (by omega) (by unfold qfu; omega)]
  congr 1
  funext x y
  unfold qx_ov
  by_cases hz : x = 12 ∧ y < H ∧ m 11 y = t ∧ m 12 y = -9
  · rw [if_pos hz, if_pos ⟨hz.1, Nat.zero_le _, hz.2⟩]
  · rw [if_neg hz, if_neg (fun q => hz ⟨q.1, q.2.2⟩)]
theorem qx_ov_n {H : Nat} {v t : Int32} {m : wm} {x y : Nat} (h : x ≠ 12) : qx_ov H v t m x y = m x y := if_neg (fun q => h q.1)
def qx_st (Z T : Nat) : Nat := if T + 1 < Z then T + 1 else 0
/-- the memory behind a call's frame -/
def qx_add (m : wm) (T Z H N : Nat) (fn a : Int32) : wm :=
  let T2 := qx_st Z T
  let m1 := qx_ov H (nI N) (nI T2) (qw_u2 m 0 2 (nI T2))
  let m2 := qw_u2 (qw_u2 (qw_u2 m1 13 T2 (nI N)) 14 T2 a) 15 T2 (m 15 T2 + nI 1)
  let m3 := qw_u2 (qw_u2 (qw_u2 (qw_u2 (qw_u2 m2 8 H (nI N)) 9 H fn) 10 H a) 11 H (nI T2)) 12 H (-9)
  qw_u2 (qw_u2 m3 0 3 (nI (H + 1))) 0 4 (if m 0 4 < nI (H + 1) then nI (H + 1) else m 0 4)
theorem qe_add {m : wm} {T Z H N : Nat} {fn a : Int32} (eZ : m 0 1 = nI Z) (hZ : 1 ≤ Z ∧ Z ≤ 16) (eT : m 0 2 = nI T) (hT : T < Z) (eH : m 0 3 = nI H) (hH : H < 40) (eN : m 1 0 = nI N) :
    qf_X0_addFrame fn a m = some (nI N, qx_add m T Z H N fn a) := by
  have key : ∀ T2 : Nat, T2 < 16 → qf_X0_addFrame_31 fn a (nI N) (nI T2) m = some (nI N,
      qw_u2 (qw_u2 (qw_u2 (qw_u2 (qw_u2 (qw_u2 (qw_u2 (qw_u2 (qw_u2 (qw_u2 (qx_ov H (nI N) (nI T2) (qw_u2 m 0 2 (nI T2))) 13 T2 (nI N)) 14 T2 a) 15 T2 (m 15 T2 + nI 1)) 8 H (nI N)) 9 H fn) 10 H a) 11 H (nI T2)) 12 H (-9)) 0 3 (nI (H + 1))) 0 4 (if m 0 4 < nI (H + 1) then nI (H + 1) else m 0 4)) := by
    intro T2 h2
    unfold qf_X0_addFrame_31
    have h3 : qf_X0_overrunFramesOfTop (nI N) (qw_u2 m 0 2 (nI T2)) = some (qx_ov H (nI N) (nI T2) (qw_u2 m 0 2 (nI T2))) := qe_ov (by omega) (by rw [qw_u2_n _ _ (by omega)]; exact eH) (qw_u2_s _ _ _ _)
    simp (disch := omega) only [qn, h3, qa_s1, qw_u2_n, qw_u2_s, qx_ov_n, qa_g, qa_cl, eH, nI_add, ne_eq]
  unfold qf_X0_addFrame
  simp (disch := omega) only [qn, eN, eT, eZ, nI_add, qa_le]
  by_cases h : T + 1 < Z
  · rw [if_neg (by omega), key (T + 1) (by omega)]
    unfold qx_add qx_st
    rw [if_pos h]
  · rw [if_pos (by omega), key 0 (by omega)]
    unfold qx_add qx_st
    rw [if_neg h]
theorem qe_repl {m : wm} {H : Nat} {fn : Int32} (eH : m 0 3 = nI H) (h1 : 1 ≤ H) (h2 : H ≤ 40) : qf_X0_replaceFunction fn m = some (m 9 (H - 1), qw_u2 m 9 (H - 1) fn) := by
  unfold qf_X0_replaceFunction
  simp (disch := omega) only [qn, eH, qa_sub, qa_g, qa_cl]
def qx_sh (m : wm) : wm := fun x y => if 19 ≤ x ∧ x < 25 ∧ 1 ≤ y ∧ y < 12 then m x (y - 1) else m x y
theorem qx_sh_n {m : wm} {x y : Nat} (h : x < 19) : qx_sh m x y = m x y := if_neg (fun q => by omega)
theorem qe_conf_49 {x2 x3 x4 : Int32} : ∀ (d n i : Nat) (m : wm), i ≤ 6 → 6 - i = d → d < n →
    qf_X0_confess_49 n x2 x3 x4 (nI i) m = qf_X0_confess_83 x2 x3 x4 (fun x y => if 19 + i ≤ x ∧ x < 25 ∧ 1 ≤ y ∧ y < 12 then m x (y - 1) else m x y) := by
  intro d
  induction d with
  | zero =>
    intro n i m hi hd hn
    obtain ⟨n, rfl⟩ : ∃ k, n = k + 1 := ⟨n - 1, by omega⟩
    rw [qf_X0_confess_49]
    simp (disch := omega) only [qa_le]
    rw [if_pos (by omega)]
    congr 1
    funext x y
    rw [if_neg (by omega)]
  | succ d ih =>
    intro n i m hi hd hn
    obtain ⟨n, rfl⟩ : ∃ k, n = k + 1 := ⟨n - 1, by omega⟩
    rw [qf_X0_confess_49]
    simp (disch := omega) only [qa_le, qn, qa_g, qa_cl, nI_add]
    rw [if_neg (by omega), ih n (i + 1) _ (by omega) (by omega) (by omega)]
    congr 1
    funext x y
    simp only [qw_uc_at, va_cpy]
    by_cases hx : x = 19 + i
    · subst hx
      rw [if_neg (by omega), if_pos rfl]
      by_cases hy : 1 ≤ y ∧ y < 12
      · rw [if_pos (by omega), if_pos (by omega)]
        congr 1
        omega
      · rw [if_neg (by omega), if_neg (by omega)]
    · by_cases hr : 19 + i ≤ x ∧ x < 25 ∧ 1 ≤ y ∧ y < 12
      · rw [if_pos (by omega), if_neg hx, if_pos hr]
      · rw [if_neg (by omega), if_neg hx, if_neg hr]
/-- the memory behind a confession of the kind kd, with the culprit cu -/
def qx_cf (m : wm) (H T C : Nat) (kd cu : Int32) : wm :=
  let m2 := qw_u2 (qw_u2 (qw_u2 (qw_u2 (qw_u2 (qw_u2 (qw_u2 (qx_sh m) 19 0 kd) 20 0 cu) 21 0 (m 8 (H - 1))) 22 0 (m 14 T)) 23 0 (m 10 (H - 1))) 24 0 (m 0 5)) 0 6 (nI (if C + 1 ≤ 12 then C + 1 else 12))
  if cu = -9 then m2 else qw_u2 m2 3 cu.toNatClampNeg (m 3 cu.toNatClampNeg + nI 1)
theorem qe_conf_99 {m : wm} {H T C : Nat} {kd cu : Int32} (eH : 1 ≤ H) (hH : H ≤ 40) (eT : m 0 2 = nI T) (hT : T < 16) (eC : m 0 6 = nI C) (hC : C ≤ 12) (hcu : cu = -9 ∨ ∃ q : Nat, cu = nI q ∧ q < 200) :
    qf_X0_confess_99 (nI (H - 1)) cu kd (nI 0) (qx_sh m) = some (qx_cf m H T C kd cu) := by
  unfold qf_X0_confess_99
  simp (disch := omega) only [qn, qa_g, qa_cl, qw_u2_n, qw_u2_s, qx_sh_n, eT, eC, nI_add, qa_lt]
  have hm : (if 12 < C + 1 then nI 12 else nI (C + 1)) = nI (if C + 1 ≤ 12 then C + 1 else 12) := by
    by_cases h : C + 1 ≤ 12
    · rw [if_neg (by omega), if_pos h]
    · rw [if_pos (by omega), if_neg h]
  rw [hm]
  unfold qx_cf
  rcases hcu with h | ⟨q, h, hq⟩
  · subst h
    rw [if_pos (show (-9 : Int32) < 0 by decide), if_pos rfl]
  · subst h
    rw [if_neg (show ¬ nI q < 0 by rw [qa_l0 (by omega)]; exact fun h => h), if_neg (show ¬ nI q = -9 by rw [qa_n9 (by omega)]; exact fun h => h)]
    simp (disch := omega) only [qa_g, qa_cl]
theorem qe_conf {m : wm} {H T C : Nat} {kd : Nat} (eH : m 0 3 = nI H) (h1 : 1 ≤ H) (hH : H ≤ 40) (eT : m 0 2 = nI T) (hT : T < 16) (eC : m 0 6 = nI C) (hC : C ≤ 12) (hk : kd = 2 ∨ kd = 3) {cu : Int32} (hcu : cu = if kd = 2 then m 12 (H - 1) else m 13 T) (hq : cu = -9 ∨ ∃ q : Nat, cu = nI q ∧ q < 200) :
    qf_X0_confess (nI kd) m = some (qx_cf m H T C (if kd = 2 then nI 1 else nI 2) cu) := by
  have hsh : (fun x y => if 19 + 0 ≤ x ∧ x < 25 ∧ 1 ≤ y ∧ y < 12 then m x (y - 1) else m x y) = qx_sh m := rfl
  unfold qf_X0_confess
  simp (disch := omega) only [qn, eH, qa_sub, qa_eq]
  rcases hk with h | h
  · subst h
    rw [if_pos rfl] at hcu
    subst hcu
    rw [if_pos rfl, if_pos rfl]
    unfold qf_X0_confess_17 qf_X0_confess_44
    rw [if_neg (show ¬ nI 1 = 0 by decide)]
    simp (disch := omega) only [qn, qa_g, qa_cl]
    rw [qe_conf_49 6 qfu 0 m (by omega) (by omega) (by unfold qfu; omega), hsh]
    unfold qf_X0_confess_83
    rw [if_neg (show ¬ nI 1 = 0 by decide)]
    exact qe_conf_99 h1 hH eT hT eC hC hq
  · subst h
    rw [if_neg (by decide)] at hcu
    subst hcu
    rw [if_neg (by decide), if_neg (by decide)]
    unfold qf_X0_confess_17 qf_X0_confess_44
    rw [if_pos (show nI 0 = 0 from rfl)]
    simp (disch := omega) only [qn, qa_g, qa_cl, eT]
    rw [qe_conf_49 6 qfu 0 m (by omega) (by omega) (by unfold qfu; omega), hsh]
    unfold qf_X0_confess_83
    rw [if_pos (show nI 0 = 0 from rfl)]
    exact qe_conf_99 h1 hH eT hT eC hC hq
/-- what a return from the frame below H answers -/
def qx_oc (m : wm) (H T : Nat) : Nat := if m 14 T = m 10 (H - 1) then (if m 13 T = m 8 (H - 1) then 0 else 1) else if m 12 (H - 1) = -9 then 3 else 2
theorem qx_oc_lt (m : wm) (H T : Nat) : qx_oc m H T < 4 := by
  unfold qx_oc
  split
  · split <;> omega
  · split <;> omega
def qx_cu (m : wm) (H T : Nat) : Int32 := if qx_oc m H T = 2 then m 12 (H - 1) else m 13 T
/-- the memory ahead of the counts of a return -/
def qx_rm1 (m : wm) (H T C : Nat) : wm := if qx_oc m H T < 2 then m else qx_cf m H T C (if qx_oc m H T = 2 then nI 1 else nI 2) (qx_cu m H T)
def qx_rem (m : wm) (T Z H C : Nat) : wm :=
  qw_u2 (qw_u2 (qw_u2 (qx_rm1 m H T C) 2 (qx_oc m H T) (m 2 (qx_oc m H T) + nI 1)) 0 3 (nI (H - 1))) 0 2 (nI (qx_sb Z T))
theorem qx_cf_n {m : wm} {H T C : Nat} {kd cu : Int32} {x y : Nat} (h : x < 19) (h3 : x ≠ 3) (h0 : ¬ (x = 0 ∧ y = 6)) : qx_cf m H T C kd cu x y = m x y := by
  unfold qx_cf
  have e : ∀ a b : wm, (if cu = -9 then a else b) x y = if cu = -9 then a x y else b x y := fun a b => by split <;> rfl
  simp (disch := omega) only [e, qw_u2_n, qx_sh_n]
  split <;> rfl
theorem qx_rm1_n {m : wm} {H T C : Nat} {x y : Nat} (h : x < 19) (h3 : x ≠ 3) (h0 : ¬ (x = 0 ∧ y = 6)) : qx_rm1 m H T C x y = m x y := by
  unfold qx_rm1
  split
  · rfl
  · exact qx_cf_n h h3 h0
theorem qe_rem {m : wm} {T Z H C : Nat} (eZ : m 0 1 = nI Z) (hZ : 1 ≤ Z ∧ Z ≤ 16) (eT : m 0 2 = nI T) (hT : T < Z) (eH : m 0 3 = nI H) (h1 : 1 ≤ H) (hH : H ≤ 40) (eC : m 0 6 = nI C) (hC : C ≤ 12)
    (hby : m 12 (H - 1) = -9 ∨ ∃ q : Nat, m 12 (H - 1) = nI q ∧ q < 200) (hsl : m 13 T = -9 ∨ ∃ q : Nat, m 13 T = nI q ∧ q < 200) :
    qf_X0_removeFrame m = some (nI (qx_oc m H T), qx_rem m T Z H C) := by
  have hoc : qf_X0_outcomeOf (nI (H - 1)) (nI T) m = some (nI (qx_oc m H T)) := by
    rw [qe_out (by omega) (by omega)]
    unfold qx_oc
    congr 1
    split
    · split <;> rfl
    · split <;> rfl
  have h4 := qx_oc_lt m H T
  have hend : qf_X0_removeFrame_30 (nI (qx_oc m H T)) (qx_rm1 m H T C) = some (nI (qx_oc m H T), qx_rem m T Z H C) := by
    unfold qf_X0_removeFrame_30
    have hs : ∀ v w : Int32, qf_X0_slotBefore (nI T) (qw_u2 (qw_u2 (qx_rm1 m H T C) 2 (qx_oc m H T) v) 0 3 w) = some (nI (qx_sb Z T)) := fun v w => qe_sb (by rw [qw_u2_n _ _ (by omega), qw_u2_n _ _ (by omega), qx_rm1_n (by omega) (by omega) (by omega)]; exact eZ) hZ.1 (by omega) (by omega)
    simp (disch := omega) only [qn, qa_g, qa_cl, qw_u2_n, qw_u2_s, qx_rm1_n, eH, eT, qa_sub, hs, qa_s1]
    rfl
  unfold qf_X0_removeFrame
  simp (disch := omega) only [qn, eH, eT, qa_sub, hoc, qa_s1, qa_eq]
  by_cases h2 : qx_oc m H T < 2
  · rw [if_neg (by omega), if_neg (by omega)]
    have : qx_rm1 m H T C = m := by unfold qx_rm1; rw [if_pos h2]
    rw [this] at hend
    exact hend
  · have hcu : qx_cu m H T = -9 ∨ ∃ q : Nat, qx_cu m H T = nI q ∧ q < 200 := by
      unfold qx_cu
      split
      · exact hby
      · exact hsl
    have hc := qe_conf (kd := qx_oc m H T) (cu := qx_cu m H T) eH h1 hH eT (by omega) eC hC (by omega) rfl hcu
    have h25 : qf_X0_removeFrame_25 (nI (qx_oc m H T)) m = some (nI (qx_oc m H T), qx_rem m T Z H C) := by
      unfold qf_X0_removeFrame_25
      rw [hc, qa_s1]
      have : qx_rm1 m H T C = qx_cf m H T C (if qx_oc m H T = 2 then nI 1 else nI 2) (qx_cu m H T) := by unfold qx_rm1; rw [if_neg h2]
      rw [← this]
      exact hend
    by_cases h3 : qx_oc m H T = 2
    · rw [if_pos h3]
      exact h25
    · rw [if_neg h3, if_pos (by omega)]
      exact h25
/-- the slot before, by times -/
def qx_sbn (Z T : Nat) : Nat → Nat
  | 0 => T
  | n + 1 => qx_sb Z (qx_sbn Z T n)
theorem qx_sbn_lt {Z T : Nat} (h1 : 1 ≤ Z) (h : T < Z) : ∀ n, qx_sbn Z T n < Z
  | 0 => h
  | n + 1 => qx_sb_lt h1 (qx_sbn_lt h1 h n)
theorem qe_rms_20 {Z T N : Nat} (h1 : 1 ≤ Z) (hZ : Z ≤ 16) (hT : T < Z) (hN : N ≤ 40) : ∀ (d n i : Nat) (m : wm), m 0 1 = nI Z → i ≤ N → N - i = d → d < n → m 0 2 = nI (qx_sbn Z T i) →
    qf_X0_removeFrames_20 n (nI N) (nI i) m = some (m 0 3, qw_u2 m 0 2 (nI (qx_sbn Z T N))) := by
  intro d
  induction d with
  | zero =>
    intro n i m h2 hi hd hn ht
    obtain ⟨n, rfl⟩ : ∃ k, n = k + 1 := ⟨n - 1, by omega⟩
    have : i = N := by omega
    subst this
    rw [qf_X0_removeFrames_20]
    simp (disch := omega) only [qa_le, qn]
    rw [if_pos (by omega)]
    congr 2
    funext x y
    rw [qw_u2_at]
    split
    · rename_i h
      rw [h.1, h.2, ht]
    · rfl
  | succ d ih =>
    intro n i m h2 hi hd hn ht
    obtain ⟨n, rfl⟩ : ∃ k, n = k + 1 := ⟨n - 1, by omega⟩
    have hlt := qx_sbn_lt h1 hT i
    rw [qf_X0_removeFrames_20]
    have hs := qe_sb (T := qx_sbn Z T i) h2 h1 (by omega) (by omega)
    simp (disch := omega) only [qa_le, qn, ht, hs, qa_s1, nI_add]
    rw [if_neg (by omega), ih n (i + 1) _ (by rw [qw_u2_n _ _ (by omega)]; exact h2) (by omega) (by omega) (by omega) (by rw [qw_u2_s]; rfl), qw_u2_n _ _ (by omega)]
    congr 2
    funext x y
    simp only [qw_u2_at]
    split <;> rfl
def qx_rms (m : wm) (T Z H N : Nat) : wm := qw_u2 (qw_u2 m 0 3 (nI (H - N))) 0 2 (if m 0 0 = nI 1 then nI (qx_sbn Z T N) else nI T)
theorem qe_rms {m : wm} {T Z H N : Nat} (eZ : m 0 1 = nI Z) (hZ : 1 ≤ Z ∧ Z ≤ 16) (eT : m 0 2 = nI T) (hT : T < Z) (eH : m 0 3 = nI H) (hH : H ≤ 40) (hN : N ≤ H) :
    qf_X0_removeFrames (nI N) m = some (nI (H - N), qx_rms m T Z H N) := by
  unfold qf_X0_removeFrames
  simp (disch := omega) only [qn, eH, qa_sub, qw_u2_n, qw_u2_s]
  unfold qx_rms
  by_cases h : m 0 0 = nI 1
  · rw [if_pos h, if_pos h, qe_rms_20 hZ.1 hZ.2 hT (by omega) N qfu 0 _ (by rw [qw_u2_n _ _ (by omega)]; exact eZ) (by omega) (by omega) (by unfold qfu; omega) (by rw [qw_u2_n _ _ (by omega)]; exact eT), qw_u2_s]
  · rw [if_neg h, if_neg h]
    congr 2
    funext x y
    rw [qw_u2_at _ 0 2]
    split
    · rename_i h2
      rw [h2.1, h2.2, qw_u2_n _ _ (by omega), eT]
    · rfl
def qx_note (m : wm) (S k : Nat) (fn v : Int32) : wm :=
  qw_u2 (qw_u2 (qw_u2 (qw_u2 (qw_u2 m 16 S (nI k)) 17 S fn) 18 S v) 0 5 (nI (S + 1))) 1 k (m 1 k + nI 1)
theorem qe_note {m : wm} {S k : Nat} {fn v : Int32} (eS : m 0 5 = nI S) (hS : S < 200) (hk : k < 4) : qf_X0_remember (nI k) fn v m = some (qx_note m S k fn v) := by
  unfold qf_X0_remember
  simp (disch := omega) only [qn, eS, qa_g, qa_cl, qw_u2_n, qw_u2_s, nI_add]
  rfl
theorem qw_u2_e (m : wm) {c i x y : Nat} (v : Int32) (h : x = c) (h2 : y = i) : qw_u2 m c i v x y = v := by rw [qw_u2_at, if_pos ⟨h, h2⟩]
theorem qw_u2_id (m : wm) (c i : Nat) : qw_u2 m c i (m c i) = m := by
  funext x y
  rw [qw_u2_at]
  split
  · rename_i h
    rw [h.1, h.2]
  · rfl
theorem qn_e {α β : Type} {x : α} {k : α → Option β} : qn x k = k x := of_eq_true (eq_self (k x))
theorem qa_t1 {α β : Type} {a : α} {k : α → Option β} : qb1 (some a) k = k a := of_eq_true (eq_self (k a))
theorem qa_t2 {α γ β : Type} {a : α} {b : γ} {k : α → γ → Option β} : qb2 (some (a, b)) k = k a b := of_eq_true (eq_self (k a b))
theorem qa_t3 {α γ δ β : Type} {a : α} {b : γ} {c : δ} {k : α → γ → δ → Option β} : qb3 (some (a, b, c)) k = k a b c := of_eq_true (eq_self (k a b c))
/-- how many frames there are behind the first i steps -/
def qs_hg (m : wm) : Nat → Nat
  | 0 => 0
  | i + 1 => if m 16 i = nI 0 then qs_hg m i + 1 else if m 16 i = nI 2 then qs_hg m i - 1 else if m 16 i = nI 3 then qs_hg m i - (m 18 i).toNatClampNeg else qs_hg m i
def qs_step (m : wm) (i h : Nat) : Prop :=
  (m 16 i = nI 0 ∧ (∃ q : Nat, m 17 i = nI q ∧ q ≤ 15) ∧ (∃ q : Nat, m 18 i = nI q ∧ q ≤ 999) ∧ h < 40) ∨
  (m 16 i = nI 1 ∧ (∃ q : Nat, m 17 i = nI q ∧ q ≤ 15) ∧ m 18 i = nI 0 ∧ 1 ≤ h) ∨
  (m 16 i = nI 2 ∧ m 17 i = nI 0 ∧ m 18 i = nI 0 ∧ 1 ≤ h) ∨
  (m 16 i = nI 3 ∧ m 17 i = nI 0 ∧ ∃ q : Nat, m 18 i = nI q ∧ 1 ≤ q ∧ q ≤ 40 ∧ q ≤ h)
def qs_val (m : wm) (S H : Nat) : Prop := (∀ i : Nat, i < S → qs_step m i (qs_hg m i)) ∧ qs_hg m S = H
def qs_ok (m : wm) (T Z H S C N : Nat) : Prop :=
  (2 ≤ Z ∧ Z ≤ 16 ∧ T < Z ∧ H ≤ 40 ∧ S ≤ 200 ∧ C ≤ 12 ∧ N ≤ S) ∧
  (m 0 1 = nI Z ∧ m 0 2 = nI T ∧ m 0 3 = nI H ∧ m 0 5 = nI S ∧ m 0 6 = nI C ∧ m 1 0 = nI N ∧ (m 0 0 = nI 0 ∨ m 0 0 = nI 1)) ∧
  (∀ i : Nat, i < H → (∃ q : Nat, m 11 i = nI q ∧ q < Z) ∧ (m 12 i = -9 ∨ ∃ q : Nat, m 12 i = nI q ∧ q < N) ∧ (∃ q : Nat, m 9 i = nI q ∧ q ≤ 15)) ∧
  (∀ i : Nat, i < 16 → m 13 i = -9 ∨ ∃ q : Nat, m 13 i = nI q ∧ q < N) ∧
  (∀ i : Nat, N ≤ i → i < 200 → m 3 i = nI 0) ∧
  qs_val m S H
theorem qs_hg_cg {m m' : wm} : ∀ n : Nat, (∀ i : Nat, i < n → m' 16 i = m 16 i ∧ m' 18 i = m 18 i) → qs_hg m' n = qs_hg m n
  | 0, _ => rfl
  | n + 1, h => by
    have ih := qs_hg_cg n (fun i hi => h i (by omega))
    obtain ⟨h1, h2⟩ := h n (by omega)
    unfold qs_hg
    rw [ih, h1, h2]
theorem qs_step_cg {m m' : wm} {i h : Nat} (h1 : m' 16 i = m 16 i) (h2 : m' 17 i = m 17 i) (h3 : m' 18 i = m 18 i) (hs : qs_step m i h) : qs_step m' i h := by
  unfold qs_step
  rw [h1, h2, h3]
  exact hs
/-- one more step -/
theorem qs_val_s {m m' : wm} {S H H2 : Nat} (hv : qs_val m S H) (h : ∀ i : Nat, i < S → m' 16 i = m 16 i ∧ m' 17 i = m 17 i ∧ m' 18 i = m 18 i) (hs : qs_step m' S H) (hH : (if m' 16 S = nI 0 then H + 1 else if m' 16 S = nI 2 then H - 1 else if m' 16 S = nI 3 then H - (m' 18 S).toNatClampNeg else H) = H2) : qs_val m' (S + 1) H2 := by
  obtain ⟨v1, v2⟩ := hv
  have hc : ∀ n : Nat, n ≤ S → qs_hg m' n = qs_hg m n := fun n hn => qs_hg_cg n (fun i hi => ⟨(h i (by omega)).1, (h i (by omega)).2.2⟩)
  refine ⟨fun i hi => ?_, ?_⟩
  · rcases Nat.lt_or_ge i S with hl | hl
    · rw [hc i (by omega)]
      exact qs_step_cg (h i hl).1 (h i hl).2.1 (h i hl).2.2 (v1 i hl)
    · have : i = S := by omega
      subst this
      rw [hc i (by omega), v2]
      exact hs
  · unfold qs_hg
    rw [hc S (by omega), v2]
    exact hH
theorem qe_errC {m : wm} {H S f a : Nat} (eH : m 0 3 = nI H) (hH : H < 40) (eS : m 0 5 = nI S) (hS : S < 200) (hf : f ≤ 15) (ha : a ≤ 999) : qf_X0_errorOf (nI 0) (nI f) (nI a) m = some (nI 0) := by
  unfold qf_X0_errorOf qf_X0_isNumberFor qf_X0_framesNeeded
  simp (disch := omega) only [qa_l0, qa_lt, qa_le, qa_eq, qa_e0, qn_e, qa_t1, eH, eS, if_pos, if_neg, ↓reduceIte]
theorem qe_errT {m : wm} {H S f : Nat} (eH : m 0 3 = nI H) (hH : 1 ≤ H) (hH2 : H ≤ 40) (eS : m 0 5 = nI S) (hS : S < 200) (hf : f ≤ 15) : qf_X0_errorOf (nI 1) (nI f) (nI 0) m = some (nI 0) := by
  unfold qf_X0_errorOf qf_X0_isNumberFor qf_X0_framesNeeded
  simp (disch := omega) only [qa_l0, qa_lt, qa_le, qa_eq, qa_e0, qn_e, qa_t1, eH, eS, if_pos, if_neg, ↓reduceIte]
theorem qe_errR {m : wm} {H S : Nat} (eH : m 0 3 = nI H) (hH : 1 ≤ H) (hH2 : H ≤ 40) (eS : m 0 5 = nI S) (hS : S < 200) : qf_X0_errorOf (nI 2) (nI 0) (nI 0) m = some (nI 0) := by
  unfold qf_X0_errorOf qf_X0_isNumberFor qf_X0_framesNeeded
  simp (disch := omega) only [qa_l0, qa_lt, qa_le, qa_eq, qa_e0, qn_e, qa_t1, eH, eS, if_pos, if_neg, ↓reduceIte]
theorem qe_errX {m : wm} {H S n : Nat} (eH : m 0 3 = nI H) (hn : 1 ≤ n) (hn2 : n ≤ H) (hH2 : H ≤ 40) (eS : m 0 5 = nI S) (hS : S < 200) : qf_X0_errorOf (nI 3) (nI 0) (nI n) m = some (nI 0) := by
  unfold qf_X0_errorOf qf_X0_isNumberFor qf_X0_framesNeeded
  simp (disch := omega) only [qa_l0, qa_lt, qa_le, qa_eq, qa_e0, qn_e, qa_t1, eH, eS, if_pos, if_neg, ↓reduceIte]
/-! a call -/
def qx_c (m : wm) (T Z H S N f a : Nat) : wm := qx_note (qx_add m T Z H N (nI f) (nI a)) S 0 (nI f) (nI a)
theorem qx_st_lt {Z T : Nat} (h : 2 ≤ Z) : qx_st Z T < Z := by
  unfold qx_st
  split <;> omega
theorem qo_callT {m : wm} {T Z H S C N f a : Nat} (ok : qs_ok m T Z H S C N) (hH : H < 40) (hS : S < 200) (hf : f ≤ 15) (ha : a ≤ 999) :
    qf_X0_take (nI 0) (nI f) (nI a) m = some (nI N, qx_c m T Z H S N f a) := by
  obtain ⟨⟨b1, b2, b3, b4, b5, b6, b7⟩, ⟨e1, e2, e3, e5, e6, eN, er⟩, -⟩ := ok
  unfold qf_X0_take qf_X0_take_81
  rw [qe_errC e3 hH e5 hS hf ha, qa_t1, if_pos (show nI 0 = 0 from rfl), if_pos rfl, qe_add e1 ⟨by omega, b2⟩ e2 b3 e3 hH eN, qa_t2, qe_note (S := S) (by simp (disch := omega) only [qx_add, qw_u2_n, qx_ov_n]; exact e5) hS (by decide), qa_t1]
  rfl
theorem qo_callO {m : wm} {T Z H S C N f a : Nat} (ok : qs_ok m T Z H S C N) (hH : H < 40) (hS : S < 200) (hf : f ≤ 15) (ha : a ≤ 999) :
    qs_ok (qx_c m T Z H S N f a) (qx_st Z T) Z (H + 1) (S + 1) C (N + 1) := by
  obtain ⟨⟨b1, b2, b3, b4, b5, b6, b7⟩, ⟨e1, e2, e3, e5, e6, eN, er⟩, okF, okS, okN, okV⟩ := ok
  have hT2 := qx_st_lt (T := T) b1
  refine ⟨⟨b1, b2, hT2, by omega, by omega, b6, by omega⟩, ⟨?_, ?_, ?_, ?_, ?_, ?_, ?_⟩, ?_, ?_, ?_, ?_⟩
  · simp (disch := omega) only [qx_c, qx_note, qx_add, qw_u2_n, qx_ov_n, e1]
  · simp (disch := omega) only [qx_c, qx_note, qx_add, qw_u2_n, qx_ov_n, qw_u2_s]
  · simp (disch := omega) only [qx_c, qx_note, qx_add, qw_u2_n, qx_ov_n, qw_u2_s]
  · simp (disch := omega) only [qx_c, qx_note, qx_add, qw_u2_n, qx_ov_n, qw_u2_s]
  · simp (disch := omega) only [qx_c, qx_note, qx_add, qw_u2_n, qx_ov_n, e6]
  · simp (disch := omega) only [qx_c, qx_note, qx_add, qw_u2_n, qx_ov_n, qw_u2_s, eN, nI_add]
  · simp (disch := omega) only [qx_c, qx_note, qx_add, qw_u2_n, qx_ov_n]
    exact er
  · intro i hi
    rcases Nat.lt_or_ge i H with hl | hl
    · obtain ⟨⟨q1, p1, p2⟩, p3, q2, p4, p5⟩ := okF i hl
      refine ⟨⟨q1, ?_, p2⟩, ?_, q2, ?_, p5⟩
      · simp (disch := omega) only [qx_c, qx_note, qx_add, qw_u2_n, qx_ov_n, p1]
      · simp (disch := omega) only [qx_c, qx_note, qx_add, qw_u2_n]
        unfold qx_ov
        simp (disch := omega) only [qw_u2_n]
        split
        · exact Or.inr ⟨N, rfl, by omega⟩
        · rcases p3 with h | ⟨q, h, hq⟩
          · exact Or.inl h
          · exact Or.inr ⟨q, h, by omega⟩
      · simp (disch := omega) only [qx_c, qx_note, qx_add, qw_u2_n, qx_ov_n, p4]
    · have : i = H := by omega
      subst this
      refine ⟨⟨qx_st Z T, ?_, hT2⟩, Or.inl ?_, f, ?_, hf⟩
      · simp (disch := omega) only [qx_c, qx_note, qx_add, qw_u2_n, qw_u2_s]
      · simp (disch := omega) only [qx_c, qx_note, qx_add, qw_u2_n, qw_u2_s]
      · simp (disch := omega) only [qx_c, qx_note, qx_add, qw_u2_n, qw_u2_s]
  · intro i hi
    by_cases h : i = qx_st Z T
    · subst h
      refine Or.inr ⟨N, ?_, by omega⟩
      simp (disch := omega) only [qx_c, qx_note, qx_add, qw_u2_n, qw_u2_s]
    · have e : qx_c m T Z H S N f a 13 i = m 13 i := by simp (disch := omega) only [qx_c, qx_note, qx_add, qw_u2_n, qx_ov_n]
      rw [e]
      rcases okS i hi with h | ⟨q, h, hq⟩
      · exact Or.inl h
      · exact Or.inr ⟨q, h, by omega⟩
  · intro i hi h2
    have e : qx_c m T Z H S N f a 3 i = m 3 i := by simp (disch := omega) only [qx_c, qx_note, qx_add, qw_u2_n, qx_ov_n]
    rw [e]
    exact okN i (by omega) h2
  · refine qs_val_s okV (fun i hi => ?_) ?_ ?_
    · refine ⟨?_, ?_, ?_⟩ <;> simp (disch := omega) only [qx_c, qx_note, qx_add, qw_u2_n, qx_ov_n]
    · refine Or.inl ⟨?_, ⟨f, ?_, hf⟩, ⟨a, ?_, ha⟩, hH⟩
      · simp (disch := omega) only [qx_c, qx_note, qw_u2_n, qw_u2_s]
      · simp (disch := omega) only [qx_c, qx_note, qw_u2_n, qw_u2_s]
      · simp (disch := omega) only [qx_c, qx_note, qw_u2_n, qw_u2_s]
    · rw [if_pos]
      simp (disch := omega) only [qx_c, qx_note, qw_u2_n, qw_u2_s]
/-! a tail call -/
def qx_t (m : wm) (H S f : Nat) : wm := qx_note (qw_u2 m 9 (H - 1) (nI f)) S 1 (nI f) (nI 0)
theorem qo_tailT {m : wm} {T Z H S C N f : Nat} (ok : qs_ok m T Z H S C N) (h1 : 1 ≤ H) (hS : S < 200) (hf : f ≤ 15) :
    qf_X0_take (nI 1) (nI f) (nI 0) m = some (m 9 (H - 1), qx_t m H S f) := by
  obtain ⟨⟨b1, b2, b3, b4, b5, b6, b7⟩, ⟨e1, e2, e3, e5, e6, eN, er⟩, -⟩ := ok
  unfold qf_X0_take qf_X0_take_81
  rw [qe_errT e3 h1 b4 e5 hS hf, qa_t1, if_pos (show nI 0 = 0 from rfl), if_neg (show ¬ nI 1 = nI 0 by decide), if_pos rfl, qe_repl e3 h1 b4, qa_t2, qe_note (S := S) (by rw [qw_u2_n _ _ (by omega)]; exact e5) hS (by decide), qa_t1]
  rfl
theorem qo_tailO {m : wm} {T Z H S C N f : Nat} (ok : qs_ok m T Z H S C N) (h1 : 1 ≤ H) (hS : S < 200) (hf : f ≤ 15) :
    qs_ok (qx_t m H S f) T Z H (S + 1) C N := by
  obtain ⟨⟨b1, b2, b3, b4, b5, b6, b7⟩, ⟨e1, e2, e3, e5, e6, eN, er⟩, okF, okS, okN, okV⟩ := ok
  refine ⟨⟨b1, b2, b3, b4, by omega, b6, by omega⟩, ⟨?_, ?_, ?_, ?_, ?_, ?_, ?_⟩, ?_, ?_, ?_, ?_⟩
  · simp (disch := omega) only [qx_t, qx_note, qw_u2_n, e1]
  · simp (disch := omega) only [qx_t, qx_note, qw_u2_n, e2]
  · simp (disch := omega) only [qx_t, qx_note, qw_u2_n, e3]
  · simp (disch := omega) only [qx_t, qx_note, qw_u2_n, qw_u2_s]
  · simp (disch := omega) only [qx_t, qx_note, qw_u2_n, e6]
  · simp (disch := omega) only [qx_t, qx_note, qw_u2_n, eN]
  · simp (disch := omega) only [qx_t, qx_note, qw_u2_n]
    exact er
  · intro i hi
    obtain ⟨⟨q1, p1, p2⟩, p3, q2, p4, p5⟩ := okF i hi
    refine ⟨⟨q1, ?_, p2⟩, ?_, ?_⟩
    · simp (disch := omega) only [qx_t, qx_note, qw_u2_n, p1]
    · simp (disch := omega) only [qx_t, qx_note, qw_u2_n]
      exact p3
    · by_cases h : i = H - 1
      · refine ⟨f, ?_, hf⟩
        simp (disch := omega) only [qx_t, qx_note, qw_u2_n, qw_u2_e]
      · refine ⟨q2, ?_, p5⟩
        simp (disch := omega) only [qx_t, qx_note, qw_u2_n, p4]
  · intro i hi
    simp (disch := omega) only [qx_t, qx_note, qw_u2_n]
    exact okS i hi
  · intro i hi h2
    simp (disch := omega) only [qx_t, qx_note, qw_u2_n]
    exact okN i hi h2
  · refine qs_val_s okV (fun i hi => ?_) ?_ ?_
    · refine ⟨?_, ?_, ?_⟩ <;> simp (disch := omega) only [qx_t, qx_note, qw_u2_n]
    · refine Or.inr (Or.inl ⟨?_, ⟨f, ?_, hf⟩, ?_, h1⟩)
      · simp (disch := omega) only [qx_t, qx_note, qw_u2_n, qw_u2_s]
      · simp (disch := omega) only [qx_t, qx_note, qw_u2_n, qw_u2_s]
      · simp (disch := omega) only [qx_t, qx_note, qw_u2_n, qw_u2_s]
    · have e : qx_t m H S f 16 S = nI 1 := by simp (disch := omega) only [qx_t, qx_note, qw_u2_n, qw_u2_s]
      rw [e, if_neg (by decide), if_neg (by decide), if_neg (by decide)]
/-! a throw -/
def qx_x (m : wm) (T Z H S n : Nat) : wm := qx_note (qx_rms m T Z H n) S 3 (nI 0) (nI n)
def qx_xT (m : wm) (T Z n : Nat) : Nat := if m 0 0 = nI 1 then qx_sbn Z T n else T
theorem qo_throwT {m : wm} {T Z H S C N n : Nat} (ok : qs_ok m T Z H S C N) (h1 : 1 ≤ n) (h2 : n ≤ H) (hS : S < 200) :
    qf_X0_take (nI 3) (nI 0) (nI n) m = some (nI (H - n), qx_x m T Z H S n) := by
  obtain ⟨⟨b1, b2, b3, b4, b5, b6, b7⟩, ⟨e1, e2, e3, e5, e6, eN, er⟩, -⟩ := ok
  unfold qf_X0_take qf_X0_take_81
  rw [qe_errX e3 h1 h2 b4 e5 hS, qa_t1, if_pos (show nI 0 = 0 from rfl), if_neg (show ¬ nI 3 = nI 0 by decide), if_neg (show ¬ nI 3 = nI 1 by decide), if_neg (show ¬ nI 3 = nI 2 by decide), qe_rms e1 ⟨by omega, b2⟩ e2 b3 e3 b4 h2, qa_t2, qe_note (S := S) (by simp (disch := omega) only [qx_rms, qw_u2_n]; exact e5) hS (by decide), qa_t1]
  rfl
theorem qo_throwO {m : wm} {T Z H S C N n : Nat} (ok : qs_ok m T Z H S C N) (h1 : 1 ≤ n) (h2 : n ≤ H) (hS : S < 200) :
    qs_ok (qx_x m T Z H S n) (qx_xT m T Z n) Z (H - n) (S + 1) C N := by
  obtain ⟨⟨b1, b2, b3, b4, b5, b6, b7⟩, ⟨e1, e2, e3, e5, e6, eN, er⟩, okF, okS, okN, okV⟩ := ok
  have hT : qx_xT m T Z n < Z := by
    unfold qx_xT
    split
    · exact qx_sbn_lt (by omega) b3 n
    · exact b3
  refine ⟨⟨b1, b2, hT, by omega, by omega, b6, by omega⟩, ⟨?_, ?_, ?_, ?_, ?_, ?_, ?_⟩, ?_, ?_, ?_, ?_⟩
  · simp (disch := omega) only [qx_x, qx_note, qx_rms, qw_u2_n, e1]
  · simp (disch := omega) only [qx_x, qx_note, qx_rms, qw_u2_n, qw_u2_s]
    unfold qx_xT
    split <;> rfl
  · simp (disch := omega) only [qx_x, qx_note, qx_rms, qw_u2_n, qw_u2_s]
  · simp (disch := omega) only [qx_x, qx_note, qx_rms, qw_u2_n, qw_u2_s]
  · simp (disch := omega) only [qx_x, qx_note, qx_rms, qw_u2_n, e6]
  · simp (disch := omega) only [qx_x, qx_note, qx_rms, qw_u2_n, eN]
  · simp (disch := omega) only [qx_x, qx_note, qx_rms, qw_u2_n]
    exact er
  · intro i hi
    have e2 : ∀ x : Nat, 8 ≤ x ∧ x < 16 → qx_x m T Z H S n x i = m x i := by
      intro x hx
      simp (disch := omega) only [qx_x, qx_note, qx_rms, qw_u2_n]
    rw [e2 11 (by omega), e2 12 (by omega), e2 9 (by omega)]
    exact okF i (by omega)
  · intro i hi
    simp (disch := omega) only [qx_x, qx_note, qx_rms, qw_u2_n]
    exact okS i hi
  · intro i hi h2
    simp (disch := omega) only [qx_x, qx_note, qx_rms, qw_u2_n]
    exact okN i hi h2
  · refine qs_val_s okV (fun i hi => ?_) ?_ ?_
    · refine ⟨?_, ?_, ?_⟩ <;> simp (disch := omega) only [qx_x, qx_note, qx_rms, qw_u2_n]
    · refine Or.inr (Or.inr (Or.inr ⟨?_, ?_, n, ?_, h1, by omega, h2⟩))
      · simp (disch := omega) only [qx_x, qx_note, qw_u2_n, qw_u2_s]
      · simp (disch := omega) only [qx_x, qx_note, qw_u2_n, qw_u2_s]
      · simp (disch := omega) only [qx_x, qx_note, qw_u2_n, qw_u2_s]
    · have e : qx_x m T Z H S n 16 S = nI 3 := by simp (disch := omega) only [qx_x, qx_note, qw_u2_n, qw_u2_s]
      have e8 : qx_x m T Z H S n 18 S = nI n := by simp (disch := omega) only [qx_x, qx_note, qw_u2_n, qw_u2_s]
      rw [e, e8, if_neg (by decide), if_neg (by decide), if_pos rfl, qa_cl (by omega)]
theorem qa_p0 (x : Int32) : x + nI 0 = x := Int32.add_zero x
theorem qa_ac (a b : Int32) : a + b + nI 1 = a + nI 1 + b := by rw [Int32.add_assoc, Int32.add_comm b, ← Int32.add_assoc]
theorem qa_aa (a b : Int32) : a + b + nI 1 = a + (b + nI 1) := Int32.add_assoc a b (nI 1)
def qx_cf2 (m : wm) (H T C : Nat) (kd cu : Int32) : wm := qw_u2 (qw_u2 (qw_u2 (qw_u2 (qw_u2 (qw_u2 (qw_u2 (qx_sh m) 19 0 kd) 20 0 cu) 21 0 (m 8 (H - 1))) 22 0 (m 14 T)) 23 0 (m 10 (H - 1))) 24 0 (m 0 5)) 0 6 (nI (if C + 1 ≤ 12 then C + 1 else 12))
theorem qx_cf9 (m : wm) (H T C : Nat) (kd : Int32) : qx_cf m H T C kd (-9) = qx_cf2 m H T C kd (-9) := by
  unfold qx_cf
  rw [if_pos rfl]
  rfl
theorem qx_cfq (m : wm) (H T C : Nat) (kd : Int32) {q : Nat} (hq : q < 200) : qx_cf m H T C kd (nI q) = qw_u2 (qx_cf2 m H T C kd (nI q)) 3 q (m 3 q + nI 1) := by
  unfold qx_cf
  rw [if_neg (show ¬ nI q = -9 by rw [qa_n9 (by omega)]; exact fun h => h), qa_cl (by omega)]
  rfl
theorem qs_ok_cg {m m' : wm} {T Z H S C N : Nat} (h : ∀ x y : Nat, x ≠ 2 → m' x y = m x y) (ok : qs_ok m T Z H S C N) : qs_ok m' T Z H S C N := by
  obtain ⟨b, ⟨e1, e2, e3, e5, e6, eN, er⟩, okF, okS, okN, v1, v2⟩ := ok
  refine ⟨b, ⟨?_, ?_, ?_, ?_, ?_, ?_, ?_⟩, ?_, ?_, ?_, ?_, ?_⟩
  · rw [h _ _ (by decide), e1]
  · rw [h _ _ (by decide), e2]
  · rw [h _ _ (by decide), e3]
  · rw [h _ _ (by decide), e5]
  · rw [h _ _ (by decide), e6]
  · rw [h _ _ (by decide), eN]
  · rw [h _ _ (by decide)]
    exact er
  · intro i hi
    rw [h _ _ (by decide), h _ _ (by decide), h _ _ (by decide)]
    exact okF i hi
  · intro i hi
    rw [h _ _ (by decide)]
    exact okS i hi
  · intro i hi h2
    rw [h _ _ (by decide)]
    exact okN i hi h2
  · have hc : ∀ n : Nat, qs_hg m' n = qs_hg m n := fun n => qs_hg_cg n (fun i _ => ⟨h _ _ (by decide), h _ _ (by decide)⟩)
    intro i hi
    rw [hc]
    exact qs_step_cg (h _ _ (by decide)) (h _ _ (by decide)) (h _ _ (by decide)) (v1 i hi)
  · rw [qs_hg_cg S (fun i _ => ⟨h _ _ (by decide), h _ _ (by decide)⟩)]
    exact v2
theorem qs_ok_cf {m : wm} {T Z H S C N : Nat} {kd cu : Int32} {C2 : Nat} (ok : qs_ok m T Z H S C N) (hC3 : C2 = if C + 1 ≤ 12 then C + 1 else 12) (hcu : cu = -9 ∨ ∃ q : Nat, cu = nI q ∧ q < N) : qs_ok (qx_cf m H T C kd cu) T Z H S C2 N := by
  obtain ⟨⟨b1, b2, b3, b4, b5, b6, b7⟩, ⟨e1, e2, e3, e5, e6, eN, er⟩, okF, okS, okN, v1, v2⟩ := ok
  have h : ∀ x y : Nat, x < 19 → x ≠ 3 → ¬ (x = 0 ∧ y = 6) → qx_cf m H T C kd cu x y = m x y := fun x y h1 h2 h3 => qx_cf_n h1 h2 h3
  refine ⟨⟨b1, b2, b3, b4, b5, by rw [hC3]; split <;> omega, b7⟩, ⟨?_, ?_, ?_, ?_, ?_, ?_, ?_⟩, ?_, ?_, ?_, ?_, ?_⟩
  · rw [h _ _ (by decide) (by decide) (by decide), e1]
  · rw [h _ _ (by decide) (by decide) (by decide), e2]
  · rw [h _ _ (by decide) (by decide) (by decide), e3]
  · rw [h _ _ (by decide) (by decide) (by decide), e5]
  · rw [hC3]
    rcases hcu with hc | ⟨q, hc, hq⟩
    · subst hc
      rw [qx_cf9]
      simp (disch := omega) only [qx_cf2, qw_u2_n, qw_u2_e]
    · subst hc
      rw [qx_cfq _ _ _ _ _ (by omega)]
      simp (disch := omega) only [qx_cf2, qw_u2_n, qw_u2_e]
  · rw [h _ _ (by decide) (by decide) (by decide), eN]
  · rw [h _ _ (by decide) (by decide) (by decide)]
    exact er
  · intro i hi
    rw [h _ _ (by decide) (by decide) (by omega), h _ _ (by decide) (by decide) (by omega), h _ _ (by decide) (by decide) (by omega)]
    exact okF i hi
  · intro i hi
    rw [h _ _ (by decide) (by decide) (by omega)]
    exact okS i hi
  · intro i hi h2
    have e : qx_cf m H T C kd cu 3 i = m 3 i := by
      rcases hcu with hc | ⟨q, hc, hq⟩
      · subst hc
        rw [qx_cf9]
        simp (disch := omega) only [qx_cf2, qw_u2_n, qx_sh_n]
      · subst hc
        rw [qx_cfq _ _ _ _ _ (by omega)]
        simp (disch := omega) only [qx_cf2, qw_u2_n, qx_sh_n]
    rw [e]
    exact okN i hi h2
  · have hc : ∀ n : Nat, qs_hg (qx_cf m H T C kd cu) n = qs_hg m n := fun n => qs_hg_cg n (fun i _ => ⟨h _ _ (by decide) (by decide) (by omega), h _ _ (by decide) (by decide) (by omega)⟩)
    intro i hi
    rw [hc]
    exact qs_step_cg (h _ _ (by decide) (by decide) (by omega)) (h _ _ (by decide) (by decide) (by omega)) (h _ _ (by decide) (by decide) (by omega)) (v1 i hi)
  · rw [qs_hg_cg S (fun i _ => ⟨h _ _ (by decide) (by decide) (by omega), h _ _ (by decide) (by decide) (by omega)⟩)]
    exact v2
/-- a frame less, by a return -/
def qx_pop (m : wm) (T2 H S : Nat) : wm := qx_note (qw_u2 (qw_u2 m 0 3 (nI (H - 1))) 0 2 (nI T2)) S 2 (nI 0) (nI 0)
theorem qo_popO {m : wm} {T Z H S C N T2 : Nat} (ok : qs_ok m T Z H S C N) (h1 : 1 ≤ H) (hS : S < 200) (hT : T2 < Z) : qs_ok (qx_pop m T2 H S) T2 Z (H - 1) (S + 1) C N := by
  obtain ⟨⟨b1, b2, b3, b4, b5, b6, b7⟩, ⟨e1, e2, e3, e5, e6, eN, er⟩, okF, okS, okN, okV⟩ := ok
  refine ⟨⟨b1, b2, hT, by omega, by omega, b6, by omega⟩, ⟨?_, ?_, ?_, ?_, ?_, ?_, ?_⟩, ?_, ?_, ?_, ?_⟩
  · simp (disch := omega) only [qx_pop, qx_note, qw_u2_n, e1]
  · simp (disch := omega) only [qx_pop, qx_note, qw_u2_n, qw_u2_s]
  · simp (disch := omega) only [qx_pop, qx_note, qw_u2_n, qw_u2_s]
  · simp (disch := omega) only [qx_pop, qx_note, qw_u2_n, qw_u2_s]
  · simp (disch := omega) only [qx_pop, qx_note, qw_u2_n, e6]
  · simp (disch := omega) only [qx_pop, qx_note, qw_u2_n, eN]
  · simp (disch := omega) only [qx_pop, qx_note, qw_u2_n]
    exact er
  · intro i hi
    have e2 : ∀ x : Nat, 8 ≤ x ∧ x < 16 → qx_pop m T2 H S x i = m x i := by
      intro x hx
      simp (disch := omega) only [qx_pop, qx_note, qw_u2_n]
    rw [e2 11 (by omega), e2 12 (by omega), e2 9 (by omega)]
    exact okF i (by omega)
  · intro i hi
    simp (disch := omega) only [qx_pop, qx_note, qw_u2_n]
    exact okS i hi
  · intro i hi h2
    simp (disch := omega) only [qx_pop, qx_note, qw_u2_n]
    exact okN i hi h2
  · refine qs_val_s okV (fun i hi => ?_) ?_ ?_
    · refine ⟨?_, ?_, ?_⟩ <;> simp (disch := omega) only [qx_pop, qx_note, qw_u2_n]
    · refine Or.inr (Or.inr (Or.inl ⟨?_, ?_, ?_, h1⟩))
      · simp (disch := omega) only [qx_pop, qx_note, qw_u2_n, qw_u2_s]
      · simp (disch := omega) only [qx_pop, qx_note, qw_u2_n, qw_u2_s]
      · simp (disch := omega) only [qx_pop, qx_note, qw_u2_n, qw_u2_s]
    · have e : qx_pop m T2 H S 16 S = nI 2 := by simp (disch := omega) only [qx_pop, qx_note, qw_u2_n, qw_u2_s]
      rw [e, if_neg (by decide), if_pos rfl]
def qx_r (m : wm) (T Z H S C : Nat) : wm := qx_pop (qw_u2 (qx_rm1 m H T C) 2 (qx_oc m H T) (m 2 (qx_oc m H T) + nI 1)) (qx_sb Z T) H S
theorem qo_retT {m : wm} {T Z H S C N : Nat} (ok : qs_ok m T Z H S C N) (h1 : 1 ≤ H) (hS : S < 200) :
    qf_X0_take (nI 2) (nI 0) (nI 0) m = some (nI (qx_oc m H T), qx_r m T Z H S C) := by
  obtain ⟨⟨b1, b2, b3, b4, b5, b6, b7⟩, ⟨e1, e2, e3, e5, e6, eN, er⟩, okF, okS, -⟩ := ok
  have hby : m 12 (H - 1) = -9 ∨ ∃ q : Nat, m 12 (H - 1) = nI q ∧ q < 200 := by
    rcases (okF (H - 1) (by omega)).2.1 with h | ⟨q, h, hq⟩
    · exact Or.inl h
    · exact Or.inr ⟨q, h, by omega⟩
  have hsl : m 13 T = -9 ∨ ∃ q : Nat, m 13 T = nI q ∧ q < 200 := by
    rcases okS T (by omega) with h | ⟨q, h, hq⟩
    · exact Or.inl h
    · exact Or.inr ⟨q, h, by omega⟩
  unfold qf_X0_take qf_X0_take_81
  rw [qe_errR e3 h1 b4 e5 hS, qa_t1, if_pos (show nI 0 = 0 from rfl), if_neg (show ¬ nI 2 = nI 0 by decide), if_neg (show ¬ nI 2 = nI 1 by decide), if_pos rfl, qe_rem e1 ⟨by omega, b2⟩ e2 b3 e3 h1 b4 e6 b6 hby hsl, qa_t2, qe_note (S := S) (by simp (disch := omega) only [qx_rem, qw_u2_n, qx_rm1_n]; exact e5) hS (by decide), qa_t1]
  rfl
theorem qe_takeE {m : wm} {k x y e : Int32} (h : qf_X0_errorOf k x y m = some e) (he : e < 0) : qf_X0_take k x y m = some (e, m) := by
  have hne : ¬ e = 0 := by
    intro q
    rw [q] at he
    exact absurd he (by decide)
  unfold qf_X0_take
  rw [h, qa_t1, if_neg hne]
theorem qa_gtn {x : Int32} {n : Nat} (hn : n < 2147483648) (h : nI n < x) : ¬ x < 0 := by
  rw [qa_lt_iff] at h ⊢
  rw [qa_ti hn] at h
  have : (0 : Int32).toInt = 0 := by decide
  omega
/-! the class's history -/
def qv_H (h : Nat → Nat) : Prop := (∀ i : Nat, i < 5 → 3 ≤ h i ∧ h i < 8) ∧ ∀ i j : Nat, i < 5 → j < 5 → h i = h j → i = j
def qv_rot (h : Nat → Nat) : Nat → Nat := fun j => if j < 4 then h (j + 1) else if j = 4 then h 0 else h j
theorem qe_drop {M : wM} {h : Nat → Nat} (hH : qv_H h) : qf_X2_dropOldest M h = some (qw_u1 M 8 (qw_u2 (M 8) 0 4 (nI 4)), qv_rot h) := by
  have g0 := hH.1 0 (by decide)
  have g1 := hH.1 1 (by decide)
  have g2 := hH.1 2 (by decide)
  have g3 := hH.1 3 (by decide)
  have g4 := hH.1 4 (by decide)
  unfold qf_X2_dropOldest
  rw [qn_e, qg_t (by omega)]
  have hf : qfu = 5995 + 1 + 1 + 1 + 1 + 1 := rfl
  rw [hf]
  have hh : ∀ (g : Nat → Nat) (i o j : Nat), qw_hu g i o j = if j = i then o else g j := fun g i o j => rfl
  rw [qf_X2_dropOldest_9]
  simp (disch := omega) only [qa_le, qn_e, qa_sub, qa_g, qa_cl, nI_add, hh, Nat.reduceAdd]
  rw [if_neg (by decide), qg_t (by omega), qf_X2_dropOldest_9]
  simp (disch := omega) only [qa_le, qn_e, qa_sub, qa_g, qa_cl, nI_add, hh, Nat.reduceAdd]
  rw [if_neg (by decide), if_neg (by decide), qg_t (by omega), qf_X2_dropOldest_9]
  simp (disch := omega) only [qa_le, qn_e, qa_sub, qa_g, qa_cl, nI_add, hh, Nat.reduceAdd]
  rw [if_neg (by decide), if_neg (by decide), if_neg (by decide), qg_t (by omega), qf_X2_dropOldest_9]
  simp (disch := omega) only [qa_le, qn_e, qa_sub, qa_g, qa_cl, nI_add, hh, Nat.reduceAdd]
  rw [if_neg (by decide), if_neg (by decide), if_neg (by decide), if_neg (by decide), qg_t (by omega), qf_X2_dropOldest_9]
  simp (disch := omega) only [qa_le]
  rw [if_pos (by decide)]
  unfold qf_X2_dropOldest_34
  rw [qn_e, qn_e]
  congr 2
  funext j
  unfold qv_rot
  simp only [hh]
  rcases (show j = 0 ∨ j = 1 ∨ j = 2 ∨ j = 3 ∨ j = 4 ∨ 5 ≤ j by omega) with rfl | rfl | rfl | rfl | rfl | hj
  · rfl
  · rfl
  · rfl
  · rfl
  · rfl
  · simp (disch := omega) only [if_neg]
theorem qw_u1_s (M : wM) (o : Nat) (m : wm) : qw_u1 M o m o = m := by
  unfold qw_u1
  rw [if_pos rfl]
theorem qw_u1_n (M : wM) {o k : Nat} (m : wm) (g : k ≠ o) : qw_u1 M o m k = M k := by
  unfold qw_u1
  rw [if_neg g]
theorem qv_rot_H {h : Nat → Nat} (H : qv_H h) : qv_H (qv_rot h) := by
  have e : ∀ i : Nat, i < 5 → qv_rot h i = h (if i < 4 then i + 1 else 0) := by
    intro i hi
    unfold qv_rot
    by_cases c : i < 4
    · rw [if_pos c, if_pos c]
    · rw [if_neg c, if_neg c, if_pos (by omega)]
  refine ⟨fun i hi => ?_, fun i j hi hj g => ?_⟩
  · rw [e i hi]
    apply H.1
    split <;> omega
  · rw [e i hi, e j hj] at g
    have := H.2 _ _ (by split <;> omega) (by split <;> omega) g
    by_cases c : i < 4
    · by_cases d : j < 4
      · rw [if_pos c, if_pos d] at this
        omega
      · rw [if_pos c, if_neg d] at this
        omega
    · by_cases d : j < 4
      · rw [if_neg c, if_pos d] at this
        omega
      · omega
/-- a state just begun -/
def qv_fresh (m : wm) (Z : Nat) (r : Int32) : Prop :=
  (m 0 0 = r ∧ m 0 1 = nI Z ∧ m 0 2 = nI (Z - 1) ∧ m 0 3 = nI 0 ∧ m 0 4 = nI 0 ∧ m 0 5 = nI 0 ∧ m 0 6 = nI 0) ∧ (∀ y : Nat, y < 4 → m 1 y = nI 0) ∧ (∀ y : Nat, y < 4 → m 2 y = nI 0) ∧ (∀ y : Nat, y < 200 → m 3 y = nI 0) ∧ (∀ y : Nat, y < 16 → m 13 y = -9) ∧ (∀ y : Nat, y < 16 → m 14 y = -9) ∧ (∀ y : Nat, y < 16 → m 15 y = nI 0)
theorem qv_freshO {m : wm} {Z : Nat} {r : Int32} (h1 : 2 ≤ Z) (h2 : Z ≤ 16) (hr : r = nI 0 ∨ r = nI 1) (F : qv_fresh m Z r) : qs_ok m (Z - 1) Z 0 0 0 0 := by
  obtain ⟨⟨f0, f1, f2, f3, f4, f5, f6⟩, g1, g2, g3, g13, g14, g15⟩ := F
  refine ⟨⟨h1, h2, by omega, by omega, by omega, by omega, by omega⟩, ⟨f1, f2, f3, f5, f6, g1 0 (by decide), ?_⟩, ?_, ?_, ?_, ?_, ?_⟩
  · rw [f0]
    exact hr
  · intro i hi
    omega
  · intro i hi
    exact Or.inl (g13 i hi)
  · intro i _ hi
    exact g3 i hi
  · intro i hi
    omega
  · rfl
def qx_fl (c n : Nat) (v : Int32) (m : wm) : wm := fun x y => if x = c ∧ y < n then v else m x y
theorem qx_fl_s {c n : Nat} {v : Int32} {m : wm} {x y : Nat} (g : x = c ∧ y < n) : qx_fl c n v m x y = v := if_pos g
theorem qx_fl_n {c n : Nat} {v : Int32} {m : wm} {x y : Nat} (g : ¬ (x = c ∧ y < n)) : qx_fl c n v m x y = m x y := if_neg g
theorem qp_fill2 (ca le : Nat) (x1 : Int32) (hle : le < 5000) (m : wm) : qf_J7_fill_53178 ca le x1 m = some (qx_fl ca le x1 m) := qp_fill ca le x1 hle m
def qx_new (Z : Nat) (m : wm) : wm := qx_fl 15 16 (nI 0) (qx_fl 14 16 (-9) (qx_fl 13 16 (-9) (qx_fl 3 200 (nI 0) (qx_fl 2 4 (nI 0) (qx_fl 1 4 (nI 0) (qw_u2 (qw_u2 (qw_u2 (qw_u2 (qw_u2 (qw_u2 m 0 1 (nI Z)) 0 2 (nI (Z - 1))) 0 3 (nI 0)) 0 4 (nI 0)) 0 5 (nI 0)) 0 6 (nI 0)))))))
theorem qe_new {m : wm} {Z : Nat} (h1 : 2 ≤ Z) (h2 : Z ≤ 16) : qf_X0_beginAnew (nI Z) m = some (qx_new Z m) := by
  unfold qf_X0_beginAnew
  simp (disch := omega) only [qn_e, qp_fill2, qa_t1, qa_sub]
  rfl
theorem qx_new_f {m : wm} {Z : Nat} : qv_fresh (qx_new Z m) Z (m 0 0) := by
  unfold qx_new
  refine ⟨⟨?_, ?_, ?_, ?_, ?_, ?_, ?_⟩, ?_, ?_, ?_, ?_, ?_, ?_⟩
  · simp (disch := omega) only [qx_fl_n, qw_u2_n]
  · simp (disch := omega) only [qx_fl_n, qw_u2_n, qw_u2_e]
  · simp (disch := omega) only [qx_fl_n, qw_u2_n, qw_u2_e]
  · simp (disch := omega) only [qx_fl_n, qw_u2_n, qw_u2_e]
  · simp (disch := omega) only [qx_fl_n, qw_u2_n, qw_u2_e]
  · simp (disch := omega) only [qx_fl_n, qw_u2_n, qw_u2_e]
  · simp (disch := omega) only [qx_fl_n, qw_u2_n, qw_u2_e]
  · intro y hy
    simp (disch := omega) only [qx_fl_n, qx_fl_s]
  · intro y hy
    simp (disch := omega) only [qx_fl_n, qx_fl_s]
  · intro y hy
    simp (disch := omega) only [qx_fl_n, qx_fl_s]
  · intro y hy
    simp (disch := omega) only [qx_fl_n, qx_fl_s]
  · intro y hy
    simp (disch := omega) only [qx_fl_n, qx_fl_s]
  · intro y hy
    simp (disch := omega) only [qx_fl_n, qx_fl_s]
theorem qe_isSizeT {Z : Nat} (h1 : 2 ≤ Z) (h2 : Z ≤ 16) : qf_X2_isSize (nI Z) = some (nI 1) := by
  unfold qf_X2_isSize
  simp (disch := omega) only [qa_lt]
  rw [if_neg (by omega), if_neg (by omega)]
theorem qe_isSizeF {x : Int32} (h : x < nI 2 ∨ nI 16 < x) : qf_X2_isSize x = some (nI 0) := by
  unfold qf_X2_isSize
  rcases h with h | h
  · rw [if_pos h]
  · by_cases h2 : x < nI 2
    · rw [if_pos h2]
    · rw [if_neg h2, if_pos h]
theorem qa_gt1 {x : Int32} {n : Nat} (hn : n < 2147483646) (h : nI n < x) : ¬ x < nI (n + 1) := by
  rw [qa_lt_iff] at h ⊢
  rw [qa_ti (by omega)] at h ⊢
  omega
theorem qa_gle {x : Int32} {n m : Nat} (hn : n < 2147483647) (hm : m ≤ n + 1) (h : nI n < x) : nI m ≤ x := by
  rw [qa_lt_iff] at h
  rw [qa_le_iff]
  rw [qa_ti (by omega)] at h ⊢
  omega
theorem qa_gnl {x : Int32} {n m : Nat} (hn : n < 2147483647) (hm : m ≤ n) (h : nI n < x) : ¬ x ≤ nI m := by
  rw [qa_lt_iff] at h
  rw [qa_le_iff]
  rw [qa_ti (by omega)] at h ⊢
  omega
theorem qa_gne {x : Int32} {n m : Nat} (hn : n < 2147483647) (hm : m ≤ n) (h : nI n < x) : ¬ x = nI m := by
  intro e
  rw [e, qa_lt (by omega) (by omega)] at h
  omega
theorem qa_nne {x : Int32} {m : Nat} (hm : m < 2147483647) (h : x < 0) : ¬ x = nI m := by
  intro e
  rw [e, qa_l0 (by omega)] at h
  exact h
theorem qa_nl0 {x : Int32} {n : Nat} (hn : n < 2147483647) (h : x < 0) : x < nI n := by
  rw [qa_lt_iff] at h ⊢
  rw [qa_ti (by omega)]
  have e0 : (0 : Int32).toInt = 0 := by decide
  omega
theorem qa_glt {x : Int32} {n m : Nat} (hn : n < 2147483647) (hm : m ≤ n + 1) (h : nI n < x) : ¬ x < nI m := by
  rw [qa_lt_iff] at h ⊢
  rw [qa_ti (by omega)] at h ⊢
  omega
theorem qw_u1_u (M : wM) (o : Nat) (m m' : wm) : qw_u1 (qw_u1 M o m) o m' = qw_u1 M o m' := by
  funext k
  by_cases h : k = o
  · subst h
    rw [qw_u1_s, qw_u1_s]
  · rw [qw_u1_n _ _ h, qw_u1_n _ _ h, qw_u1_n _ _ h]
theorem qw_u2_u (m : wm) (c i : Nat) (a b : Int32) : qw_u2 (qw_u2 m c i a) c i b = qw_u2 m c i b := by
  funext x y
  by_cases h : x = c ∧ y = i
  · rw [qw_u2_e _ _ h.1 h.2, qw_u2_e _ _ h.1 h.2]
  · rw [qw_u2_n _ _ h, qw_u2_n _ _ h, qw_u2_n _ _ h]
