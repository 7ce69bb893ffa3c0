theorem qw_u2_e (m : wm) {c i x y : Nat} (v : Int32) (h : x = c) (h2 : y = i) : qw_u2 m c i v x y = v := by rw [qw_u2_at, if_pos ⟨h, h2⟩]
theorem qw_u2_id (m : wm) (c i : Nat) : qw_u2 m c i (m c i) = m := by
  funext x y
  rw [qw_u2_at]
  split
  · rename_i h
    rw [h.1, h.2]
  · rfl
theorem qm_in {x l h : Int32} : qf_X3_in x l h = some (if x < l then nI 0 else if h < x then nI 0 else nI 1) := by
  unfold qf_X3_in
  split
  · rfl
  · split <;> rfl
theorem qm_inT {x a b : Nat} (ha : a ≤ x) (hb : x ≤ b) (h : b < 2147483648) : qf_X3_in (nI x) (nI a) (nI b) = some (nI 1) := by
  rw [qm_in]
  simp (disch := omega) only [qa_lt]
  rw [if_neg (by omega), if_neg (by omega)]
theorem qm_ofF {t : wm} {k w : Nat} (h : 15 + 5 * k + w < 935) : qf_X3_ofFrame (nI k) (nI w) t = some (t 1 (15 + 5 * k + w)) := by
  unfold qf_X3_ofFrame
  simp (disch := omega) only [qn, pk_mul, nI_add, qa_g, qa_cl]
theorem qm_ofS {t : wm} {k w : Nat} (h : 215 + 3 * k + w < 935) : qf_X3_ofSlot (nI k) (nI w) t = some (t 1 (215 + 3 * k + w)) := by
  unfold qf_X3_ofSlot
  simp (disch := omega) only [qn, pk_mul, nI_add, qa_g, qa_cl]
def qx_notes (t : wm) (S k : Nat) (v : Int32) : wm := qw_u2 (qw_u2 (qw_u2 (qw_u2 t 1 (335 + 2 * S) (nI k)) 1 (335 + 2 * S + 1) v) 1 1 (nI (S + 1))) 1 (2 + k) (t 1 (2 + k) + nI 1)
theorem qm_notes {t : wm} {S k : Nat} {v : Int32} (eS : t 1 1 = nI S) (hS : S < 200) (hk : k < 4) : qf_X3_notes (nI k) v t = some (qx_notes t S k v) := by
  unfold qf_X3_notes
  simp (disch := omega) only [qn, eS, pk_mul, nI_add, qa_g, qa_cl, qw_u2_n, qw_u2_s]
  rfl
theorem qm_back {x b Z : Nat} (hx : x < 100) (hb : b ≤ 40) (h0 : 0 < Z) (hZ : Z ≤ 16) : qf_X3_back (nI x) (nI b) (nI Z) = some (nI ((x + Z * 40 - b) % Z)) := by
  have hz : b ≤ x + Z * 40 := by omega
  unfold qf_X3_back
  simp (disch := omega) only [qn, pk_mul, nI_add, qa_sub, qa_gn, qa_rem]
theorem qx_back_all : ∀ Z : Nat, Z < 17 → ∀ x : Nat, x < Z → ∀ b : Nat, b < 41 → (x + Z * 40 - b) % Z = (x + Z * 40 - b % Z) % Z := by decide +kernel
theorem qx_back_sb {Z x : Nat} (hZ : Z ≤ 16) (h0 : 1 ≤ Z) (hx : x < Z) (b : Nat) (hb : b < 40) : (x + Z * 40 - (b + 1)) % Z = qx_sb Z ((x + Z * 40 - b) % Z) := by
  have h : ∀ Z : Nat, Z < 17 → ∀ x : Nat, x < Z → ∀ b : Nat, b < 40 → (x + Z * 40 - (b + 1)) % Z = qx_sb Z ((x + Z * 40 - b) % Z) := by decide +kernel
  exact h Z (by omega) x hx b hb
theorem qx_sbn_back {Z x : Nat} (hZ : Z ≤ 16) (h0 : 1 ≤ Z) (hx : x < Z) : ∀ b : Nat, b ≤ 40 → qx_sbn Z x b = (x + Z * 40 - b) % Z := by
  intro b
  induction b with
  | zero =>
    intro _
    show x = (x + Z * 40) % Z
    rw [Nat.add_mul_mod_self_left, Nat.mod_eq_of_lt hx]
  | succ b ih =>
    intro hb
    rw [qx_back_sb hZ h0 hx b (by omega), ← ih (by omega)]
    rfl
/-- the frames of the row s overrun by v -/
def qx_mov (i H : Nat) (v tv : Int32) (t : wm) : wm := fun x y => if x = 1 ∧ 19 + 5 * i ≤ y ∧ y < 19 + 5 * H ∧ (y - 19) % 5 = 0 ∧ t 1 (y - 1) = tv ∧ t 1 y = -9 then v else t x y
theorem qx_mov_s {i H : Nat} (h : i < H) (v tv : Int32) (t : wm) (b : wm) (hb : ∀ x y, b x y = if x = 1 ∧ y = 19 + 5 * i ∧ t 1 (18 + 5 * i) = tv ∧ t 1 (19 + 5 * i) = -9 then v else t x y) : qx_mov (i + 1) H v tv b = qx_mov i H v tv t := by
  funext x y
  unfold qx_mov
  by_cases hx : x = 1
  · subst hx
    by_cases hy : y = 19 + 5 * i
    · subst hy
      rw [if_neg (by omega), hb]
      have e : 19 + 5 * i - 1 = 18 + 5 * i := by omega
      rw [e]
      by_cases hc : t 1 (18 + 5 * i) = tv ∧ t 1 (19 + 5 * i) = -9
      · rw [if_pos ⟨rfl, rfl, hc⟩, if_pos ⟨rfl, by omega, by omega, by omega, hc⟩]
      · rw [if_neg (fun q => hc q.2.2), if_neg (fun q => hc q.2.2.2.2)]
    · have e1 : b 1 y = t 1 y := by rw [hb, if_neg (fun q => hy q.2.1)]
      rw [e1]
      by_cases hr : 19 + 5 * (i + 1) ≤ y ∧ y < 19 + 5 * H ∧ (y - 19) % 5 = 0
      · have e2 : b 1 (y - 1) = t 1 (y - 1) := by rw [hb, if_neg (fun q => by omega)]
        rw [e2]
        by_cases hc : t 1 (y - 1) = tv ∧ t 1 y = -9
        · rw [if_pos ⟨rfl, hr.1, hr.2.1, hr.2.2, hc⟩, if_pos ⟨rfl, by omega, hr.2.1, hr.2.2, hc⟩]
        · rw [if_neg (fun q => hc q.2.2.2.2), if_neg (fun q => hc q.2.2.2.2)]
      · rw [if_neg (fun q => hr ⟨q.2.1, q.2.2.1, q.2.2.2.1⟩), if_neg (fun q => hr ⟨by omega, q.2.2.1, q.2.2.2.1⟩)]
  · rw [if_neg (fun q => hx q.1), if_neg (fun q => hx q.1), hb, if_neg (fun q => hx q.1)]
theorem qm_call_82 {x1 x2 v tv : Int32} {H : Nat} (hH : H ≤ 40) : ∀ (d n i : Nat) (t : wm), t 1 0 = nI H → i ≤ H → H - i = d → d < n →
    qf_X3_call_82 n x1 x2 v tv (nI i) t = qf_X3_call_160 x1 x2 v tv (qx_mov i H v tv t) := by
  intro d
  induction d with
  | zero =>
    intro n i t e0 hi hd hn
    obtain ⟨n, rfl⟩ : ∃ k, n = k + 1 := ⟨n - 1, by omega⟩
    rw [qf_X3_call_82]
    simp (disch := omega) only [qn, e0, qa_le]
    rw [if_pos (by omega)]
    congr 1
    funext x y
    unfold qx_mov
    rw [if_neg (by omega)]
  | succ d ih =>
    intro n i t e0 hi hd hn
    obtain ⟨n, rfl⟩ : ∃ k, n = k + 1 := ⟨n - 1, by omega⟩
    rw [qf_X3_call_82]
    simp (disch := omega) only [qn, e0, qa_le, qm_ofF, qa_s1, pk_mul, nI_add, qa_g, qa_cl]
    rw [if_neg (by omega), qw_u2_id]
    have ea : 15 + 5 * i + 3 = 18 + 5 * i := by omega
    have eb : 15 + 5 * i + 4 = 19 + 5 * i := by omega
    rw [ea, eb]
    by_cases h3 : t 1 (18 + 5 * i) = tv
    · rw [if_pos h3]
      by_cases h4 : t 1 (19 + 5 * i) = -9
      · rw [if_pos h4, ih n (i + 1) _ (by rw [qw_u2_n _ _ (by omega)]; exact e0) (by omega) (by omega) (by omega), qx_mov_s (by omega) v tv t]
        intro x y
        rw [qw_u2_at]
        by_cases hc : x = 1 ∧ y = 19 + 5 * i
        · rw [if_pos hc, if_pos ⟨hc.1, hc.2, h3, h4⟩]
        · rw [if_neg hc, if_neg (fun q => hc ⟨q.1, q.2.1⟩)]
      · rw [if_neg h4, ih n (i + 1) _ e0 (by omega) (by omega) (by omega), qx_mov_s (by omega) v tv t]
        intro x y
        rw [if_neg (fun q => h4 q.2.2.2)]
    · rw [if_neg h3, ih n (i + 1) _ e0 (by omega) (by omega) (by omega), qx_mov_s (by omega) v tv t]
      intro x y
      rw [if_neg (fun q => h3 q.2.2.1)]
/-- the row behind a call -/
def qx_mcall (t : wm) (H S N T2 : Nat) (fn a : Int32) : wm :=
  let t1 := qw_u2 (qx_mov 0 H (nI N) (nI T2) t) 1 12 (nI T2)
  let t2 := qw_u2 (qw_u2 (qw_u2 t1 1 (215 + 3 * T2 + 0) (nI N)) 1 (215 + 3 * T2 + 1) a) 1 (215 + 3 * T2 + 2) (t 1 (215 + 3 * T2 + 2) + nI 1)
  let t3 := qw_u2 (qw_u2 (qw_u2 (qw_u2 (qw_u2 t2 1 (15 + 5 * H + 0) (nI N)) 1 (15 + 5 * H + 1) fn) 1 (15 + 5 * H + 2) a) 1 (15 + 5 * H + 3) (nI T2)) 1 (15 + 5 * H + 4) (-9)
  let t4 := qw_u2 (qw_u2 (qw_u2 t3 1 0 (nI (H + 1))) 1 13 (if t 1 13 < nI (H + 1) then nI (H + 1) else t 1 13)) 1 (735 + N) (nI 0)
  qx_notes t4 S 0 a
theorem qx_mov_n {i H : Nat} {v tv : Int32} {t : wm} {x y : Nat} (h : ¬ (x = 1 ∧ 19 + 5 * i ≤ y ∧ y < 19 + 5 * H ∧ (y - 19) % 5 = 0)) : qx_mov i H v tv t x y = t x y := if_neg (fun q => h ⟨q.1, q.2.1, q.2.2.1, q.2.2.2.1⟩)
theorem qm_call_160 {t : wm} {H S N T2 : Nat} {fn a : Int32} (e0 : t 1 0 = nI H) (hH : H < 40) (e1 : t 1 1 = nI S) (hS : S < 200) (hN : N < 200) (hT : T2 < 16) :
    qf_X3_call_160 fn a (nI N) (nI T2) (qx_mov 0 H (nI N) (nI T2) t) = some (nI N, qx_mcall t H S N T2 fn a) := by
  unfold qf_X3_call_160
  simp (disch := omega) only [qn, e0, pk_mul, nI_add, qa_g, qa_cl, qw_u2_n, qw_u2_s, qx_mov_n]
  have key : ∀ y0 : Int32, y0 = (if t 1 13 < nI (H + 1) then nI (H + 1) else t 1 13) → ∀ u : wm, u 1 1 = nI S → qf_X3_call_333 a (nI N) y0 (nI 13) u = some (nI N, qx_notes (qw_u2 (qw_u2 u 1 13 (if t 1 13 < nI (H + 1) then nI (H + 1) else t 1 13)) 1 (735 + N) (nI 0)) S 0 a) := by
    intro y0 ey u eu
    subst ey
    unfold qf_X3_call_333
    have hn : ∀ w : wm, w 1 1 = nI S → qf_X3_notes (nI 0) a w = some (qx_notes w S 0 a) := fun w hw => qm_notes hw hS (by decide)
    simp (disch := omega) only [qn, nI_add, qa_g, qa_cl]
    rw [hn _ (by simp (disch := omega) only [qw_u2_n]; exact eu), qa_s1]
  by_cases hg : nI (H + 1) ≤ t 1 13
  · have hng : ¬ t 1 13 < nI (H + 1) := by
      rw [qa_lt_iff]
      rw [qa_le_iff] at hg
      omega
    rw [if_pos hg, key _ (by rw [if_neg hng]) _ (by simp (disch := omega) only [qw_u2_n, qx_mov_n]; exact e1)]
    rfl
  · have hng : t 1 13 < nI (H + 1) := by
      rw [qa_lt_iff]
      rw [qa_le_iff] at hg
      omega
    rw [if_neg hg, key _ (by rw [if_pos hng]) _ (by simp (disch := omega) only [qw_u2_n, qx_mov_n]; exact e1)]
    rfl
