theorem qe_isOv {m : wm} {i : Nat} (h : i < 40) : qf_X0_isOverrun (nI i) m = some (if m 12 i = -9 then nI 0 else nI 1) := by
  unfold qf_X0_isOverrun
  simp (disch := omega) only [qn, qa_g, qa_cl]
  split <;> rfl
def qx_sb (Z T : Nat) : Nat := if T = 0 then Z - 1 else T - 1
theorem qx_sb_lt {Z T : Nat} (h1 : 1 ≤ Z) (h : T < Z) : qx_sb Z T < Z := by
  unfold qx_sb
  split <;> omega
theorem qe_sb {m : wm} {Z T : Nat} (hz : m 0 1 = nI Z) (h1 : 1 ≤ Z) (h2 : Z < 100) (h3 : T < 100) : qf_X0_slotBefore (nI T) m = some (nI (qx_sb Z T)) := by
  unfold qf_X0_slotBefore qx_sb
  by_cases h : T = 0
  · rw [if_pos h]
    simp (disch := omega) only [qn, hz, qa_e00, qa_sub, if_pos]
  · rw [if_neg h]
    simp (disch := omega) only [qn, hz, qa_e00, qa_sub, if_neg]
theorem qe_out {m : wm} {i T : Nat} (hi : i < 40) (hT : T < 16) : qf_X0_outcomeOf (nI i) (nI T) m = some (if m 14 T = m 10 i then (if m 13 T = m 8 i then nI 0 else nI 1) else if m 12 i = -9 then nI 3 else nI 2) := by
  unfold qf_X0_outcomeOf
  simp (disch := omega) only [qn, qa_g, qa_cl, qe_isOv, qa_s1]
  by_cases h1 : m 14 T = m 10 i
  · rw [if_pos h1, if_pos h1]
    by_cases h2 : m 13 T = m 8 i
    · rw [if_pos h2, if_pos h2]
    · rw [if_neg h2, if_neg h2]
  · rw [if_neg h1, if_neg h1]
    by_cases h3 : m 12 i = -9
    · rw [if_pos h3, if_pos h3, if_pos (show nI 0 = 0 from rfl)]
    · rw [if_neg h3, if_neg h3, if_neg (show ¬ nI 1 = 0 by decide)]
/-- the frames of the slot t below H are overrun by v -/
def qx_ov (H : Nat) (v t : Int32) (m : wm) : wm := fun x y => if x = 12 ∧ y < H ∧ m 11 y = t ∧ m 12 y = -9 then v else m x y
theorem qe_ov_2 {t v : Int32} {H : Nat} (hH : H ≤ 40) : ∀ (d n i : Nat) (m : wm), m 0 3 = nI H → m 0 2 = t → i ≤ H → H - i = d → d < n →
    qf_X0_overrunFramesOfTop_2 n v (nI i) m = some (fun x y => if x = 12 ∧ i ≤ y ∧ y < H ∧ m 11 y = t ∧ m 12 y = -9 then v else m x y) := by
  intro d
  induction d with
  | zero =>
    intro n i m h1 h2 hi hd hn
    obtain ⟨n, rfl⟩ : ∃ k, n = k + 1 := ⟨n - 1, by omega⟩
    rw [qf_X0_overrunFramesOfTop_2]
    simp (disch := omega) only [qn, h1, qa_le]
    rw [if_pos (by omega)]
    congr 1
    funext x y
    rw [if_neg (by omega)]
  | succ d ih =>
    intro n i m h1 h2 hi hd hn
    obtain ⟨n, rfl⟩ : ∃ k, n = k + 1 := ⟨n - 1, by omega⟩
    rw [qf_X0_overrunFramesOfTop_2]
    simp (disch := omega) only [qn, h1, h2, qa_le, qa_g, qa_cl, qe_isOv, qa_s1, nI_add]
    rw [if_neg (by omega)]
    by_cases h3 : m 11 i = t
    · rw [if_pos h3]
      by_cases h4 : m 12 i = -9
      · rw [if_pos h4, if_pos (show nI 0 = 0 from rfl), ih n (i + 1) (qw_u2 m 12 i v) (by rw [qw_u2_n _ _ (by omega)]; exact h1) (by rw [qw_u2_n _ _ (by omega)]; exact h2) (by omega) (by omega) (by omega)]
        congr 1
        funext x y
        simp only [qw_u2_at]
        by_cases hx : x = 12
        · subst hx
          by_cases hy : y = i
          · rw [if_neg (fun q => absurd q.2.1 (by omega)), if_pos ⟨rfl, hy⟩, if_pos ⟨rfl, by omega, by omega, by rw [hy]; exact h3, by rw [hy]; exact h4⟩]
          · simp only [hy, and_false, if_false]
            by_cases hz : m 11 y = t ∧ m 12 y = -9
            · by_cases hr : i ≤ y ∧ y < H
              · rw [if_pos ⟨trivial, by omega, hr.2, hz.1, hz.2⟩, if_pos ⟨trivial, hr.1, hr.2, hz.1, hz.2⟩]
              · rw [if_neg (fun q => hr ⟨by omega, q.2.2.1⟩), if_neg (fun q => hr ⟨q.2.1, q.2.2.1⟩)]
            · rw [if_neg (fun q => hz ⟨q.2.2.2.1, q.2.2.2.2⟩), if_neg (fun q => hz ⟨q.2.2.2.1, q.2.2.2.2⟩)]
        · rw [if_neg (fun q => hx q.1), if_neg (fun q => hx q.1), if_neg (fun q => hx q.1)]
      · rw [if_neg h4, if_neg (show ¬ nI 1 = 0 by decide), ih n (i + 1) m h1 h2 (by omega) (by omega) (by omega)]
        congr 1
        funext x y
        by_cases hy : y = i
        · subst hy
          rw [if_neg (by omega), if_neg (fun q => h4 q.2.2.2.2)]
        · by_cases hz : x = 12 ∧ m 11 y = t ∧ m 12 y = -9
          · by_cases hr : i ≤ y ∧ y < H
            · rw [if_pos ⟨hz.1, by omega, hr.2, hz.2⟩, if_pos ⟨hz.1, hr.1, hr.2, hz.2⟩]
            · rw [if_neg (fun q => hr ⟨by omega, q.2.2.1⟩), if_neg (fun q => hr ⟨q.2.1, q.2.2.1⟩)]
          · rw [if_neg (fun q => hz ⟨q.1, q.2.2.2⟩), if_neg (fun q => hz ⟨q.1, q.2.2.2⟩)]
    · rw [if_neg h3, ih n (i + 1) m h1 h2 (by omega) (by omega) (by omega)]
      congr 1
      funext x y
      by_cases hy : y = i
      · subst hy
        rw [if_neg (by omega), if_neg (fun q => h3 q.2.2.2.1)]
      · by_cases hz : x = 12 ∧ m 11 y = t ∧ m 12 y = -9
        · by_cases hr : i ≤ y ∧ y < H
          · rw [if_pos ⟨hz.1, by omega, hr.2, hz.2⟩, if_pos ⟨hz.1, hr.1, hr.2, hz.2⟩]
          · rw [if_neg (fun q => hr ⟨by omega, q.2.2.1⟩), if_neg (fun q => hr ⟨q.2.1, q.2.2.1⟩)]
        · rw [if_neg (fun q => hz ⟨q.1, q.2.2.2⟩), if_neg (fun q => hz ⟨q.1, q.2.2.2⟩)]
theorem qe_ov {t v : Int32} {H : Nat} (hH : H ≤ 40) {m : wm} (h1 : m 0 3 = nI H) (h2 : m 0 2 = t) : qf_X0_overrunFramesOfTop v m = some (qx_ov H v t m) := by
  unfold qf_X0_overrunFramesOfTop
  rw [qe_ov_2 hH H qfu 0 m h1 h2 (by omega) (by omega) (by unfold qfu; omega)]
  congr 1
  funext x y
  unfold qx_ov
  by_cases hz : x = 12 ∧ y < H ∧ m 11 y = t ∧ m 12 y = -9
  · rw [if_pos hz, if_pos ⟨hz.1, Nat.zero_le _, hz.2⟩]
  · rw [if_neg hz, if_neg (fun q => hz ⟨q.1, q.2.2⟩)]
theorem qx_ov_n {H : Nat} {v t : Int32} {m : wm} {x y : Nat} (h : x ≠ 12) : qx_ov H v t m x y = m x y := if_neg (fun q => h q.1)
def qx_st (Z T : Nat) : Nat := if T + 1 < Z then T + 1 else 0
/-- the memory behind a call's frame -/
def qx_add (m : wm) (T Z H N : Nat) (fn a : Int32) : wm :=
  let T2 := qx_st Z T
  let m1 := qx_ov H (nI N) (nI T2) (qw_u2 m 0 2 (nI T2))
  let m2 := qw_u2 (qw_u2 (qw_u2 m1 13 T2 (nI N)) 14 T2 a) 15 T2 (m 15 T2 + nI 1)
  let m3 := qw_u2 (qw_u2 (qw_u2 (qw_u2 (qw_u2 m2 8 H (nI N)) 9 H fn) 10 H a) 11 H (nI T2)) 12 H (-9)
  qw_u2 (qw_u2 m3 0 3 (nI (H + 1))) 0 4 (if m 0 4 < nI (H + 1) then nI (H + 1) else m 0 4)
theorem qe_add {m : wm} {T Z H N : Nat} {fn a : Int32} (eZ : m 0 1 = nI Z) (hZ : 1 ≤ Z ∧ Z ≤ 16) (eT : m 0 2 = nI T) (hT : T < Z) (eH : m 0 3 = nI H) (hH : H < 40) (eN : m 1 0 = nI N) :
    qf_X0_addFrame fn a m = some (nI N, qx_add m T Z H N fn a) := by
  have key : ∀ T2 : Nat, T2 < 16 → qf_X0_addFrame_31 fn a (nI N) (nI T2) m = some (nI N,
      qw_u2 (qw_u2 (qw_u2 (qw_u2 (qw_u2 (qw_u2 (qw_u2 (qw_u2 (qw_u2 (qw_u2 (qx_ov H (nI N) (nI T2) (qw_u2 m 0 2 (nI T2))) 13 T2 (nI N)) 14 T2 a) 15 T2 (m 15 T2 + nI 1)) 8 H (nI N)) 9 H fn) 10 H a) 11 H (nI T2)) 12 H (-9)) 0 3 (nI (H + 1))) 0 4 (if m 0 4 < nI (H + 1) then nI (H + 1) else m 0 4)) := by
    intro T2 h2
    unfold qf_X0_addFrame_31
    have h3 : qf_X0_overrunFramesOfTop (nI N) (qw_u2 m 0 2 (nI T2)) = some (qx_ov H (nI N) (nI T2) (qw_u2 m 0 2 (nI T2))) := qe_ov (by omega) (by rw [qw_u2_n _ _ (by omega)]; exact eH) (qw_u2_s _ _ _ _)
    simp (disch := omega) only [qn, h3, qa_s1, qw_u2_n, qw_u2_s, qx_ov_n, qa_g, qa_cl, eH, nI_add, ne_eq]
  unfold qf_X0_addFrame
  simp (disch := omega) only [qn, eN, eT, eZ, nI_add, qa_le]
  by_cases h : T + 1 < Z
  · rw [if_neg (by omega), key (T + 1) (by omega)]
    unfold qx_add qx_st
    rw [if_pos h]
  · rw [if_pos (by omega), key 0 (by omega)]
    unfold qx_add qx_st
    rw [if_neg h]
