theorem qe_repl {m : wm} {H : Nat} {fn : Int32} (eH : m 0 3 = nI H) (h1 : 1 ≤ H) (h2 : H ≤ 40) : qf_X0_replaceFunction fn m = some (m 9 (H - 1), qw_u2 m 9 (H - 1) fn) := by
  unfold qf_X0_replaceFunction
  simp (disch := omega) only [qn, eH, qa_sub, qa_g, qa_cl]
def qx_sh (m : wm) : wm := fun x y => if 19 ≤ x ∧ x < 25 ∧ 1 ≤ y ∧ y < 12 then m x (y - 1) else m x y
theorem qx_sh_n {m : wm} {x y : Nat} (h : x < 19) : qx_sh m x y = m x y := if_neg (fun q => by omega)
theorem qe_conf_49 {x2 x3 x4 : Int32} : ∀ (d n i : Nat) (m : wm), i ≤ 6 → 6 - i = d → d < n →
    qf_X0_confess_49 n x2 x3 x4 (nI i) m = qf_X0_confess_83 x2 x3 x4 (fun x y => if 19 + i ≤ x ∧ x < 25 ∧ 1 ≤ y ∧ y < 12 then m x (y - 1) else m x y) := by
  intro d
  induction d with
  | zero =>
    intro n i m hi hd hn
    obtain ⟨n, rfl⟩ : ∃ k, n = k + 1 := ⟨n - 1, by omega⟩
    rw [qf_X0_confess_49]
    simp (disch := omega) only [qa_le]
    rw [if_pos (by omega)]
    congr 1
    funext x y
    rw [if_neg (by omega)]
  | succ d ih =>
    intro n i m hi hd hn
    obtain ⟨n, rfl⟩ : ∃ k, n = k + 1 := ⟨n - 1, by omega⟩
    rw [qf_X0_confess_49]
    simp (disch := omega) only [qa_le, qn, qa_g, qa_cl, nI_add]
    rw [if_neg (by omega), ih n (i + 1) _ (by omega) (by omega) (by omega)]
    congr 1
    funext x y
    simp only [qw_uc_at, va_cpy]
    by_cases hx : x = 19 + i
    · subst hx
      rw [if_neg (by omega), if_pos rfl]
      by_cases hy : 1 ≤ y ∧ y < 12
      · rw [if_pos (by omega), if_pos (by omega)]
        congr 1
        omega
      · rw [if_neg (by omega), if_neg (by omega)]
    · by_cases hr : 19 + i ≤ x ∧ x < 25 ∧ 1 ≤ y ∧ y < 12
      · rw [if_pos (by omega), if_neg hx, if_pos hr]
      · rw [if_neg (by omega), if_neg hx, if_neg hr]
/-- the memory behind a confession of the kind kd, with the culprit cu -/
def qx_cf (m : wm) (H T C : Nat) (kd cu : Int32) : wm :=
  let m2 := qw_u2 (qw_u2 (qw_u2 (qw_u2 (qw_u2 (qw_u2 (qw_u2 (qx_sh m) 19 0 kd) 20 0 cu) 21 0 (m 8 (H - 1))) 22 0 (m 14 T)) 23 0 (m 10 (H - 1))) 24 0 (m 0 5)) 0 6 (nI (if C + 1 ≤ 12 then C + 1 else 12))
  if cu = -9 then m2 else qw_u2 m2 3 cu.toNatClampNeg (m 3 cu.toNatClampNeg + nI 1)
theorem qe_conf_99 {m : wm} {H T C : Nat} {kd cu : Int32} (eH : 1 ≤ H) (hH : H ≤ 40) (eT : m 0 2 = nI T) (hT : T < 16) (eC : m 0 6 = nI C) (hC : C ≤ 12) (hcu : cu = -9 ∨ ∃ q : Nat, cu = nI q ∧ q < 200) :
    qf_X0_confess_99 (nI (H - 1)) cu kd (nI 0) (qx_sh m) = some (qx_cf m H T C kd cu) := by
  unfold qf_X0_confess_99
  simp (disch := omega) only [qn, qa_g, qa_cl, qw_u2_n, qw_u2_s, qx_sh_n, eT, eC, nI_add, qa_lt]
  have hm : (if 12 < C + 1 then nI 12 else nI (C + 1)) = nI (if C + 1 ≤ 12 then C + 1 else 12) := by
    by_cases h : C + 1 ≤ 12
    · rw [if_neg (by omega), if_pos h]
    · rw [if_pos (by omega), if_neg h]
  rw [hm]
  unfold qx_cf
  rcases hcu with h | ⟨q, h, hq⟩
  · subst h
    rw [if_pos (show (-9 : Int32) < 0 by decide), if_pos rfl]
  · subst h
    rw [if_neg (show ¬ nI q < 0 by rw [qa_l0 (by omega)]; exact fun h => h), if_neg (show ¬ nI q = -9 by rw [qa_n9 (by omega)]; exact fun h => h)]
    simp (disch := omega) only [qa_g, qa_cl]
theorem qe_conf {m : wm} {H T C : Nat} {kd : Nat} (eH : m 0 3 = nI H) (h1 : 1 ≤ H) (hH : H ≤ 40) (eT : m 0 2 = nI T) (hT : T < 16) (eC : m 0 6 = nI C) (hC : C ≤ 12) (hk : kd = 2 ∨ kd = 3) {cu : Int32} (hcu : cu = if kd = 2 then m 12 (H - 1) else m 13 T) (hq : cu = -9 ∨ ∃ q : Nat, cu = nI q ∧ q < 200) :
    qf_X0_confess (nI kd) m = some (qx_cf m H T C (if kd = 2 then nI 1 else nI 2) cu) := by
  have hsh : (fun x y => if 19 + 0 ≤ x ∧ x < 25 ∧ 1 ≤ y ∧ y < 12 then m x (y - 1) else m x y) = qx_sh m := rfl
  unfold qf_X0_confess
  simp (disch := omega) only [qn, eH, qa_sub, qa_eq]
  rcases hk with h | h
  · subst h
    rw [if_pos rfl] at hcu
    subst hcu
    rw [if_pos rfl, if_pos rfl]
    unfold qf_X0_confess_17 qf_X0_confess_44
    rw [if_neg (show ¬ nI 1 = 0 by decide)]
    simp (disch := omega) only [qn, qa_g, qa_cl]
    rw [qe_conf_49 6 qfu 0 m (by omega) (by omega) (by unfold qfu; omega), hsh]
    unfold qf_X0_confess_83
    rw [if_neg (show ¬ nI 1 = 0 by decide)]
    exact qe_conf_99 h1 hH eT hT eC hC hq
  · subst h
    rw [if_neg (by decide)] at hcu
    subst hcu
    rw [if_neg (by decide), if_neg (by decide)]
    unfold qf_X0_confess_17 qf_X0_confess_44
    rw [if_pos (show nI 0 = 0 from rfl)]
    simp (disch := omega) only [qn, qa_g, qa_cl, eT]
    rw [qe_conf_49 6 qfu 0 m (by omega) (by omega) (by unfold qfu; omega), hsh]
    unfold qf_X0_confess_83
    rw [if_pos (show nI 0 = 0 from rfl)]
    exact qe_conf_99 h1 hH eT hT eC hC hq
/-- what a return from the frame below H answers -/
def qx_oc (m : wm) (H T : Nat) : Nat := if m 14 T = m 10 (H - 1) then (if m 13 T = m 8 (H - 1) then 0 else 1) else if m 12 (H - 1) = -9 then 3 else 2
theorem qx_oc_lt (m : wm) (H T : Nat) : qx_oc m H T < 4 := by
  unfold qx_oc
  split
  · split <;> omega
  · split <;> omega
def qx_cu (m : wm) (H T : Nat) : Int32 := if qx_oc m H T = 2 then m 12 (H - 1) else m 13 T
/-- the memory ahead of the counts of a return -/
def qx_rm1 (m : wm) (H T C : Nat) : wm := if qx_oc m H T < 2 then m else qx_cf m H T C (if qx_oc m H T = 2 then nI 1 else nI 2) (qx_cu m H T)
def qx_rem (m : wm) (T Z H C : Nat) : wm :=
  qw_u2 (qw_u2 (qw_u2 (qx_rm1 m H T C) 2 (qx_oc m H T) (m 2 (qx_oc m H T) + nI 1)) 0 3 (nI (H - 1))) 0 2 (nI (qx_sb Z T))
theorem qx_cf_n {m : wm} {H T C : Nat} {kd cu : Int32} {x y : Nat} (h : x < 19) (h3 : x ≠ 3) (h0 : ¬ (x = 0 ∧ y = 6)) : qx_cf m H T C kd cu x y = m x y := by
  unfold qx_cf
  have e : ∀ a b : wm, (if cu = -9 then a else b) x y = if cu = -9 then a x y else b x y := fun a b => by split <;> rfl
  simp (disch := omega) only [e, qw_u2_n, qx_sh_n]
  split <;> rfl
theorem qx_rm1_n {m : wm} {H T C : Nat} {x y : Nat} (h : x < 19) (h3 : x ≠ 3) (h0 : ¬ (x = 0 ∧ y = 6)) : qx_rm1 m H T C x y = m x y := by
  unfold qx_rm1
  split
  · rfl
  · exact qx_cf_n h h3 h0
theorem qe_rem {m : wm} {T Z H C : Nat} (eZ : m 0 1 = nI Z) (hZ : 1 ≤ Z ∧ Z ≤ 16) (eT : m 0 2 = nI T) (hT : T < Z) (eH : m 0 3 = nI H) (h1 : 1 ≤ H) (hH : H ≤ 40) (eC : m 0 6 = nI C) (hC : C ≤ 12)
    (hby : m 12 (H - 1) = -9 ∨ ∃ q : Nat, m 12 (H - 1) = nI q ∧ q < 200) (hsl : m 13 T = -9 ∨ ∃ q : Nat, m 13 T = nI q ∧ q < 200) :
    qf_X0_removeFrame m = some (nI (qx_oc m H T), qx_rem m T Z H C) := by
  have hoc : qf_X0_outcomeOf (nI (H - 1)) (nI T) m = some (nI (qx_oc m H T)) := by
    rw [qe_out (by omega) (by omega)]
    unfold qx_oc
    congr 1
    split
    · split <;> rfl
    · split <;> rfl
  have h4 := qx_oc_lt m H T
  have hend : qf_X0_removeFrame_30 (nI (qx_oc m H T)) (qx_rm1 m H T C) = some (nI (qx_oc m H T), qx_rem m T Z H C) := by
    unfold qf_X0_removeFrame_30
    have hs : ∀ v w : Int32, qf_X0_slotBefore (nI T) (qw_u2 (qw_u2 (qx_rm1 m H T C) 2 (qx_oc m H T) v) 0 3 w) = some (nI (qx_sb Z T)) := fun v w => qe_sb (by rw [qw_u2_n _ _ (by omega), qw_u2_n _ _ (by omega), qx_rm1_n (by omega) (by omega) (by omega)]; exact eZ) hZ.1 (by omega) (by omega)
    simp (disch := omega) only [qn, qa_g, qa_cl, qw_u2_n, qw_u2_s, qx_rm1_n, eH, eT, qa_sub, hs, qa_s1]
    rfl
  unfold qf_X0_removeFrame
  simp (disch := omega) only [qn, eH, eT, qa_sub, hoc, qa_s1, qa_eq]
  by_cases h2 : qx_oc m H T < 2
  · rw [if_neg (by omega), if_neg (by omega)]
    have : qx_rm1 m H T C = m := by unfold qx_rm1; rw [if_pos h2]
    rw [this] at hend
    exact hend
  · have hcu : qx_cu m H T = -9 ∨ ∃ q : Nat, qx_cu m H T = nI q ∧ q < 200 := by
      unfold qx_cu
      split
      · exact hby
      · exact hsl
    have hc := qe_conf (kd := qx_oc m H T) (cu := qx_cu m H T) eH h1 hH eT (by omega) eC hC (by omega) rfl hcu
    have h25 : qf_X0_removeFrame_25 (nI (qx_oc m H T)) m = some (nI (qx_oc m H T), qx_rem m T Z H C) := by
      unfold qf_X0_removeFrame_25
      rw [hc, qa_s1]
      have : qx_rm1 m H T C = qx_cf m H T C (if qx_oc m H T = 2 then nI 1 else nI 2) (qx_cu m H T) := by unfold qx_rm1; rw [if_neg h2]
      rw [← this]
      exact hend
    by_cases h3 : qx_oc m H T = 2
    · rw [if_pos h3]
      exact h25
    · rw [if_neg h3, if_pos (by omega)]
      exact h25
/-- the slot before, by times -/
def qx_sbn (Z T : Nat) : Nat → Nat
  | 0 => T
  | n + 1 => qx_sb Z (qx_sbn Z T n)
theorem qx_sbn_lt {Z T : Nat} (h1 : 1 ≤ Z) (h : T < Z) : ∀ n, qx_sbn Z T n < Z
  | 0 => h
  | n + 1 => qx_sb_lt h1 (qx_sbn_lt h1 h n)
theorem qe_rms_20 {Z T N : Nat} (h1 : 1 ≤ Z) (hZ : Z ≤ 16) (hT : T < Z) (hN : N ≤ 40) : ∀ (d n i : Nat) (m : wm), m 0 1 = nI Z → i ≤ N → N - i = d → d < n → m 0 2 = nI (qx_sbn Z T i) →
    qf_X0_removeFrames_20 n (nI N) (nI i) m = some (m 0 3, qw_u2 m 0 2 (nI (qx_sbn Z T N))) := by
  intro d
  induction d with
  | zero =>
    intro n i m h2 hi hd hn ht
    obtain ⟨n, rfl⟩ : ∃ k, n = k + 1 := ⟨n - 1, by omega⟩
    have : i = N := by omega
    subst this
    rw [qf_X0_removeFrames_20]
    simp (disch := omega) only [qa_le, qn]
    rw [if_pos (by omega)]
    congr 2
    funext x y
    rw [qw_u2_at]
    split
    · rename_i h
      rw [h.1, h.2, ht]
    · rfl
  | succ d ih =>
    intro n i m h2 hi hd hn ht
    obtain ⟨n, rfl⟩ : ∃ k, n = k + 1 := ⟨n - 1, by omega⟩
    have hlt := qx_sbn_lt h1 hT i
    rw [qf_X0_removeFrames_20]
    have hs := qe_sb (T := qx_sbn Z T i) h2 h1 (by omega) (by omega)
    simp (disch := omega) only [qa_le, qn, ht, hs, qa_s1, nI_add]
    rw [if_neg (by omega), ih n (i + 1) _ (by rw [qw_u2_n _ _ (by omega)]; exact h2) (by omega) (by omega) (by omega) (by rw [qw_u2_s]; rfl), qw_u2_n _ _ (by omega)]
    congr 2
    funext x y
    simp only [qw_u2_at]
    split <;> rfl
def qx_rms (m : wm) (T Z H N : Nat) : wm := qw_u2 (qw_u2 m 0 3 (nI (H - N))) 0 2 (if m 0 0 = nI 1 then nI (qx_sbn Z T N) else nI T)
theorem qe_rms {m : wm} {T Z H N : Nat} (eZ : m 0 1 = nI Z) (hZ : 1 ≤ Z ∧ Z ≤ 16) (eT : m 0 2 = nI T) (hT : T < Z) (eH : m 0 3 = nI H) (hH : H ≤ 40) (hN : N ≤ H) :
    qf_X0_removeFrames (nI N) m = some (nI (H - N), qx_rms m T Z H N) := by
  unfold qf_X0_removeFrames
  simp (disch := omega) only [qn, eH, qa_sub, qw_u2_n, qw_u2_s]
  unfold qx_rms
  by_cases h : m 0 0 = nI 1
  · rw [if_pos h, if_pos h, qe_rms_20 hZ.1 hZ.2 hT (by omega) N qfu 0 _ (by rw [qw_u2_n _ _ (by omega)]; exact eZ) (by omega) (by omega) (by unfold qfu; omega) (by rw [qw_u2_n _ _ (by omega)]; exact eT), qw_u2_s]
  · rw [if_neg h, if_neg h]
    congr 2
    funext x y
    rw [qw_u2_at _ 0 2]
    split
    · rename_i h2
      rw [h2.1, h2.2, qw_u2_n _ _ (by omega), eT]
    · rfl
def qx_note (m : wm) (S k : Nat) (fn v : Int32) : wm :=
  qw_u2 (qw_u2 (qw_u2 (qw_u2 (qw_u2 m 16 S (nI k)) 17 S fn) 18 S v) 0 5 (nI (S + 1))) 1 k (m 1 k + nI 1)
theorem qe_note {m : wm} {S k : Nat} {fn v : Int32} (eS : m 0 5 = nI S) (hS : S < 200) (hk : k < 4) : qf_X0_remember (nI k) fn v m = some (qx_note m S k fn v) := by
  unfold qf_X0_remember
  simp (disch := omega) only [qn, eS, qa_g, qa_cl, qw_u2_n, qw_u2_s, nI_add]
  rfl
