def qx_msh (i : Nat) (t : wm) : wm := fun x y => if x = 1 ∧ i ≤ y ∧ y < 329 then t 1 (y + 6) else t x y
theorem qm_tells_17 {x1 x2 x3 : Int32} : ∀ (d n i : Nat) (t : wm), i ≤ 329 → 329 - i = d → d < n →
    qf_X3_tells_17 n x1 x2 x3 (nI i) t = qf_X3_tells_48 x1 x2 x3 (qx_msh i t) := by
  intro d
  induction d with
  | zero =>
    intro n i t hi hd hn
    obtain ⟨n, rfl⟩ : ∃ k, n = k + 1 := ⟨n - 1, by omega⟩
    rw [qf_X3_tells_17]
    simp (disch := omega) only [qa_le]
    rw [if_pos (by omega)]
    congr 1
    funext x y
    unfold qx_msh
    rw [if_neg (by omega)]
  | succ d ih =>
    intro n i t hi hd hn
    obtain ⟨n, rfl⟩ : ∃ k, n = k + 1 := ⟨n - 1, by omega⟩
    rw [qf_X3_tells_17]
    simp (disch := omega) only [qn, qa_le, nI_add, qa_g, qa_cl]
    rw [if_neg (by omega), ih n (i + 1) _ (by omega) (by omega) (by omega)]
    congr 1
    funext x y
    unfold qx_msh
    by_cases hx : x = 1
    · subst hx
      by_cases hy : y = i
      · subst hy
        rw [if_neg (by omega), if_pos (by omega), qw_u2_s]
      · by_cases hr : i ≤ y ∧ y < 329
        · rw [if_pos (by omega), if_pos (by omega), qw_u2_n _ _ (by omega)]
        · rw [if_neg (by omega), if_neg (by omega), qw_u2_n _ _ (by omega)]
    · rw [if_neg (fun q => hx q.1), if_neg (fun q => hx q.1), qw_u2_n _ _ (by omega)]
def qx_mtl (t u : wm) (D f T : Nat) (kd cu : Int32) : wm :=
  let t2 := qw_u2 (qw_u2 (qw_u2 (qw_u2 (qw_u2 (qw_u2 (qw_u2 u 1 (263 + 6 * D) kd) 1 (263 + 6 * D + 1) cu) 1 (263 + 6 * D + 2) (t 1 (15 + 5 * f + 0))) 1 (263 + 6 * D + 3) (t 1 (215 + 3 * T + 1))) 1 (263 + 6 * D + 4) (t 1 (15 + 5 * f + 2))) 1 (263 + 6 * D + 5) (t 1 1)) 1 10 (nI (D + 1))
  if cu = -9 then t2 else qw_u2 t2 1 (735 + cu.toNatClampNeg) (t 1 (735 + cu.toNatClampNeg) + nI 1)
theorem qm_tells_59 {t u : wm} {D f T : Nat} {kd cu : Int32} (eD : u 1 10 = nI D) (hD : D < 12) (hf : f < 40) (eT : t 1 12 = nI T) (hT : T < 16) (hcu : cu = -9 ∨ ∃ q : Nat, cu = nI q ∧ q < 200) (hu : ∀ y : Nat, y < 263 ∨ 335 ≤ y → y ≠ 10 → u 1 y = t 1 y) :
    qf_X3_tells_59 kd cu (nI f) u = some (qx_mtl t u D f T kd cu) := by
  unfold qf_X3_tells_59
  have e12 : u 1 12 = nI T := by rw [hu 12 (by omega) (by omega)]; exact eT
  simp (disch := omega) only [qn, eD, pk_mul, nI_add, qa_g, qa_cl, qw_u2_n, qw_u2_s, qm_ofF, qm_ofS, qa_s1, e12, hu]
  unfold qx_mtl
  rcases hcu with h | ⟨q, h, hq⟩
  · subst h
    rw [if_pos rfl, if_pos rfl]
  · subst h
    rw [if_neg (show ¬ nI q = -9 by rw [qa_n9 (by omega)]; exact fun h => h), if_neg (show ¬ nI q = -9 by rw [qa_n9 (by omega)]; exact fun h => h)]
    simp (disch := omega) only [nI_add, qa_g, qa_cl, qw_u2_n, hu]
def qx_mtell (t : wm) (C f T : Nat) (kd cu : Int32) : wm := if C = 12 then qx_mtl t (qw_u2 (qx_msh 263 t) 1 10 (nI 11)) 11 f T kd cu else qx_mtl t t C f T kd cu
theorem qn_e {α β : Type} {x : α} {k : α → Option β} : qn x k = k x := of_eq_true (eq_self (k x))
theorem qm_tells_48 {u : wm} {kd cu x3 : Int32} (e10 : u 1 10 = nI 12) : qf_X3_tells_48 kd cu x3 u = qf_X3_tells_59 kd cu x3 (qw_u2 u 1 10 (nI 11)) := by
  have e : nI 12 - nI 1 = nI 11 := pk_sub (by decide : 1 ≤ 12)
  rw [qf_X3_tells_48, qn_e, e10, qn_e, e, qn_e]
theorem qx_msh_n {t : wm} {x y : Nat} (h : y < 263 ∨ 329 ≤ y) : qx_msh 263 t x y = t x y := if_neg (fun q => by omega)
theorem qm_tells12 {t : wm} {f T : Nat} {kd cu : Int32} (eC : t 1 10 = nI 12) (hf : f < 40) (eT : t 1 12 = nI T) (hT : T < 16) (hcu : cu = -9 ∨ ∃ q : Nat, cu = nI q ∧ q < 200) :
    qf_X3_tells_17 qfu kd cu (nI f) (nI 263) t = some (qx_mtl t (qw_u2 (qx_msh 263 t) 1 10 (nI 11)) 11 f T kd cu) := by
  have hq : 66 < qfu := by unfold qfu; omega
  rw [qm_tells_17 66 qfu 263 t (by omega) (by omega) hq, qm_tells_48 (by rw [qx_msh_n (by omega)]; exact eC)]
  refine qm_tells_59 (by rw [qw_u2_s]) (by omega) hf eT hT hcu ?_
  intro y hy h10
  rw [qw_u2_n _ _ (by omega), qx_msh_n (by omega)]
theorem qm_tells {t : wm} {C f T : Nat} {kd cu : Int32} (eC : t 1 10 = nI C) (hC : C ≤ 12) (hf : f < 40) (eT : t 1 12 = nI T) (hT : T < 16) (hcu : cu = -9 ∨ ∃ q : Nat, cu = nI q ∧ q < 200) :
    qf_X3_tells kd cu (nI f) t = some (qx_mtell t C f T kd cu) := by
  unfold qf_X3_tells qx_mtell
  simp only [qn, eC]
  by_cases h : C = 12
  · rw [if_pos h, if_pos (by rw [h])]
    exact qm_tells12 (by rw [eC, h]) hf eT hT hcu
  · rw [if_neg h, if_neg (by rw [qa_eq (by omega) (by omega)]; exact h)]
    exact qm_tells_59 eC (by omega) hf eT hT hcu (fun y _ _ => rfl)
def qx_moc (t : wm) (H T : Nat) : Nat := if t 1 (215 + 3 * T + 1) = t 1 (15 + 5 * (H - 1) + 2) then (if t 1 (215 + 3 * T + 0) = t 1 (15 + 5 * (H - 1) + 0) then 0 else 1) else if t 1 (15 + 5 * (H - 1) + 4) = -9 then 3 else 2
def qx_mret1 (t : wm) (H T C : Nat) : wm :=
  if qx_moc t H T = 0 then qw_u2 (qw_u2 t 1 6 (t 1 6 + nI 1)) 1 7 (t 1 7 + nI 0)
  else if qx_moc t H T = 1 then qw_u2 (qw_u2 t 1 6 (t 1 6 + nI 1)) 1 7 (t 1 7 + nI 1)
  else if qx_moc t H T = 3 then qx_mtell (qw_u2 t 1 9 (t 1 9 + nI 1)) C (H - 1) T (nI 2) (t 1 (215 + 3 * T + 0))
  else qx_mtell (qw_u2 t 1 8 (t 1 8 + nI 1)) C (H - 1) T (nI 1) (t 1 (15 + 5 * (H - 1) + 4))
theorem qm_returns {t : wm} {H T C : Nat} (e0 : t 1 0 = nI H) (h1 : 1 ≤ H) (hH : H ≤ 40) (eT : t 1 12 = nI T) (hT : T < 16) (eC : t 1 10 = nI C) (hC : C ≤ 12)
    (hby : t 1 (15 + 5 * (H - 1) + 4) = -9 ∨ ∃ q : Nat, t 1 (15 + 5 * (H - 1) + 4) = nI q ∧ q < 200) (hsl : t 1 (215 + 3 * T + 0) = -9 ∨ ∃ q : Nat, t 1 (215 + 3 * T + 0) = nI q ∧ q < 200) :
    qf_X3_returns t = some (nI (qx_moc t H T), qx_mret1 t H T C) := by
  unfold qf_X3_returns
  simp (disch := omega) only [qn, e0, eT, qa_sub, qm_ofF, qm_ofS, qa_s1]
  unfold qx_mret1 qx_moc
  by_cases h2 : t 1 (215 + 3 * T + 1) = t 1 (15 + 5 * (H - 1) + 2)
  · rw [if_pos h2]
    simp only [h2, if_true]
    by_cases h3 : t 1 (215 + 3 * T + 0) = t 1 (15 + 5 * (H - 1) + 0)
    · rw [if_pos h3]
      simp only [h3, if_true]
      unfold qf_X3_returns_56 qf_X3_returns_85
      simp (disch := omega) only [qn, qw_u2_n, qa_g, qa_cl]
      rw [if_pos (show nI 0 = 0 from rfl), if_pos (show nI 0 = 0 from rfl)]
    · rw [if_neg h3]
      simp only [h3, if_false]
      unfold qf_X3_returns_56 qf_X3_returns_85
      simp (disch := omega) only [qn, qw_u2_n, qa_g, qa_cl]
      rw [if_neg (show ¬ nI 1 = 0 by decide), if_neg (show ¬ nI 1 = 0 by decide)]
      rfl
  · rw [if_neg h2]
    simp only [h2, if_false]
    by_cases h4 : t 1 (15 + 5 * (H - 1) + 4) = -9
    · rw [if_pos h4]
      simp only [h4, if_true]
      have e : qf_X3_tells (nI 2) (t 1 (215 + 3 * T + 0)) (nI (H - 1)) (qw_u2 t 1 9 (t 1 9 + nI 1)) = _ := qm_tells (C := C) (T := T) (by rw [qw_u2_n _ _ (by omega)]; exact eC) hC (by omega) (by rw [qw_u2_n _ _ (by omega)]; exact eT) hT hsl
      simp (disch := omega) only [qw_u2_n, eT, qm_ofS, qa_s1]
      rw [e, qa_s1, if_neg (show ¬ 3 = 0 by decide), if_neg (show ¬ 3 = 1 by decide)]
    · rw [if_neg h4]
      simp only [h4, if_false]
      have e : qf_X3_tells (nI 1) (t 1 (15 + 5 * (H - 1) + 4)) (nI (H - 1)) (qw_u2 t 1 8 (t 1 8 + nI 1)) = _ := qm_tells (C := C) (T := T) (by rw [qw_u2_n _ _ (by omega)]; exact eC) hC (by omega) (by rw [qw_u2_n _ _ (by omega)]; exact eT) hT hby
      simp (disch := omega) only [qw_u2_n, qm_ofF, qa_s1]
      rw [e, qa_s1, if_neg (show ¬ 2 = 0 by decide), if_neg (show ¬ 2 = 1 by decide), if_neg (show ¬ 2 = 3 by decide)]
