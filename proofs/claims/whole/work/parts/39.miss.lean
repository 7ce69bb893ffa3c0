/-- a return, without the reference -/
theorem qo_retK {m : wm} {T Z H S C N : Nat} (ok : qs_ok m T Z H S C N) (h1 : 1 ≤ H) (hS : S < 200) : ∃ C2 : Nat, qs_ok (qx_r m T Z H S C) (qx_sb Z T) Z (H - 1) (S + 1) C2 N := by
  have ok0 := ok
  obtain ⟨⟨b1, b2, b3, b4, b5, b6, b7⟩, ⟨e1, e2, e3, e5, e6, eN, er⟩, okF, okS, -⟩ := ok
  have hok1 : ∀ (o : Nat) (v : Int32), qs_ok (qw_u2 m 2 o v) T Z H S C N := fun o v => qs_ok_cg (fun x y h => by rw [qw_u2_n _ _ (by omega)]) ok0
  have hcu : qx_cu m H T = -9 ∨ ∃ q : Nat, qx_cu m H T = nI q ∧ q < N := by
    unfold qx_cu
    split
    · exact (okF (H - 1) (by omega)).2.1
    · exact okS T (by omega)
  have key : ∃ C2 : Nat, qs_ok (qw_u2 (qx_rm1 m H T C) 2 (qx_oc m H T) (m 2 (qx_oc m H T) + nI 1)) T Z H S C2 N := by
    unfold qx_rm1
    split
    · exact ⟨C, hok1 _ _⟩
    · rw [← qx_cf_cm]
      exact ⟨_, qs_ok_cf (hok1 _ _) rfl hcu⟩
  obtain ⟨C2, k⟩ := key
  exact ⟨C2, qo_popO k h1 hS (qx_sb_lt (by omega) b3)⟩
/-- the trial and the reference's pile and goals -/
def qv_T (u g : wm) (T Z H i : Nat) (x4 r : Int32) : Prop := (∃ C N : Nat, qs_ok u T Z H i C N) ∧ (∀ k : Nat, k < 16 → u 14 k = g 5 k) ∧ (∀ k : Nat, k < H → u 10 k = g 6 k) ∧ u 2 2 + u 2 3 = x4 ∧ u 0 0 = r
theorem qv_T_call {u g : wm} {T Z H i f a : Nat} {x4 r : Int32} (R : qv_T u g T Z H i x4 r) (hH : H < 40) (hi : i < 200) (hf : f ≤ 15) (ha : a ≤ 999) :
    ∃ (e : Int32) (u' : wm), qf_X0_take (nI 0) (nI f) (nI a) u = some (e, u') ∧ qv_T u' (qw_u2 (qw_u2 g 5 (qx_st Z T) (nI a)) 6 H (nI a)) (qx_st Z T) Z (H + 1) (i + 1) x4 r := by
  obtain ⟨⟨C, N, ok⟩, rP, rG, rM, rR⟩ := R
  have b : 2 ≤ Z ∧ Z ≤ 16 := ⟨ok.1.1, ok.1.2.1⟩
  have hlt := qx_st_lt (T := T) b.1
  refine ⟨_, _, qo_callT ok hH hi hf ha, ⟨C, N + 1, qo_callO ok hH hi hf ha⟩, ?_, ?_, ?_, ?_⟩
  · intro k hk
    by_cases e : k = qx_st Z T
    · subst e
      simp (disch := omega) only [qx_c, qx_note, qx_add, qw_u2_n, qw_u2_s]
    · simp (disch := omega) only [qx_c, qx_note, qx_add, qw_u2_n, qx_ov_n]
      exact rP k hk
  · intro k hk
    by_cases e : k = H
    · subst e
      simp (disch := omega) only [qx_c, qx_note, qx_add, qw_u2_n, qw_u2_s]
    · simp (disch := omega) only [qx_c, qx_note, qx_add, qw_u2_n, qx_ov_n]
      exact rG k (by omega)
  · simp (disch := omega) only [qx_c, qx_note, qx_add, qw_u2_n, qx_ov_n]
    exact rM
  · simp (disch := omega) only [qx_c, qx_note, qx_add, qw_u2_n, qx_ov_n]
    exact rR
theorem qv_T_tail {u g : wm} {T Z H i f : Nat} {x4 r : Int32} (R : qv_T u g T Z H i x4 r) (h1 : 1 ≤ H) (hi : i < 200) (hf : f ≤ 15) :
    ∃ (e : Int32) (u' : wm), qf_X0_take (nI 1) (nI f) (nI 0) u = some (e, u') ∧ qv_T u' g T Z H (i + 1) x4 r := by
  obtain ⟨⟨C, N, ok⟩, rP, rG, rM, rR⟩ := R
  refine ⟨_, _, qo_tailT ok h1 hi hf, ⟨C, N, qo_tailO ok h1 hi hf⟩, ?_, ?_, ?_, ?_⟩
  · intro k hk
    simp (disch := omega) only [qx_t, qx_note, qw_u2_n]
    exact rP k hk
  · intro k hk
    simp (disch := omega) only [qx_t, qx_note, qw_u2_n]
    exact rG k hk
  · simp (disch := omega) only [qx_t, qx_note, qw_u2_n]
    exact rM
  · simp (disch := omega) only [qx_t, qx_note, qw_u2_n]
    exact rR
theorem qv_T_throw {u g : wm} {T Z H i n : Nat} {x4 r : Int32} (R : qv_T u g T Z H i x4 r) (h1 : 1 ≤ n) (h2 : n ≤ H) (hi : i < 200) :
    ∃ (e : Int32) (u' : wm), qf_X0_take (nI 3) (nI 0) (nI n) u = some (e, u') ∧ qv_T u' g (if r = nI 1 then qx_sbn Z T n else T) Z (H - n) (i + 1) x4 r := by
  obtain ⟨⟨C, N, ok⟩, rP, rG, rM, rR⟩ := R
  have eT : qx_xT u T Z n = if r = nI 1 then qx_sbn Z T n else T := by
    unfold qx_xT
    rw [rR]
  refine ⟨_, _, qo_throwT ok h1 h2 hi, ⟨C, N, by rw [← eT]; exact qo_throwO ok h1 h2 hi⟩, ?_, ?_, ?_, ?_⟩
  · intro k hk
    simp (disch := omega) only [qx_x, qx_rms, qx_note, qw_u2_n]
    exact rP k hk
  · intro k hk
    simp (disch := omega) only [qx_x, qx_rms, qx_note, qw_u2_n]
    exact rG k (by omega)
  · simp (disch := omega) only [qx_x, qx_rms, qx_note, qw_u2_n]
    exact rM
  · simp (disch := omega) only [qx_x, qx_rms, qx_note, qw_u2_n]
    exact rR
theorem qv_T_ret {u g : wm} {T Z H i : Nat} {x4 r : Int32} (R : qv_T u g T Z H i x4 r) (h1 : 1 ≤ H) (hi : i < 200) :
    ∃ (e : Int32) (u' : wm), qf_X0_take (nI 2) (nI 0) (nI 0) u = some (e, u') ∧ qv_T u' g (qx_sb Z T) Z (H - 1) (i + 1) (if g 5 T = g 6 (H - 1) then x4 else x4 + nI 1) r := by
  obtain ⟨⟨C, N, ok⟩, rP, rG, rM, rR⟩ := R
  have b := ok.1
  obtain ⟨C2, k⟩ := qo_retK ok h1 hi
  have h4 := qx_oc_lt u H T
  refine ⟨_, _, qo_retT ok h1 hi, ⟨C2, N, k⟩, ?_, ?_, ?_, ?_⟩
  · intro k hk
    simp (disch := omega) only [qx_r, qx_pop, qx_note, qw_u2_n, qx_rm1_n]
    exact rP k hk
  · intro k hk
    simp (disch := omega) only [qx_r, qx_pop, qx_note, qw_u2_n, qx_rm1_n]
    exact rG k (by omega)
  · rw [← rP T (by omega), ← rG (H - 1) (by omega)]
    by_cases g1 : u 14 T = u 10 (H - 1)
    · have ho : qx_oc u H T < 2 := by
        unfold qx_oc
        rw [if_pos g1]
        split <;> omega
      rw [if_pos g1]
      simp (disch := omega) only [qx_r, qx_pop, qx_note, qw_u2_n, qx_rm1_n]
      exact rM
    · rw [if_neg g1]
      by_cases g2 : u 12 (H - 1) = -9
      · have ho : qx_oc u H T = 3 := by
          unfold qx_oc
          rw [if_neg g1, if_pos g2]
        simp (disch := omega) only [qx_r, qx_pop, qx_note, ho, qw_u2_n, qx_rm1_n, qw_u2_s]
        rw [← rM]
        exact (qa_aa _ _).symm
      · have ho : qx_oc u H T = 2 := by
          unfold qx_oc
          rw [if_neg g1, if_neg g2]
        simp (disch := omega) only [qx_r, qx_pop, qx_note, ho, qw_u2_n, qx_rm1_n, qw_u2_s]
        rw [← rM]
        exact (qa_ac _ _).symm
  · simp (disch := omega) only [qx_r, qx_pop, qx_note, qw_u2_n, qx_rm1_n]
    exact rR
