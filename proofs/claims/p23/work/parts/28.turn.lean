theorem qi_e0 {α : Type} {a : Nat} (h : a < 2147483648) (x y : α) : (if nI a = 0 then x else y) = if a = 0 then x else y := by
  by_cases g : a = 0
  · rw [if_pos g, if_pos (by rw [qa_e0 h]; exact g)]
  · rw [if_neg g, if_neg (by rw [qa_e0 h]; exact g)]
theorem qi_le {α : Type} {a b : Nat} (h : a < 2147483648) (h2 : b < 2147483648) (x y : α) : (if nI a ≤ nI b then x else y) = if a ≤ b then x else y := by
  by_cases g : a ≤ b
  · rw [if_pos g, if_pos (by rw [qa_le h h2]; exact g)]
  · rw [if_neg g, if_neg (by rw [qa_le h h2]; exact g)]
theorem qi_lt {α : Type} {a b : Nat} (h : a < 2147483648) (h2 : b < 2147483648) (x y : α) : (if nI a < nI b then x else y) = if a < b then x else y := by
  by_cases g : a < b
  · rw [if_pos g, if_pos (by rw [qa_lt h h2]; exact g)]
  · rw [if_neg g, if_neg (by rw [qa_lt h h2]; exact g)]
theorem qi_eq {α : Type} {a b : Nat} (h : a < 2147483648) (h2 : b < 2147483648) (x y : α) : (if nI a = nI b then x else y) = if a = b then x else y := by
  by_cases g : a = b
  · rw [if_pos g, if_pos (by rw [qa_eq h h2]; exact g)]
  · rw [if_neg g, if_neg (by rw [qa_eq h h2]; exact g)]
/-! a turn of the law: what it does to both sides -/
def qd_I (M : wM) (h : Nat → Nat) (b : Nat) : Prop := ∃ T Z H S C N K : Nat, qd_rel (M 0) (M 9) T Z H S C N K ∧ S ≤ b ∧ qd_J M h
def qd_P (A : Option (Int32 × wM × (Nat → Nat))) (b : Nat) : Prop := ∃ (M' : wM) (h' : Nat → Nat), A = some (nI 1, M', h') ∧ qd_I M' h' b
theorem qd_mk {M' : wM} {h' : Nat → Nat} {m' t' : wm} {T Z H S C N K b : Nat} (e : M' 0 = m') (J : qd_J M' h') (R : qd_rel m' t' T Z H S C N K) (hb : S ≤ b) : qd_I (qw_u1 M' 9 t') h' b := by
  refine ⟨T, Z, H, S, C, N, K, ?_, hb, qd_J_cg (qw_u1_n _ _ (by decide)) J⟩
  rw [qw_u1_s, qw_u1_n _ _ (by decide), e]
  exact R
theorem qd_same {M M' : wM} {h' : Nat → Nat} {T Z H S C N K b : Nat} (e : M' 0 = M 0) (e9 : M' 9 = M 9) (J : qd_J M' h') (R : qd_rel (M 0) (M 9) T Z H S C N K) (hb : S ≤ b) : qd_I M' h' b := by
  refine ⟨T, Z, H, S, C, N, K, ?_, hb, J⟩
  rw [e, e9]
  exact R
theorem ql_acts_58 {M : wM} {h : Nat → Nat} {T Z H S C N K v a : Nat} (R : qd_rel (M 0) (M 9) T Z H S C N K) (J : qd_J M h) (hS : S < 60) (hv : v < 10000000) (ha : a ≤ 999) : qd_P (qf_L_acts_58 (nI v) (nI a) M h) (S + 1) := by
  obtain ⟨t0, -⟩ := qd_Gb R.1 R.2.2.1
  have hH : H ≤ 40 := R.1.1.2.2.2.1
  unfold qf_L_acts_58
  simp (disch := omega) only [qn_e, t0, qa_eq, qa_rem]
  by_cases g : H = 40
  · subst g
    obtain ⟨M', h', c1, c2, c3, c4⟩ := qd_callF (f := v % 16) (a := a) J R.1 hS (by omega) ha
    refine ⟨M', h', ?_, qd_same c2 c3 c4 R (by omega)⟩
    rw [if_pos rfl, c1, qa_t3, if_pos rfl]
  · obtain ⟨M', h', c1, c2, c3, c4⟩ := qd_call (f := v % 16) (a := a) J R.1 (by omega) hS (by omega) ha
    obtain ⟨t', k1, k2⟩ := ql_called (f := v % 16) (a := a) R (by omega) hS (by omega) ha
    refine ⟨qw_u1 M' 9 t', h', ?_, qd_mk c2 c4 k2 (Nat.le_refl _)⟩
    rw [if_neg g, c1, qa_t3, c3, k1, qa_t2, if_pos rfl]
theorem ql_acts_34 {M : wM} {h : Nat → Nat} {T Z H S C N K v : Nat} (R : qd_rel (M 0) (M 9) T Z H S C N K) (J : qd_J M h) (hS : S < 60) (hv : v < 10000000) : qd_P (qf_L_acts_34 (nI v) M h) (S + 1) := by
  unfold qf_L_acts_34
  rw [qn_e, qa_rem (by omega) (by omega) (by omega), qi_e0 (by omega)]
  by_cases g : v % 4 = 0
  · rw [if_pos g, qn_e, pk_div (by omega) (by omega) (by omega), qn_e, qa_rem (by omega) (by omega) (by omega)]
    exact ql_acts_58 R J hS hv (by omega)
  · rw [if_neg g, qn_e, pk_div (by omega) (by omega) (by omega), qn_e, qa_rem (by omega) (by omega) (by omega)]
    exact ql_acts_58 R J hS hv (by omega)
theorem ql_acts_355 {nn Z T : Nat} {h : Nat → Nat} (hn4 : nn ≤ 4) (hZ : 2 ≤ Z ∧ Z ≤ 16) (hT : T < Z) : ∀ (d n i : Nat) (M : wM), M 9 1 14 = nI 1 → M 9 1 11 = nI Z → M 9 1 12 = nI (qx_sbn Z T i) → i ≤ nn → nn - i = d → d < n →
    ∃ u : wm, qf_L_acts_355 n (nI nn) (nI i) M h = qf_L_acts_402 (nI nn) (qw_u1 M 9 u) h ∧ u 1 12 = nI (qx_sbn Z T nn) ∧ (∀ y : Nat, y ≠ 12 → u 1 y = M 9 1 y) ∧ ∀ c : Nat, c ≠ 1 → u c = M 9 c := by
  intro d
  induction d with
  | zero =>
    intro n i M e14 e11 e12 hi hd hn
    obtain ⟨n, rfl⟩ : ∃ k, n = k + 1 := ⟨n - 1, by omega⟩
    have : i = nn := by omega
    subst this
    refine ⟨M 9, ?_, e12, fun y _ => rfl, fun c _ => rfl⟩
    rw [qf_L_acts_355]
    rw [if_pos (by rw [qa_le (by omega) (by omega)]; omega), qw_u1i]
  | succ d ih =>
    intro n i M e14 e11 e12 hi hd hn
    obtain ⟨n, rfl⟩ : ∃ k, n = k + 1 := ⟨n - 1, by omega⟩
    have hlt := qx_sbn_lt (by omega) hT i
    obtain ⟨u, k1, k2, k3, k4⟩ := ih n (i + 1) (qw_u1 M 9 (qw_u2 (M 9) 1 12 (nI (qx_sbn Z T (i + 1))))) (by rw [qw_u1_s, qw_u2_n _ _ (by omega), e14]) (by rw [qw_u1_s, qw_u2_n _ _ (by omega), e11]) (by rw [qw_u1_s, qw_u2_s]) (by omega) (by omega) (by omega)
    refine ⟨u, ?_, k2, fun y hy => by rw [k3 y hy, qw_u1_s, qw_u2_n _ _ (by omega)], fun c hc => by rw [k4 c hc, qw_u1_s, qw_u2_c _ _ hc]⟩
    rw [qw_u1_u] at k1
    rw [← k1, qf_L_acts_355]
    rw [if_neg (by rw [qa_le (by omega) (by omega)]; omega), qn_e, e14, if_pos rfl, qn_e, e12, qi_e0 (by omega)]
    show _ = qf_L_acts_355 n (nI nn) (nI (i + 1)) (qw_u1 M 9 (qw_u2 (M 9) 1 12 (nI (qx_sb Z (qx_sbn Z T i))))) h
    unfold qx_sb
    by_cases g : qx_sbn Z T i = 0
    · rw [if_pos g, if_pos g, qn_e, e11, qn_e, qa_sub (by omega), qn_e, qn_e, nI_add]
    · rw [if_neg g, if_neg g, qn_e, qn_e, qa_sub (by omega), qn_e, qn_e, nI_add]
theorem ql_acts_402 {M : wM} {h : Nat → Nat} {u : wm} {T Z H S C N K n : Nat} (R : qd_rel (M 0) (M 9) T Z H S C N K) (J : qd_J M h) (hS : S < 60) (h1 : 1 ≤ n) (h2 : n ≤ H) (u0 : u 1 0 = nI (H - n)) (u12 : u 1 12 = nI (qx_xT (M 0) T Z n)) (u1 : ∀ y : Nat, y ≠ 0 → y ≠ 12 → u 1 y = M 9 1 y) (uc : ∀ c : Nat, c ≠ 1 → u c = M 9 c) :
    qd_P (qf_L_acts_402 (nI n) (qw_u1 M 9 u) h) (S + 1) := by
  obtain ⟨t0, t1, -⟩ := qd_Gb R.1 R.2.2.1
  have RR := ql_throw (u := u) R h1 h2 hS u0 u12 u1 uc
  have J1 : qd_J (qw_u1 M 9 (ql_x u S n)) h := qd_J_cg (qw_u1_n _ _ (by decide)) J
  have ok1 : qs_ok ((qw_u1 M 9 (ql_x u S n)) 0) T Z H S C N := by rw [qw_u1_n _ _ (by decide)]; exact R.1
  obtain ⟨M', h', c1, c2, c3, c4⟩ := qd_raise J1 ok1 h1 h2 hS
  rw [qw_u1_s] at c3
  rw [qw_u1_n _ _ (by decide)] at c2
  refine ⟨M', h', ?_, qx_xT (M 0) T Z n, Z, H - n, S + 1, C, N, K, ?_, Nat.le_refl _, c4⟩
  · unfold qf_L_acts_402
    rw [qw_u1_s, ql_steps (S := S) (by rw [u1 1 (by decide) (by decide), t1]) (by omega) (by decide), qa_t1, qn_e, qw_u1_u, show ql_st u S 3 (nI n) = ql_x u S n from rfl, c1, qa_t3, qn_e, c3, if_pos]
    rw [ql_x, ql_st_n (by decide) (by omega), u0]
  · rw [c2, c3]
    exact RR
theorem ql_acts_x {M : wM} {h : Nat → Nat} {T Z H S C N K n : Nat} (R : qd_rel (M 0) (M 9) T Z H S C N K) (J : qd_J M h) (hS : S < 60) (h1 : 1 ≤ n) (h4 : n ≤ 4) (h2 : n ≤ H) : qd_P (qf_L_acts_355 qfu (nI n) (nI 0) (qw_u1 M 9 (qw_u2 (M 9) 1 0 (nI (H - n)))) h) (S + 1) := by
  obtain ⟨t0, t1, t2, t10, t11, t12⟩ := qd_Gb R.1 R.2.2.1
  have e14 : M 9 1 14 = M 0 0 0 := R.2.2.1.2.2.2.2.2.2.2.2.2.2.2.2.2.2
  have hb := R.1.1
  by_cases g : M 0 0 0 = nI 1
  · obtain ⟨u, k1, k2, k3, k4⟩ := ql_acts_355 (nn := n) (Z := Z) (T := T) (h := h) h4 ⟨hb.1, hb.2.1⟩ hb.2.2.1 n qfu 0 (qw_u1 M 9 (qw_u2 (M 9) 1 0 (nI (H - n)))) (by rw [qw_u1_s, qw_u2_n _ _ (by omega), e14, g]) (by rw [qw_u1_s, qw_u2_n _ _ (by omega), t11]) (by rw [qw_u1_s, qw_u2_n _ _ (by omega), t12]; rfl) (by omega) (by omega) (by unfold qfu; omega)
    rw [k1, qw_u1_u]
    refine ql_acts_402 R J hS h1 h2 ?_ ?_ ?_ ?_
    · rw [k3 0 (by decide), qw_u1_s, qw_u2_s]
    · rw [k2]
      unfold qx_xT
      rw [if_pos g]
    · intro y hy hy2
      rw [k3 y hy2, qw_u1_s, qw_u2_n _ _ (by omega)]
    · intro c hc
      rw [k4 c hc, qw_u1_s, qw_u2_c _ _ hc]
  · have e : qf_L_acts_355 qfu (nI n) (nI 0) (qw_u1 M 9 (qw_u2 (M 9) 1 0 (nI (H - n)))) h = qf_L_acts_402 (nI n) (qw_u1 M 9 (qw_u2 (M 9) 1 0 (nI (H - n)))) h := by
      rw [show qfu = 5999 + 1 from rfl, qf_L_acts_355]
      rw [if_neg (by rw [qa_le (by omega) (by omega)]; omega), qn_e, qw_u1_s, qw_u2_n _ _ (by omega), e14, if_neg g]
    rw [e]
    refine ql_acts_402 R J hS h1 h2 ?_ ?_ ?_ ?_
    · rw [qw_u2_s]
    · rw [qw_u2_n _ _ (by omega), t12]
      unfold qx_xT
      rw [if_neg g]
    · intro y hy hy2
      rw [qw_u2_n _ _ (by omega)]
    · intro c hc
      rw [qw_u2_c _ _ hc]
set_option maxHeartbeats 1000000 in
theorem ql_acts {M : wM} {h : Nat → Nat} {b : Nat} (I : qd_I M h b) (hb : b < 60) (z : Int32) : qd_P (qf_L_acts z M h) (b + 1) := by
  obtain ⟨T, Z, H, S, C, N, K, R, hSb, J⟩ := I
  have up : ∀ A : Option (Int32 × wM × (Nat → Nat)), qd_P A (S + 1) → qd_P A (b + 1) := by
    rintro A ⟨M', h', e, T', Z', H', S', C', N', K', R', hS', J'⟩
    exact ⟨M', h', e, T', Z', H', S', C', N', K', R', by omega, J'⟩
  apply up
  have hS : S < 60 := by omega
  obtain ⟨t0, t1, t2, t10, t11, t12⟩ := qd_Gb R.1 R.2.2.1
  have e14 : M 9 1 14 = M 0 0 0 := R.2.2.1.2.2.2.2.2.2.2.2.2.2.2.2.2.2
  have e11 : M 9 1 11 = M 0 0 1 := R.2.2.1.2.2.2.2.2.2.2.2.2.2.2.1
  have er := R.1.2.1.2.2.2.2.2.2
  have hH : H ≤ 40 := R.1.1.2.2.2.1
  obtain ⟨v, hv, ev⟩ := qd_low (z >>> ((nI 5) &&& 31)) (y := (10000000 : Int32)) (n := 10000000) rfl (by decide) (by decide)
  obtain ⟨w, hw, ew⟩ := qd_low z (y := nI 26) (n := 26) rfl (by decide) (by decide)
  unfold qf_L_acts
  rw [qn_e, ev, qa_t1, ew, qa_t1]
  by_cases w11 : w < 11
  · rw [if_pos (by rw [qa_lt (by omega) (by omega)]; exact w11)]
    exact ql_acts_34 R J hS hv
  rw [if_neg (by rw [qa_lt (by omega) (by omega)]; exact w11)]
  by_cases w22 : w ≤ 22
  · rw [if_pos (by rw [qa_le (by omega) (by omega)]; exact w22)]
    by_cases w13 : 13 ≤ w
    · rw [if_pos (by rw [qa_le (by omega) (by omega)]; exact w13)]
      by_cases w19 : 19 ≤ w
      · rw [if_pos (by rw [qa_le (by omega) (by omega)]; exact w19)]
        by_cases w21 : 21 ≤ w
        · rw [if_pos (by rw [qa_le (by omega) (by omega)]; exact w21)]
          by_cases ww : w = 21
          · -- setRepair
            rw [if_pos (congrArg nI ww), qn_e, e14, qn_e, qa_rem (by omega) (by omega) (by omega), qn_e, qn_e]
            have J1 : qd_J (qw_u1 M 9 (qw_u2 (M 9) 1 14 (nI (v % 2)))) h := qd_J_cg (qw_u1_n _ _ (by decide)) J
            obtain ⟨M', h', c1, c2, c3, c4⟩ := qd_rep (r := v % 2) J1 (by omega)
            rw [qw_u1_n _ _ (by decide)] at c1 c2
            rw [qw_u1_s] at c3
            rw [c1, qa_t3, if_pos rfl]
            refine ⟨M', h', rfl, T, Z, H, S, C, N, K, ?_, by omega, c4⟩
            rw [c2, c3]
            exact ql_rep R (by omega)
          · rw [if_neg (by rw [qa_eq (by omega) (by omega)]; exact ww), qn_e, qa_rem (by omega) (by omega) (by omega)]
            by_cases g : v % 6 = 0
            · -- begin
              rw [if_pos (by rw [qa_e00 (by omega)]; exact g), qn_e, e11, qn_e, pk_div (by omega) (by omega) (by omega), qn_e, qa_rem (by omega) (by omega) (by omega), qn_e, nI_add, ql_fresh (by omega) (by omega), qa_t1, qn_e, qn_e, qw_u1_s, ql_fr_1, if_neg (by decide), if_pos rfl]
              have J1 : qd_J (qw_u1 M 9 (ql_fr (2 + v / 6 % 15) (M 9))) h := qd_J_cg (qw_u1_n _ _ (by decide)) J
              obtain ⟨M', h', c1, c2, c3, c4⟩ := qd_begin (Z := 2 + v / 6 % 15) J1 (by omega) (by omega)
              rw [qw_u1_n _ _ (by decide)] at c1 c2
              rw [qw_u1_s] at c3
              rw [c1, qa_t3, if_pos rfl]
              refine ⟨M', h', rfl, 2 + v / 6 % 15 - 1, 2 + v / 6 % 15, 0, 0, 0, 0, 0, ?_, by omega, c4⟩
              rw [c2, c3]
              exact ql_begin (by omega) (by omega) e14 er
            · -- refused calls
              rw [if_neg (by rw [qa_e00 (by omega)]; exact g), qd_beginB (Or.inl rfl), qa_t3, if_pos rfl, qd_beginB (Or.inr rfl), qa_t3, if_pos rfl, qd_repB, qa_t3, if_pos rfl]
              obtain ⟨M1, h1, a1, a2, a3, a4⟩ := qd_callB (f := 16) (a := 0) J (Or.inl ⟨rfl, rfl⟩)
              rw [a1, qa_t3, if_pos rfl]
              obtain ⟨M2, h2, b1, b2, b3, b4⟩ := qd_callB (f := 0) (a := 1000) a4 (Or.inr ⟨rfl, rfl⟩)
              rw [b1, qa_t3, if_pos rfl]
              obtain ⟨M3, h3, c1, c2, c3, c4⟩ := qd_tailB b4
              rw [c1, qa_t3, if_pos rfl]
              exact ⟨M3, h3, rfl, qd_same (c2.trans (b2.trans a2)) (c3.trans (b3.trans a3)) c4 R (by omega)⟩
        · -- raise
          rw [if_neg (by rw [qa_le (by omega) (by omega)]; exact w21), qn_e, qa_rem (by omega) (by omega) (by omega), qn_e, nI_add, qn_e, t0, qi_le (by omega) (by omega)]
          by_cases g : 1 + v % 4 ≤ H
          · rw [if_pos g, qn_e, qn_e, qa_sub g, qn_e]
            exact ql_acts_x R J hS (by omega) (by omega) g
          · rw [if_neg g]
            obtain ⟨M1, h1, a1, a2, a3, a4⟩ := qd_raiseF (n := 1 + v % 4) J R.1 (by omega) (by omega) (by omega)
            rw [a1, qa_t3, if_pos rfl]
            obtain ⟨M2, h2, b1, b2, b3, b4⟩ := qd_raiseB (n := 41) a4 (Or.inr rfl)
            rw [b1, qa_t3, if_pos rfl]
            obtain ⟨M3, h3, c1, c2, c3, c4⟩ := qd_raiseB (n := 0) b4 (Or.inl rfl)
            rw [c1, qa_t3, if_pos rfl]
            exact ⟨M3, h3, rfl, qd_same (c2.trans (b2.trans a2)) (c3.trans (b3.trans a3)) c4 R (by omega)⟩
      · -- ret
        rw [if_neg (by rw [qa_le (by omega) (by omega)]; exact w19), qn_e, t0, qi_e0 (by omega)]
        by_cases g : H = 0
        · subst g
          rw [if_pos rfl]
          obtain ⟨M1, h1, a1, a2, a3, a4⟩ := qd_retF J R.1 hS
          rw [a1, qa_t3, if_pos rfl]
          exact ⟨M1, h1, rfl, qd_same a2 a3 a4 R (by omega)⟩
        · rw [if_neg g]
          obtain ⟨M', h', c1, c2, c3, c4⟩ := qd_ret J R.1 (by omega) hS
          obtain ⟨t', C2, K2, k1, k2⟩ := ql_ret R (by omega) hS
          rw [c1, qa_t3, c3, k1, qa_t2, qn_e, if_pos rfl]
          exact ⟨qw_u1 M' 9 t', h', rfl, qd_mk c2 c4 k2 (Nat.le_refl _)⟩
    · -- tail
      rw [if_neg (by rw [qa_le (by omega) (by omega)]; exact w13), qn_e, t0, qi_e0 (by omega)]
      by_cases g : H = 0
      · subst g
        rw [if_pos rfl, qn_e, qa_rem (by omega) (by omega) (by omega)]
        obtain ⟨M1, h1, a1, a2, a3, a4⟩ := qd_tailF (f := v % 16) J R.1 hS (by omega)
        rw [a1, qa_t3, if_pos rfl]
        exact ⟨M1, h1, rfl, qd_same a2 a3 a4 R (by omega)⟩
      · obtain ⟨a, bb, c, d, e, hbb, hlt, epk, e9, ejl, RR⟩ := ql_tail (f := v % 16) R (by omega) hS (by omega)
        rw [if_neg g, qn_e, qn_e, qa_sub (by omega), qa_g (by omega) (by decide), qn_e, qa_cl (by omega), ejl, qn_e, qd_shr (by decide) hlt, qn_e, qd_m15 (qd_dlt 8 hlt), epk, qn_e, lN_i, qa_g (by omega) (by decide), qn_e, qn_e, qa_rem (by omega) (by omega) (by omega), qn_e, qn_e, qn_e, qn_e, qd_tail hbb (by omega), qa_g (by omega) (by decide), qn_e, qn_e, qw_u1_s, ql_steps (S := S) (by rw [qw_uc_n _ _ (by decide), t1]) (by omega) (by decide), qa_t1, qn_e, qn_e, qw_u1_u]
        have et : ql_st (qw_uc (M 9) 2 (qj_s (M 9 2) (H - 1) (lN (qd_pk a (v % 16) c d e)))) S 1 (nI (v % 16)) = ql_t (M 9) H S (v % 16) (lN (qd_pk a (v % 16) c d e)) := rfl
        rw [et]
        have J1 : qd_J (qw_u1 M 9 (ql_t (M 9) H S (v % 16) (lN (qd_pk a (v % 16) c d e)))) h := qd_J_cg (qw_u1_n _ _ (by decide)) J
        have ok1 : qs_ok ((qw_u1 M 9 (ql_t (M 9) H S (v % 16) (lN (qd_pk a (v % 16) c d e)))) 0) T Z H S C N := by rw [qw_u1_n _ _ (by decide)]; exact R.1
        obtain ⟨M', h', c1, c2, c3, c4⟩ := qd_tail1 (f := v % 16) (b := bb) J1 ok1 (by omega) hS (by omega) hbb (by rw [qw_u1_n _ _ (by decide)]; exact e9)
        rw [qw_u1_n _ _ (by decide)] at c2
        rw [qw_u1_s] at c3
        rw [c1, qa_t3, if_pos rfl]
        refine ⟨M', h', rfl, T, Z, H, S + 1, C, N, K, ?_, Nat.le_refl _, c4⟩
        rw [c2, c3]
        exact RR
  · rw [if_neg (by rw [qa_le (by omega) (by omega)]; exact w22)]
    exact ql_acts_34 R J hS hv
