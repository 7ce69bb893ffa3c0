theorem qx_cf_o {m : wm} {H T C : Nat} {kd : Int32} {u : Nat} (hu : u < 200) (hu9 : u = 0 ∨ 9 ≤ u) {x y : Nat} (h : x ≠ 3) : qx_cf m H T C kd (nI u - nI 9) x y = qx_cf2 m H T C kd (nI u - nI 9) x y := by
  rcases qd_n9 (show u < 1000000 by omega) hu9 with ⟨h0, h9⟩ | ⟨h0, h9⟩
  · rw [h9, qx_cf9]
  · rw [h9, qx_cfq _ _ _ _ _ (by omega), qw_u2_n _ _ (by omega)]
theorem qx_cf_3 {m : wm} {H T C : Nat} {kd : Int32} {u : Nat} (hu : u < 200) (hu9 : u = 0 ∨ 9 ≤ u) {y : Nat} : qx_cf m H T C kd (nI u - nI 9) 3 y = if 9 ≤ u ∧ y = u - 9 then m 3 y + nI 1 else m 3 y := by
  rcases qd_n9 (show u < 1000000 by omega) hu9 with ⟨h0, h9⟩ | ⟨h0, h9⟩
  · rw [h9, qx_cf9, if_neg (by omega)]
    simp (disch := omega) only [qx_cf2, qw_u2_n, qx_sh_n]
  · rw [h9, qx_cfq _ _ _ _ _ (by omega), qw_u2_at]
    by_cases g : y = u - 9
    · rw [if_pos ⟨rfl, g⟩, if_pos ⟨h0, g⟩, g]
    · rw [if_neg (fun q => g q.2), if_neg (fun q => g q.2)]
      simp (disch := omega) only [qx_cf2, qw_u2_n, qx_sh_n]
set_option maxHeartbeats 1000000 in
theorem ql_ret {m t : wm} {T Z H S C N K : Nat} (R : qd_rel m t T Z H S C N K) (h1 : 1 ≤ H) (hS : S < 60) :
    ∃ (t' : wm) (C2 K2 : Nat), qf_L_returned t = some (nI (qx_oc m H T), t') ∧ qd_rel (qx_r m T Z H S C) t' (qx_sb Z T) Z (H - 1) (S + 1) C2 N K2 := by
  obtain ⟨ok, hK, G, F, Sl, Cf, Nm⟩ := id R
  obtain ⟨t0, t1, t2, t10, t11, t12⟩ := qd_Gb ok G
  obtain ⟨⟨b1, b2, b3, b4, b5, b6, b7⟩, ⟨e1, e2, e3, e5, e6, eN, er⟩, okF, okS, okN, okV⟩ := id ok
  obtain ⟨a, b, c, d, e, ⟨ha, hb, hc, hd, he, he9⟩, f1, f2, f3, f4, f5, f6⟩ := F (H - 1) (by omega)
  obtain ⟨s1, s2, s3, g, hg, s5⟩ := Sl T (by omega)
  obtain ⟨u, hu9, hu, s6⟩ := qd_9n (okS T (by omega))
  have hlt := qd_pk_lt ha hb hc hd he
  have h4 := qx_oc_lt m H T
  have heN : e < N + 9 := by
    rcases (okF (H - 1) (by omega)).2.1 with q | ⟨q, q1, q2⟩
    · rw [f5] at q
      rcases qd_n9 (show e < 1000000 by omega) he9 with ⟨w, -⟩ | ⟨w, w2⟩
      · omega
      · rw [w2, qa_n9 (by omega)] at q
        exact q.elim
    · rw [f5] at q1
      rcases qd_n9 (show e < 1000000 by omega) he9 with ⟨w, -⟩ | ⟨w, w2⟩
      · omega
      · rw [w2, qa_eq (by omega) (by omega)] at q1
        omega
  -- the law's walk to its outcome
  have h87 : qf_L_returned t = qf_L_returned_87 (lN (qd_pk a b c d e)) (nI u - nI 9) (nI g - nI 9) (nI c) (nI a) (nI (qx_oc m H T)) t := by
    unfold qf_L_returned
    simp (disch := omega) only [qn_e, t0, t12, qa_sub, pk_mul, nI_add, qa_g, qa_cl, f6, qd_shr, s1, s2, s5, s6, lN_i]
    rw [qd_m1023 (qd_dlt 12 hlt), qd_m255 hlt, lN_i, lN_i, qd_pk_c ha hb hc, qd_pk_a ha]
    unfold qx_oc
    rw [s5, s6, f1, f3, f5]
    by_cases k1 : nI g - nI 9 = nI c
    · rw [if_pos k1, if_pos k1]
      by_cases k2 : nI u - nI 9 = nI a
      · rw [if_pos k2, if_pos k2]
      · rw [if_neg k2, if_neg k2]
    · rw [if_neg k1, if_neg k1, qd_by hlt, qd_pk_e ha hb hc hd, qa_t1]
      rcases qd_n9 (show e < 1000000 by omega) he9 with ⟨w, w2⟩ | ⟨w, w2⟩
      · rw [if_pos (by rw [qd_lt9 (by omega) he9]; exact w), if_pos w2]
      · rw [if_neg (by rw [qd_lt9 (by omega) he9]; omega), if_neg (by rw [w2, qa_n9 (by omega)]; exact fun q => q)]
  have key : ∀ y : Nat, y ≠ 6 → y ≠ 7 → y ≠ 8 → y ≠ 9 → ql_k t (qx_oc m H T) 1 y = t 1 y := fun y q6 q7 q8 q9 => by
    simp (disch := omega) only [ql_k, qw_u2_n]
  have kc : ∀ c : Nat, c ≠ 1 → ql_k t (qx_oc m H T) c = t c := fun c hc => by
    unfold ql_k
    rw [qw_u2_c _ _ hc, qw_u2_c _ _ hc, qw_u2_c _ _ hc, qw_u2_c _ _ hc]
  obtain ⟨w, r0, r1, r2, r3, p, p0, p1, p2, p3, pr, ps, pa, pb⟩ := Nm
  by_cases ho : qx_oc m H T < 2
  · refine ⟨ql_p (ql_k t (qx_oc m H T)) H (qx_sb Z T) S, C, K, ?_, ?_⟩
    · rw [h87, ql_ret_87 h4, if_pos ho]
      exact ql_ret_262 (by rw [key 0 (by decide) (by decide) (by decide) (by decide), t0]) h1 b4 (by rw [key 12 (by decide) (by decide) (by decide) (by decide), t12]) (by omega) (by rw [key 11 (by decide) (by decide) (by decide) (by decide), t11]) ⟨by omega, b2⟩ (by rw [key 1 (by decide) (by decide) (by decide) (by decide), t1]) (by omega)
    · have hm : qx_rm1 m H T C = m := by unfold qx_rm1; rw [if_pos ho]
      unfold qx_r
      rw [hm]
      refine ql_retR (mm := m) (tt := ql_k t (qx_oc m H T)) R h1 hS h4 (qs_ok_cg (fun x y hx => qw_u2_n _ _ (by omega)) ok) (fun x y _ _ _ => rfl) (fun y _ => rfl) (by rw [key 10 (by decide) (by decide) (by decide) (by decide), t10]) (by omega) (kc 2 (by decide)) (fun y => by rw [kc 3 (by decide)]) ?_ ?_
      · exact qd_C_cg (m := m) (t := t) (fun x y _ _ => rfl) (kc 5 (by decide)) Cf
      · rcases (show qx_oc m H T = 0 ∨ qx_oc m H T = 1 by omega) with q | q
        · rw [q] at kc ⊢
          refine ⟨w, r0 + 1, r1, r2, r3, fun k hk => ?_, ?_, ?_, ?_, ?_, ?_, by omega, pa, pb⟩
          · rw [kc 6 (by decide), qw_u2_n _ _ (by omega), qw_u2_n _ _ (by omega)]
            exact p k hk
          · rw [qw_u2_n _ _ (by omega), qw_u2_s, p0, nI_add]
          · rw [qw_u2_n _ _ (by omega), qw_u2_n _ _ (by omega), p1]
          · rw [qw_u2_n _ _ (by omega), qw_u2_n _ _ (by omega), p2]
          · rw [qw_u2_n _ _ (by omega), qw_u2_n _ _ (by omega), p3]
          · rw [qw_u2_s, pr, nI_add]
            exact congrArg nI (by omega)
        · rw [q] at kc ⊢
          refine ⟨w, r0, r1 + 1, r2, r3, fun k hk => ?_, ?_, ?_, ?_, ?_, ?_, by omega, pa, pb⟩
          · rw [kc 6 (by decide), qw_u2_n _ _ (by omega), qw_u2_n _ _ (by omega)]
            exact p k hk
          · rw [qw_u2_n _ _ (by omega), qw_u2_n _ _ (by omega), p0]
          · rw [qw_u2_n _ _ (by omega), qw_u2_s, p1, nI_add]
          · rw [qw_u2_n _ _ (by omega), qw_u2_n _ _ (by omega), p2]
          · rw [qw_u2_n _ _ (by omega), qw_u2_n _ _ (by omega), p3]
          · rw [qw_u2_s, pr, nI_add]
            exact congrArg nI (by omega)
  · -- a miss: the culprit
    obtain ⟨v, hv9, hvN, hcu, hv2, hgo⟩ : ∃ v : Nat, (v = 0 ∨ 9 ≤ v) ∧ v < N + 9 ∧ qx_cu m H T = nI v - nI 9 ∧ (qx_oc m H T = 2 → 9 ≤ v) ∧ qf_L_returned t = qf_L_returned_183 (nI g - nI 9) (nI c) (nI a) (nI (qx_oc m H T)) (nI v - nI 9) (ql_k t (qx_oc m H T)) := by
      by_cases q : qx_oc m H T = 2
      · refine ⟨e, he9, heN, ?_, fun _ => ?_, ?_⟩
        · unfold qx_cu
          rw [if_pos q, f5]
        · unfold qx_oc at q
          rcases qd_n9 (show e < 1000000 by omega) he9 with ⟨w, w2⟩ | ⟨w, w2⟩
          · rw [f5, w2] at q
            split at q
            · split at q <;> omega
            · rw [if_pos rfl] at q
              omega
          · exact w
        · rw [h87, ql_ret_87 h4, if_neg ho, if_pos q, qd_by hlt, qd_pk_e ha hb hc hd, qa_t1]
      · refine ⟨u, hu9, hu, ?_, fun q2 => absurd q2 q, ?_⟩
        · unfold qx_cu
          rw [if_neg q, s6]
        · rw [h87, ql_ret_87 h4, if_neg ho, if_neg q]
    have hkd : (if qx_oc m H T = 2 then nI 1 else nI 2) = nI (qx_oc m H T - 1) := by
      by_cases q : qx_oc m H T = 2
      · rw [if_pos q, q]
      · rw [if_neg q]
        exact congrArg nI (by omega)
    have hm : qx_rm1 m H T C = qx_cf m H T C (nI (qx_oc m H T - 1)) (nI v - nI 9) := by
      unfold qx_rm1
      rw [if_neg ho, hcu, hkd]
    have hC2 : ∀ C2 : Nat, C2 = (if C + 1 ≤ 12 then C + 1 else 12) → C2 = if K + 1 ≤ 12 then K + 1 else 12 := by
      intro C2 hC2
      have h0 := Cf.1
      by_cases q1 : K ≤ 12
      · rw [if_pos q1] at h0
        rw [hC2, h0]
      · rw [if_neg q1] at h0
        rw [hC2, h0, if_neg (by omega), if_neg (by omega)]
    generalize hoc : qx_oc m H T = oc at *
    have hcq : nI v - nI 9 = -9 ∨ ∃ q : Nat, nI v - nI 9 = nI q ∧ q < N := by
      rcases qd_n9 (show v < 1000000 by omega) hv9 with ⟨w, w2⟩ | ⟨w, w2⟩
      · exact Or.inl w2
      · exact Or.inr ⟨v - 9, w2, by omega⟩
    refine ⟨ql_p (if v = 0 then ql_cf (ql_k t oc) K (lN (qd_cpk (oc - 1) v a g c S)) else qw_u2 (ql_cf (ql_k t oc) K (lN (qd_cpk (oc - 1) v a g c S))) 6 (v - 9) (ql_k t oc 6 (v - 9) + nI 1)) H (qx_sb Z T) S, (if C + 1 ≤ 12 then C + 1 else 12), K + 1, ?_, ?_⟩
    · rw [hgo, ql_ret_183 (by rw [key 10 (by decide) (by decide) (by decide) (by decide), t10]) (by omega) (by rw [key 1 (by decide) (by decide) (by decide) (by decide), t1]) (by omega) (by omega) h4 hg hc ha (by omega) hv9]
      have r1 : ∀ y : Nat, y ≠ 10 → (if v = 0 then ql_cf (ql_k t oc) K (lN (qd_cpk (oc - 1) v a g c S)) else qw_u2 (ql_cf (ql_k t oc) K (lN (qd_cpk (oc - 1) v a g c S))) 6 (v - 9) (ql_k t oc 6 (v - 9) + nI 1)) 1 y = ql_k t oc 1 y := by
        intro y hy
        split
        · simp (disch := omega) only [ql_cf, qw_u2_n, qw_uc_n]
        · simp (disch := omega) only [ql_cf, qw_u2_n, qw_uc_n]
      exact ql_ret_262 (by rw [r1 0 (by decide), key 0 (by decide) (by decide) (by decide) (by decide), t0]) h1 b4 (by rw [r1 12 (by decide), key 12 (by decide) (by decide) (by decide) (by decide), t12]) (by omega) (by rw [r1 11 (by decide), key 11 (by decide) (by decide) (by decide) (by decide), t11]) ⟨by omega, b2⟩ (by rw [r1 1 (by decide), key 1 (by decide) (by decide) (by decide) (by decide), t1]) (by omega)
    · unfold qx_r
      rw [hoc, hm]
      refine ql_retR (mm := qx_cf m H T C (nI (oc - 1)) (nI v - nI 9)) R h1 hS h4 (qs_ok_cg (fun x y hx => qw_u2_n _ _ (by omega)) (qs_ok_cf ok rfl hcq)) (fun x y q1 q2 q3 => qx_cf_n q1 q2 q3) ?_ ?_ (by omega) ?_ ?_ ⟨hC2 _ rfl, ?_⟩ ?_
      · intro y hy
        split
        · simp (disch := omega) only [ql_cf, qw_u2_n, qw_uc_n]
        · simp (disch := omega) only [ql_cf, qw_u2_n, qw_uc_n]
      · split
        · simp (disch := omega) only [ql_cf, qw_u2_e]
        · simp (disch := omega) only [ql_cf, qw_u2_n, qw_u2_e]
      · split
        · rw [ql_cf, qw_u2_c _ _ (by decide), qw_ucn _ _ (by decide), kc 2 (by decide)]
        · rw [qw_u2_c _ _ (by decide), ql_cf, qw_u2_c _ _ (by decide), qw_ucn _ _ (by decide), kc 2 (by decide)]
      · intro y
        split
        · rw [ql_cf, qw_u2_c _ _ (by decide), qw_ucn _ _ (by decide), kc 3 (by decide)]
        · rw [qw_u2_c _ _ (by decide), ql_cf, qw_u2_c _ _ (by decide), qw_ucn _ _ (by decide), kc 3 (by decide)]
      · intro j hj
        have et5 : (if v = 0 then ql_cf (ql_k t oc) K (lN (qd_cpk (oc - 1) v a g c S)) else qw_u2 (ql_cf (ql_k t oc) K (lN (qd_cpk (oc - 1) v a g c S))) 6 (v - 9) (ql_k t oc 6 (v - 9) + nI 1)) 5 = qj_s (t 5) K (lN (qd_cpk (oc - 1) v a g c S)) := by
          split
          · rw [ql_cf, qw_u2_c _ _ (by decide), qw_ucs, kc 5 (by decide)]
          · rw [qw_u2_c _ _ (by decide), ql_cf, qw_u2_c _ _ (by decide), qw_ucs, kc 5 (by decide)]
        rw [et5]
        have hj12 : j < 12 := by
          have : (if C + 1 ≤ 12 then C + 1 else 12) ≤ 12 := by split <;> omega
          omega
        have hjC : j < C + 1 := by
          have : (if C + 1 ≤ 12 then C + 1 else 12) ≤ C + 1 := by split <;> omega
          omega
        by_cases j0 : j = 0
        · subst j0
          rw [show K + 1 - 1 - 0 = K by omega, qj_lsS]
          refine ⟨oc - 1, v, a, g, c, S, ⟨by omega, by omega, ha, hg, hc, by omega⟩, ?_, ?_, ?_, ?_, ?_, ?_, rfl⟩
          · rw [qx_cf_o (by omega) hv9 (by decide)]
            simp (disch := omega) only [qx_cf2, qw_u2_n, qw_u2_e]
          · rw [qx_cf_o (by omega) hv9 (by decide)]
            simp (disch := omega) only [qx_cf2, qw_u2_n, qw_u2_e]
          · rw [qx_cf_o (by omega) hv9 (by decide)]
            simp (disch := omega) only [qx_cf2, qw_u2_n, qw_u2_e, f1]
          · rw [qx_cf_o (by omega) hv9 (by decide)]
            simp (disch := omega) only [qx_cf2, qw_u2_n, qw_u2_e, s5]
          · rw [qx_cf_o (by omega) hv9 (by decide)]
            simp (disch := omega) only [qx_cf2, qw_u2_n, qw_u2_e, f3]
          · rw [qx_cf_o (by omega) hv9 (by decide)]
            simp (disch := omega) only [qx_cf2, qw_u2_n, qw_u2_e, e5]
        · have hKC : C ≤ K := by
            have := Cf.1
            split at this <;> omega
          rw [qj_lsN _ _ (by omega)]
          obtain ⟨k', u', a', g', c', s', z0, z1, z2, z3, z4, z5, z6, z7⟩ := Cf.2 (j - 1) (by omega)
          have hsh : ∀ x : Nat, 19 ≤ x → x < 25 → qx_cf m H T C (nI (oc - 1)) (nI v - nI 9) x j = m x (j - 1) := by
            intro x hx1 hx2
            rw [qx_cf_o (by omega) hv9 (by omega)]
            simp (disch := omega) only [qx_cf2, qw_u2_n]
            unfold qx_sh
            rw [if_pos ⟨hx1, hx2, by omega, hj12⟩]
          refine ⟨k', u', a', g', c', s', z0, ?_, ?_, ?_, ?_, ?_, ?_, ?_⟩
          · rw [hsh _ (by decide) (by decide), z1]
          · rw [hsh _ (by decide) (by decide), z2]
          · rw [hsh _ (by decide) (by decide), z3]
          · rw [hsh _ (by decide) (by decide), z4]
          · rw [hsh _ (by decide) (by decide), z5]
          · rw [hsh _ (by decide) (by decide), z6]
          · rw [show K + 1 - 1 - j = K - 1 - (j - 1) by omega, z7]
      · have n2 : ∀ y : Nat, qx_cf m H T C (nI (oc - 1)) (nI v - nI 9) 2 y = m 2 y := fun y => qx_cf_n (by decide) (by decide) (by omega)
        have t6 : ∀ y : Nat, (if v = 0 then ql_cf (ql_k t oc) K (lN (qd_cpk (oc - 1) v a g c S)) else qw_u2 (ql_cf (ql_k t oc) K (lN (qd_cpk (oc - 1) v a g c S))) 6 (v - 9) (ql_k t oc 6 (v - 9) + nI 1)) 6 y = if 9 ≤ v ∧ y = v - 9 then t 6 y + nI 1 else t 6 y := by
          intro y
          have b6 : ∀ y : Nat, ql_cf (ql_k t oc) K (lN (qd_cpk (oc - 1) v a g c S)) 6 y = t 6 y := fun y => by rw [ql_cf, qw_u2_c _ _ (by decide), qw_ucn _ _ (by decide), kc 6 (by decide)]
          by_cases v0 : v = 0
          · rw [if_pos v0, if_neg (by omega), b6]
          · rw [if_neg v0, qw_u2_at]
            by_cases g : y = v - 9
            · rw [if_pos ⟨rfl, g⟩, if_pos ⟨by omega, g⟩, g, kc 6 (by decide)]
            · rw [if_neg (fun q => g q.2), if_neg (fun q => g q.2), b6]
        have hsum : qd_sum (fun k => if 9 ≤ v ∧ k = v - 9 then w k + 1 else w k) N = if 9 ≤ v then qd_sum w N + 1 else qd_sum w N := by
          by_cases v9 : 9 ≤ v
          · rw [if_pos v9, ← qd_sum_1 (w := w) (q := v - 9) (N := N) (by omega)]
            exact qd_sum_cg (fun k hk => by
              by_cases g : k = v - 9
              · rw [if_pos ⟨v9, g⟩, if_pos g]
              · rw [if_neg (fun q => g q.2), if_neg g])
          · rw [if_neg v9]
            exact qd_sum_cg (fun k hk => if_neg (fun q => v9 q.1))
        have hp : ∀ k : Nat, k < N → qx_cf m H T C (nI (oc - 1)) (nI v - nI 9) 3 k = nI (if 9 ≤ v ∧ k = v - 9 then w k + 1 else w k) ∧ (if v = 0 then ql_cf (ql_k t oc) K (lN (qd_cpk (oc - 1) v a g c S)) else qw_u2 (ql_cf (ql_k t oc) K (lN (qd_cpk (oc - 1) v a g c S))) 6 (v - 9) (ql_k t oc 6 (v - 9) + nI 1)) 6 k = nI (if 9 ≤ v ∧ k = v - 9 then w k + 1 else w k) := by
          intro k hk
          obtain ⟨q1, q2⟩ := p k hk
          rw [qx_cf_3 (by omega) hv9, t6]
          by_cases g : 9 ≤ v ∧ k = v - 9
          · rw [if_pos g, if_pos g, if_pos g, q1, q2, nI_add]
            exact ⟨rfl, rfl⟩
          · rw [if_neg g, if_neg g, if_neg g]
            exact ⟨q1, q2⟩
        rcases (show oc = 2 ∨ oc = 3 by omega) with q | q
        · have v9 := hv2 q
          rw [if_pos v9] at hsum
          subst q
          refine ⟨_, r0, r1, r2 + 1, r3, fun k hk => ?_, ?_, ?_, ?_, ?_, ?_, by omega, by rw [hsum]; omega, by rw [hsum]; omega⟩
          · rw [qw_u2_n _ _ (by omega), qw_u2_n _ _ (by omega)]
            exact hp k hk
          · rw [qw_u2_n _ _ (by omega), qw_u2_n _ _ (by omega), n2, p0]
          · rw [qw_u2_n _ _ (by omega), qw_u2_n _ _ (by omega), n2, p1]
          · rw [qw_u2_n _ _ (by omega), qw_u2_s, p2, nI_add]
          · rw [qw_u2_n _ _ (by omega), qw_u2_n _ _ (by omega), n2, p3]
          · rw [qw_u2_s, pr, nI_add]
            exact congrArg nI (by omega)
        · subst q
          refine ⟨_, r0, r1, r2, r3 + 1, fun k hk => ?_, ?_, ?_, ?_, ?_, ?_, by omega, by rw [hsum]; split <;> omega, by rw [hsum]; split <;> omega⟩
          · rw [qw_u2_n _ _ (by omega), qw_u2_n _ _ (by omega)]
            exact hp k hk
          · rw [qw_u2_n _ _ (by omega), qw_u2_n _ _ (by omega), n2, p0]
          · rw [qw_u2_n _ _ (by omega), qw_u2_n _ _ (by omega), n2, p1]
          · rw [qw_u2_n _ _ (by omega), qw_u2_n _ _ (by omega), n2, p2]
          · rw [qw_u2_n _ _ (by omega), qw_u2_s, p3, nI_add]
          · rw [qw_u2_s, pr, nI_add]
            exact congrArg nI (by omega)
