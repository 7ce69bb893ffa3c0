/-! the law's cells beside the class's state -/
def qd_fr (m : wm) (i : Nat) (x : Int64) : Prop := ∃ a b c d e : Nat, (a < 200 ∧ b < 16 ∧ c < 1000 ∧ d < 16 ∧ e < 209 ∧ (e = 0 ∨ 9 ≤ e)) ∧ m 8 i = nI a ∧ m 9 i = nI b ∧ m 10 i = nI c ∧ m 11 i = nI d ∧ m 12 i = nI e - nI 9 ∧ x = lN (qd_pk a b c d e)
def qd_cf (m : wm) (j : Nat) (x : Int64) : Prop := ∃ k u a g c s : Nat, (k < 4 ∧ u < 209 ∧ a < 200 ∧ g < 1009 ∧ c < 1000 ∧ s < 200) ∧ m 19 j = nI k ∧ m 20 j = nI u - nI 9 ∧ m 21 j = nI a ∧ m 22 j = nI g - nI 9 ∧ m 23 j = nI c ∧ m 24 j = nI s ∧ x = lN (qd_cpk k u a g c s)
def qd_sum (w : Nat → Nat) : Nat → Nat
  | 0 => 0
  | n + 1 => qd_sum w n + w n
theorem qd_sum_cg {w w' : Nat → Nat} : ∀ {N : Nat}, (∀ k : Nat, k < N → w' k = w k) → qd_sum w' N = qd_sum w N
  | 0, _ => rfl
  | n + 1, h => by
    unfold qd_sum
    rw [qd_sum_cg (fun k hk => h k (by omega)), h n (by omega)]
theorem qd_sum_1 {w : Nat → Nat} {q : Nat} : ∀ {N : Nat}, q < N → qd_sum (fun k => if k = q then w k + 1 else w k) N = qd_sum w N + 1
  | 0, h => by omega
  | n + 1, h => by
    unfold qd_sum
    by_cases e : q = n
    · subst e
      rw [if_pos rfl, qd_sum_cg (w := w) (fun k hk => if_neg (by omega))]
      omega
    · rw [if_neg (fun g => e g.symm), qd_sum_1 (w := w) (by omega : q < n)]
      omega
def qd_F (m t : wm) (H : Nat) : Prop := ∀ i : Nat, i < H → qd_fr m i (qj_l (t 2) i)
def qd_S (m t : wm) : Prop := ∀ k : Nat, k < 16 → t 3 (3 * k) = m 13 k ∧ t 3 (3 * k + 1) = m 14 k ∧ t 3 (3 * k + 2) = m 15 k ∧ ∃ g : Nat, g < 1009 ∧ m 14 k = nI g - nI 9
def qd_C (m t : wm) (C K : Nat) : Prop := C = (if K ≤ 12 then K else 12) ∧ ∀ j : Nat, j < C → qd_cf m j (qj_l (t 5) (K - 1 - j))
def qd_N (m t : wm) (N S : Nat) : Prop := ∃ (w : Nat → Nat) (r0 r1 r2 r3 : Nat), (∀ k : Nat, k < N → m 3 k = nI (w k) ∧ t 6 k = nI (w k)) ∧ m 2 0 = nI r0 ∧ m 2 1 = nI r1 ∧ m 2 2 = nI r2 ∧ m 2 3 = nI r3 ∧ m 1 2 = nI (r0 + r1 + r2 + r3) ∧ r0 + r1 + r2 + r3 ≤ S ∧ r2 ≤ qd_sum w N ∧ qd_sum w N ≤ r2 + r3
def qd_G (m t : wm) (K : Nat) : Prop := t 1 0 = m 0 3 ∧ t 1 1 = m 0 5 ∧ t 1 2 = m 1 0 ∧ t 1 3 = m 1 1 ∧ t 1 4 = m 1 2 ∧ t 1 5 = m 1 3 ∧ t 1 6 = m 2 0 + m 2 1 ∧ t 1 7 = m 2 1 ∧ t 1 8 = m 2 2 ∧ t 1 9 = m 2 3 ∧ t 1 10 = nI K ∧ t 1 11 = m 0 1 ∧ t 1 12 = m 0 2 ∧ t 1 13 = m 0 4 ∧ t 1 14 = m 0 0
def qd_rel (m t : wm) (T Z H S C N K : Nat) : Prop := qs_ok m T Z H S C N ∧ K ≤ S ∧ qd_G m t K ∧ qd_F m t H ∧ qd_S m t ∧ qd_C m t C K ∧ qd_N m t N S
theorem qw_u2_c (m : wm) {c i x : Nat} (v : Int32) (h : x ≠ c) : qw_u2 m c i v x = m x := qw_ucn m _ h
theorem qd_F_cg {m m' t t' : wm} {H H' : Nat} (hH : H' ≤ H) (hm : ∀ x y : Nat, 8 ≤ x → x < 13 → m' x y = m x y) (ht : t' 2 = t 2) (F : qd_F m t H) : qd_F m' t' H' := by
  intro i hi
  obtain ⟨a, b, c, d, e, h0, h1, h2, h3, h4, h5, h6⟩ := F i (by omega)
  refine ⟨a, b, c, d, e, h0, ?_, ?_, ?_, ?_, ?_, ?_⟩
  · rw [hm _ _ (by decide) (by decide), h1]
  · rw [hm _ _ (by decide) (by decide), h2]
  · rw [hm _ _ (by decide) (by decide), h3]
  · rw [hm _ _ (by decide) (by decide), h4]
  · rw [hm _ _ (by decide) (by decide), h5]
  · rw [ht, h6]
theorem qd_S_cg {m m' t t' : wm} (hm : ∀ x y : Nat, 13 ≤ x → x < 16 → m' x y = m x y) (ht : ∀ y : Nat, t' 3 y = t 3 y) (F : qd_S m t) : qd_S m' t' := by
  intro k hk
  obtain ⟨h1, h2, h3, g, h4, h5⟩ := F k hk
  rw [hm _ _ (by decide) (by decide), hm _ _ (by decide) (by decide), hm _ _ (by decide) (by decide), ht, ht, ht]
  exact ⟨h1, h2, h3, g, h4, h5⟩
theorem qd_C_cg {m m' t t' : wm} {C K : Nat} (hm : ∀ x y : Nat, 19 ≤ x → x < 25 → m' x y = m x y) (ht : t' 5 = t 5) (F : qd_C m t C K) : qd_C m' t' C K := by
  refine ⟨F.1, fun j hj => ?_⟩
  obtain ⟨k, u, a, g, c, s, h0, h1, h2, h3, h4, h5, h6, h7⟩ := F.2 j hj
  refine ⟨k, u, a, g, c, s, h0, ?_, ?_, ?_, ?_, ?_, ?_, ?_⟩
  · rw [hm _ _ (by decide) (by decide), h1]
  · rw [hm _ _ (by decide) (by decide), h2]
  · rw [hm _ _ (by decide) (by decide), h3]
  · rw [hm _ _ (by decide) (by decide), h4]
  · rw [hm _ _ (by decide) (by decide), h5]
  · rw [hm _ _ (by decide) (by decide), h6]
  · rw [ht, h7]
theorem qd_N_cg {m m' t t' : wm} {N S S' : Nat} (hS : S ≤ S') (h3 : ∀ y : Nat, m' 3 y = m 3 y) (h2 : ∀ y : Nat, m' 2 y = m 2 y) (h1 : m' 1 2 = m 1 2) (h6 : ∀ y : Nat, t' 6 y = t 6 y) (F : qd_N m t N S) : qd_N m' t' N S' := by
  obtain ⟨w, r0, r1, r2, r3, a, b0, b1, b2, b3, c, d, e, f⟩ := F
  refine ⟨w, r0, r1, r2, r3, fun k hk => ?_, ?_, ?_, ?_, ?_, ?_, by omega, e, f⟩
  · rw [h3, h6]
    exact a k hk
  · rw [h2, b0]
  · rw [h2, b1]
  · rw [h2, b2]
  · rw [h2, b3]
  · rw [h1, c]
/-! the law's steps -/
def ql_st (t : wm) (S k : Nat) (v : Int32) : wm := qw_u2 (qw_u2 (qw_u2 t 4 S (nI 1000 * nI k + v)) 1 1 (nI (S + 1))) 1 (2 + k) (t 1 (2 + k) + nI 1)
theorem ql_steps {t : wm} {S k : Nat} {v : Int32} (e : t 1 1 = nI S) (hS : S < 64) (hk : k < 4) : qf_L_steps (nI k) v t = some (ql_st t S k v) := by
  unfold qf_L_steps
  simp (disch := omega) only [qn_e, e, qa_g, qa_cl, nI_add, qw_u2_n, qw_u2_s]
  rfl
theorem ql_st_n {t : wm} {S k : Nat} {v : Int32} {x y : Nat} (h : x ≠ 4) (h1 : ¬ (x = 1 ∧ (y = 1 ∨ y = 2 + k))) : ql_st t S k v x y = t x y := by
  unfold ql_st
  simp (disch := omega) only [qw_u2_n]
theorem ql_st_c {t : wm} {S k : Nat} {v : Int32} {x : Nat} (h : x ≠ 4) (h1 : x ≠ 1) : ql_st t S k v x = t x := by
  unfold ql_st
  rw [qw_u2_c _ _ h1, qw_u2_c _ _ h1, qw_u2_c _ _ h]
theorem ql_st_1 {t : wm} {S k : Nat} {v : Int32} : ql_st t S k v 1 1 = nI (S + 1) := by
  unfold ql_st
  rw [qw_u2_n _ _ (by omega), qw_u2_s]
theorem ql_st_k {t : wm} {S k : Nat} {v : Int32} {y : Nat} (h : y = 2 + k) : ql_st t S k v 1 y = t 1 y + nI 1 := by
  subst h
  unfold ql_st
  rw [qw_u2_s]
/-! the law's call -/
theorem qd_pk_d {a b c d e : Nat} (ha : a < 200) (hb : b < 16) (hc : c < 1000) (hd : d < 16) : qd_pk a b c d e / 2 ^ 22 % 16 = d := by
  unfold qd_pk
  omega
theorem qd_pk_e {a b c d e : Nat} (ha : a < 200) (hb : b < 16) (hc : c < 1000) (hd : d < 16) : qd_pk a b c d e / 67108864 = e := by
  unfold qd_pk
  omega
theorem qd_pk_a {a b c d e : Nat} (ha : a < 200) : qd_pk a b c d e % 256 = a := by
  unfold qd_pk
  omega
theorem qd_pk_b {a b c d e : Nat} (ha : a < 200) (hb : b < 16) : qd_pk a b c d e / 2 ^ 8 % 16 = b := by
  unfold qd_pk
  omega
theorem qd_pk_c {a b c d e : Nat} (ha : a < 200) (hb : b < 16) (hc : c < 1000) : qd_pk a b c d e / 2 ^ 12 % 1024 = c := by
  unfold qd_pk
  omega
theorem qd_pk_lt {a b c d e : Nat} (ha : a < 200) (hb : b < 16) (hc : c < 1000) (hd : d < 16) (he : e < 209) : qd_pk a b c d e < 4611686018427387904 := by
  unfold qd_pk
  omega
theorem qd_fr_cg {m m' : wm} {i : Nat} {x : Int64} (hm : ∀ c : Nat, 8 ≤ c → c < 13 → m' c i = m c i) (F : qd_fr m i x) : qd_fr m' i x := by
  obtain ⟨a, b, c, d, e, h0, h1, h2, h3, h4, h5, h6⟩ := F
  exact ⟨a, b, c, d, e, h0, by rw [hm _ (by decide) (by decide), h1], by rw [hm _ (by decide) (by decide), h2], by rw [hm _ (by decide) (by decide), h3], by rw [hm _ (by decide) (by decide), h4], by rw [hm _ (by decide) (by decide), h5], h6⟩
theorem ql_called_35 {m : wm} {H N T2 : Nat} {x5 x6 : Int32} (hH : H ≤ 40) (hN : N < 200) (hT2 : T2 < 16) : ∀ (d n i : Nat) (t : wm), t 1 0 = nI H → t 1 12 = nI T2 → i ≤ H → H - i = d → d < n →
    (∀ k : Nat, k < i → qd_fr (qx_ov H (nI N) (nI T2) m) k (qj_l (t 2) k)) → (∀ k : Nat, i ≤ k → k < H → qd_fr m k (qj_l (t 2) k)) →
    ∃ t2 : wm, qf_L_called_35 n x5 x6 (nI N) (nI i) t = qf_L_called_112 x5 x6 (nI N) t2 ∧ (∀ c : Nat, c ≠ 2 → t2 c = t c) ∧ ∀ k : Nat, k < H → qd_fr (qx_ov H (nI N) (nI T2) m) k (qj_l (t2 2) k) := by
  intro d
  induction d with
  | zero =>
    intro n i t e0 e12 hi hd hn A B
    obtain ⟨n, rfl⟩ : ∃ k, n = k + 1 := ⟨n - 1, by omega⟩
    refine ⟨t, ?_, fun c _ => rfl, fun k hk => A k (by omega)⟩
    rw [qf_L_called_35]
    simp (disch := omega) only [qn_e, e0, qa_le]
    rw [if_pos (by omega)]
  | succ d ih =>
    intro n i t e0 e12 hi hd hn A B
    obtain ⟨n, rfl⟩ : ∃ k, n = k + 1 := ⟨n - 1, by omega⟩
    have go : ∀ z : Int64, qd_fr (qx_ov H (nI N) (nI T2) m) i z → ∃ t2 : wm, qf_L_called_35 n x5 x6 (nI N) (nI (i + 1)) (qw_uc t 2 (qj_s (t 2) i z)) = qf_L_called_112 x5 x6 (nI N) t2 ∧ (∀ c : Nat, c ≠ 2 → t2 c = t c) ∧ ∀ k : Nat, k < H → qd_fr (qx_ov H (nI N) (nI T2) m) k (qj_l (t2 2) k) := by
      intro z hz
      obtain ⟨t2, k1, k2, k3⟩ := ih n (i + 1) (qw_uc t 2 (qj_s (t 2) i z)) (by rw [qw_ucn _ _ (by decide), e0]) (by rw [qw_ucn _ _ (by decide), e12]) (by omega) (by omega) (by omega)
        (fun k hk => by
          rw [qw_ucs]
          by_cases e : k = i
          · subst e
            rw [qj_lsS]
            exact hz
          · rw [qj_lsN _ _ e]
            exact A k (by omega))
        (fun k h1 h2 => by
          rw [qw_ucs, qj_lsN _ _ (by omega)]
          exact B k (by omega) h2)
      exact ⟨t2, k1, fun c hc => by rw [k2 c hc, qw_ucn _ _ hc], k3⟩
    obtain ⟨a, b, c, dd, e, ⟨ha, hb, hc, hdd, he, he9⟩, h1, h2, h3, h4, h5, h6⟩ := B i (Nat.le_refl _) (by omega)
    have hlt := qd_pk_lt ha hb hc hdd he
    rw [qf_L_called_35]
    simp (disch := omega) only [qn_e, e0, e12, qa_le, qa_g, qa_cl, h6, qd_shr]
    rw [if_neg (by omega), qd_m15 (qd_dlt 22 hlt), qd_pk_d ha hb hc hdd, nI_l (by omega), nI_add, qd_by hlt, qd_pk_e ha hb hc hdd, qa_t1]
    have hov : ∀ c : Nat, c ≠ 12 → qx_ov H (nI N) (nI T2) m c i = m c i := fun c hc => qx_ov_n hc
    by_cases g : dd = T2
    · subst g
      rw [if_pos (qd_cmp _)]
      by_cases g9 : 9 ≤ e
      · rw [if_pos (by rw [qd_le9 (by omega) he9]; exact g9), qd_0]
        refine go _ ⟨a, b, c, dd, e, ⟨ha, hb, hc, hdd, he, he9⟩, ?_, ?_, ?_, ?_, ?_, rfl⟩
        · rw [hov _ (by decide), h1]
        · rw [hov _ (by decide), h2]
        · rw [hov _ (by decide), h3]
        · rw [hov _ (by decide), h4]
        · unfold qx_ov
          rw [if_neg (fun q => ?_), h5]
          have q5 := q.2.2.2
          rw [h5, qa_sub g9, qa_n9 (by omega)] at q5
          exact q5
      · have e0 : e = 0 := by omega
        subst e0
        rw [if_neg (by rw [qd_le9 (by omega) he9]; omega), nI_l (by omega), show (9 : Int64) = lN 9 from rfl, lN_add, wb_shl _ (by decide), lN_add]
        refine go _ ⟨a, b, c, dd, N + 9, ⟨ha, hb, hc, hdd, by omega, Or.inr (by omega)⟩, ?_, ?_, ?_, ?_, ?_, ?_⟩
        · rw [hov _ (by decide), h1]
        · rw [hov _ (by decide), h2]
        · rw [hov _ (by decide), h3]
        · rw [hov _ (by decide), h4]
        · unfold qx_ov
          rw [if_pos ⟨rfl, by omega, h4, by rw [h5]; decide⟩, qa_sub (by omega), Nat.add_sub_cancel]
        · exact congrArg lN (by unfold qd_pk; omega)
    · rw [if_neg (by rw [qd_cmp0, lN_eq (by omega) (by omega)]; exact g), qd_0]
      refine go _ ⟨a, b, c, dd, e, ⟨ha, hb, hc, hdd, he, he9⟩, ?_, ?_, ?_, ?_, ?_, rfl⟩
      · rw [hov _ (by decide), h1]
      · rw [hov _ (by decide), h2]
      · rw [hov _ (by decide), h3]
      · rw [hov _ (by decide), h4]
      · unfold qx_ov
        rw [if_neg (fun q => ?_), h5]
        have q4 := q.2.2.1
        rw [h4, qa_eq (by omega) (by omega)] at q4
        exact g q4
def ql_c (t : wm) (T2 H S N : Nat) (a : Int32) (x : Int64) : wm := ql_st (qw_u2 (qw_u2 (qw_u2 (qw_uc (qw_u2 (qw_u2 (qw_u2 t 3 (3 * T2) (nI N)) 3 (3 * T2 + 1) a) 3 (3 * T2 + 2) (t 3 (3 * T2 + 2) + nI 1)) 2 (qj_s (t 2) H x)) 1 0 (nI (H + 1))) 1 13 (if nI (H + 1) ≤ t 1 13 then t 1 13 else nI (H + 1))) 6 N (nI 0)) S 0 a
theorem ql_called_112 {t : wm} {T2 H S N f a : Nat} (e0 : t 1 0 = nI H) (hH : H < 40) (e12 : t 1 12 = nI T2) (hT : T2 < 16) (eS : t 1 1 = nI S) (hS : S < 64) (hN : N < 64) (hf : f < 16) (ha : a < 1000) :
    qf_L_called_112 (nI f) (nI a) (nI N) t = some (nI N, ql_c t T2 H S N (nI a) (lN (qd_pk N f a T2 0))) := by
  have k209 : ∀ v : Int32, ∀ u : wm, u 1 1 = nI S → qf_L_called_209 (nI a) (nI N) v (nI 13) u = some (nI N, ql_st (qw_u2 (qw_u2 u 1 13 v) 6 N (nI 0)) S 0 (nI a)) := by
    intro v u hu
    unfold qf_L_called_209
    simp (disch := omega) only [qn_e, qa_g, qa_cl]
    rw [ql_steps (S := S) (by rw [qw_u2_n _ _ (by omega), qw_u2_n _ _ (by omega), hu]) hS (by decide), qa_t1]
  unfold qf_L_called_112
  simp (disch := omega) only [qn_e, e0, e12, pk_mul, nI_add, qa_g, qa_cl, qw_u2_n, qw_ucn, qw_u2_c, qw_u2_s, ne_eq, Nat.reduceEqDiff, not_false_eq_true]
  rw [qd_pack (by omega) hf (by omega) hT]
  have hu : ∀ x : Int64, qw_u2 (qw_uc (qw_u2 (qw_u2 (qw_u2 t 3 (3 * T2) (nI N)) 3 (3 * T2 + 1) (nI a)) 3 (3 * T2 + 2) (t 3 (3 * T2 + 2) + nI 1)) 2 (qj_s (t 2) H x)) 1 0 (nI (H + 1)) 1 1 = nI S := by
    intro x
    rw [qw_u2_n _ _ (by omega), qw_ucn _ _ (by decide), qw_u2_n _ _ (by omega), qw_u2_n _ _ (by omega), qw_u2_n _ _ (by omega), eS]
  by_cases g : nI (H + 1) ≤ t 1 13
  · rw [if_pos g, k209 _ _ (hu _)]
    unfold ql_c
    rw [if_pos g]
  · rw [if_neg g, k209 _ _ (hu _)]
    unfold ql_c
    rw [if_neg g]
