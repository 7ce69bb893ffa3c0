theorem qw_u1_u (M : wM) (o : Nat) (m m' : wm) : qw_u1 (qw_u1 M o m) o m' = qw_u1 M o m' := by
  funext k
  by_cases h : k = o
  · subst h
    rw [qw_u1_s, qw_u1_s]
  · rw [qw_u1_n _ _ h, qw_u1_n _ _ h, qw_u1_n _ _ h]
theorem qv_misses {M : wM} {h : Nat → Nat} {s : Nat → Int32} {S E Z : Nat} {r : Int32} (hS : S ≤ 200) (hE : E ≤ 40) (h1 : 2 ≤ Z) (h2 : Z ≤ 16) (e5 : M 0 0 5 = nI S) (s1 : s 1 = nI S) (s14 : s 14 = r) (hv : qs_val (M 0) S E)
    (rP : ∀ k : Nat, k < S → s (335 + 2 * k) = M 0 16 k ∧ s (335 + 2 * k + 1) = if M 0 16 k = nI 1 then M 0 17 k else M 0 18 k) : ∀ (d n i : Nat) (u g : wm) (T : Nat) (x4 : Int32), i ≤ S → S - i = d → d < n → T < Z → qs_hg (M 0) i ≤ 40 → g 1 = s → qv_T u g T Z (qs_hg (M 0) i) i x4 r →
    ∃ (x : Int32) (u' g' : wm), qf_X2_missesInTrial_24 n (nI i) (qw_u1 M 2 u) h = some (x, qw_u1 M 2 u', h) ∧ qf_X3_misses_34 n (nI Z) (nI T) (nI (qs_hg (M 0) i)) x4 (nI i) g = some (x, g') ∧ ∀ c : Nat, c ≠ 5 → c ≠ 6 → g' c = g c := by
  intro d
  induction d with
  | zero =>
    intro n i u g T x4 hi hd hn hT hH eg R
    obtain ⟨n, rfl⟩ : ∃ k, n = k + 1 := ⟨n - 1, by omega⟩
    have hni : S ≤ i := by omega
    refine ⟨x4, u, g, ?_, ?_, fun c _ _ => rfl⟩
    · rw [qf_X2_missesInTrial_24, qn_e, qw_u1_n _ _ (by decide), e5, if_pos (by rw [qa_le (by omega) (by omega)]; exact hni)]
      unfold qf_X2_missesInTrial_82 qf_X0_misses
      rw [qw_u1_s, qn_e, qn_e, qn_e, qa_t1, R.2.2.2.1]
    · rw [qf_X3_misses_34, qn_e, eg, s1, if_pos (by rw [qa_le (by omega) (by omega)]; exact hni)]
  | succ d ih =>
    intro n i u g T x4 hi hd hn hT hH eg R
    obtain ⟨n, rfl⟩ : ∃ k, n = k + 1 := ⟨n - 1, by omega⟩
    have hni : ¬ S ≤ i := by omega
    have hi2 : i < 200 := by omega
    obtain ⟨p0, p1⟩ := rP i (by omega)
    have A : ∀ (e : Int32) (u' : wm), qf_X0_take (M 0 16 i) (M 0 17 i) (M 0 18 i) u = some (e, u') → qf_X2_missesInTrial_24 (n + 1) (nI i) (qw_u1 M 2 u) h = qf_X2_missesInTrial_24 n (nI (i + 1)) (qw_u1 M 2 u') h := by
      intro e u' eT
      rw [qf_X2_missesInTrial_24, qn_e, qw_u1_n (k := 0) _ _ (by decide), e5, if_neg (by rw [qa_le (by omega) (by omega)]; exact hni)]
      simp (disch := omega) only [qa_g, qa_cl, qn_e, qw_u1_s, eT, qa_t2, nI_add, qw_u1_u]
    have B0 : (nI S ≤ nI i) = False := by rw [qa_le (by omega) (by omega)]; exact eq_false hni
    rw [qf_X3_misses_34]
    simp (disch := omega) only [qn_e, eg, s1, B0, pk_mul, nI_add, qa_g, qa_cl, p0, p1, s14]
    rw [if_neg (fun q => q)]
    have hstep := hv.1 i (by omega)
    have hgn : qs_hg (M 0) (i + 1) = if M 0 16 i = nI 0 then qs_hg (M 0) i + 1 else if M 0 16 i = nI 2 then qs_hg (M 0) i - 1 else if M 0 16 i = nI 3 then qs_hg (M 0) i - (M 0 18 i).toNatClampNeg else qs_hg (M 0) i := rfl
    rcases hstep with ⟨k0, ⟨f, kf, hf⟩, ⟨a, ka, ha⟩, hh⟩ | ⟨k0, ⟨f, kf, hf⟩, ka, hh⟩ | ⟨k0, kf, ka, hh⟩ | ⟨k0, kf, q, kq, hq1, hq2, hq3⟩
    · rw [k0, if_pos rfl] at hgn
      obtain ⟨e, u', eT, R'⟩ := qv_T_call R hh hi2 hf ha
      rw [← hgn] at R'
      have hst : (T + 1) % Z = qx_st Z T := by
        unfold qx_st
        split
        · exact Nat.mod_eq_of_lt (by omega)
        · have : T + 1 = Z := by omega
          rw [this, Nat.mod_self]
      have hlt := qx_st_lt (T := T) h1
      obtain ⟨x, u2, g2, c1, c2, c3⟩ := ih n (i + 1) u' (qw_u2 (qw_u2 g 5 (qx_st Z T) (nI a)) 6 (qs_hg (M 0) i) (nI a)) (qx_st Z T) x4 (by omega) (by omega) (by omega) hlt (by omega) (by funext y; simp (disch := omega) only [qw_u2_n]; rw [eg]) R'
      refine ⟨x, u2, g2, ?_, ?_, ?_⟩
      · rw [A e u' (by rw [k0, kf, ka]; exact eT)]
        exact c1
      · rw [k0, if_pos (show nI 0 = 0 from rfl), if_neg (show ¬ nI 0 = nI 1 by decide), ka]
        simp (disch := omega) only [qa_gn, qa_rem, hst, qa_g, qa_cl]
        rw [← hgn]
        exact c2
      · intro c hc5 hc6
        rw [c3 c hc5 hc6]
        funext y
        simp (disch := omega) only [qw_u2_n]
    · rw [k0, if_neg (show ¬ nI 1 = nI 0 by decide), if_neg (show ¬ nI 1 = nI 2 by decide), if_neg (show ¬ nI 1 = nI 3 by decide)] at hgn
      obtain ⟨e, u', eT, R'⟩ := qv_T_tail R hh hi2 hf
      rw [← hgn] at R'
      obtain ⟨x, u2, g2, c1, c2, c3⟩ := ih n (i + 1) u' g T x4 (by omega) (by omega) (by omega) hT (by omega) eg R'
      refine ⟨x, u2, g2, ?_, ?_, c3⟩
      · rw [A e u' (by rw [k0, kf, ka]; exact eT)]
        exact c1
      · rw [k0, if_neg (show ¬ nI 1 = 0 by decide), if_neg (show ¬ nI 1 = nI 2 by decide), if_neg (show ¬ nI 1 = nI 3 by decide), ← hgn]
        exact c2
    · rw [k0, if_neg (show ¬ nI 2 = nI 0 by decide), if_pos rfl] at hgn
      obtain ⟨e, u', eT, R'⟩ := qv_T_ret R hh hi2
      rw [← hgn] at R'
      have hlt := qx_sb_lt (Z := Z) (T := T) (by omega) hT
      obtain ⟨x, u2, g2, c1, c2, c3⟩ := ih n (i + 1) u' g (qx_sb Z T) _ (by omega) (by omega) (by omega) hlt (by omega) eg R'
      have hbk : qf_X3_back (nI T) (nI 1) (nI Z) = some (nI (qx_sb Z T)) := by rw [qm_back (by omega) (by omega) (by omega) h2, ← qx_sbn_back h2 (by omega) hT 1 (by decide)]; rfl
      refine ⟨x, u2, g2, ?_, ?_, c3⟩
      · rw [A e u' (by rw [k0, kf, ka]; exact eT)]
        exact c1
      · obtain ⟨w, hw⟩ : ∃ w : Nat, qs_hg (M 0) i = w + 1 := ⟨qs_hg (M 0) i - 1, by omega⟩
        rw [k0, if_neg (show ¬ nI 2 = 0 by decide), if_pos rfl]
        have hgw : qs_hg (M 0) (i + 1) = w := by omega
        rw [hgw] at c2
        rw [hw]
        simp (disch := omega) only [qa_m1, qa_g, qa_cl, hbk, qa_t1, qa_p0]
        by_cases gg : g 5 T = g 6 w
        · rw [if_pos gg] at c2 ⊢
          exact c2
        · rw [if_neg gg] at c2 ⊢
          exact c2
    · rw [k0, if_neg (show ¬ nI 3 = nI 0 by decide), if_neg (show ¬ nI 3 = nI 2 by decide), if_pos rfl, kq, qa_cl (by omega)] at hgn
      obtain ⟨e, u', eT, R'⟩ := qv_T_throw R hq1 hq3 hi2
      rw [← hgn] at R'
      have hlt := qx_sbn_lt (Z := Z) (T := T) (by omega) hT q
      have hbk : qf_X3_back (nI T) (nI q) (nI Z) = some (nI (qx_sbn Z T q)) := by rw [qm_back (by omega) (by omega) (by omega) h2, qx_sbn_back h2 (by omega) hT q (by omega)]
      obtain ⟨x, u2, g2, c1, c2, c3⟩ := ih n (i + 1) u' g _ x4 (by omega) (by omega) (by omega) (show (if r = nI 1 then qx_sbn Z T q else T) < Z by split <;> omega) (by omega) eg R'
      refine ⟨x, u2, g2, ?_, ?_, c3⟩
      · rw [A e u' (by rw [k0, kf, kq]; exact eT)]
        exact c1
      · rw [k0, if_neg (show ¬ nI 3 = 0 by decide), if_neg (show ¬ nI 3 = nI 2 by decide), if_pos rfl, if_neg (show ¬ nI 3 = nI 1 by decide), kq, qa_sub hq3, ← hgn]
        by_cases gr : r = nI 1
        · rw [if_pos gr] at c2 ⊢
          rw [hbk, qa_t1]
          exact c2
        · rw [if_neg gr] at c2 ⊢
          exact c2
def qx_m5 (i : Nat) (t : wm) : wm := fun x y => if x = 5 ∧ i ≤ y ∧ y < 16 then -9 else t x y
theorem qx_m5_s {i : Nat} {t : wm} {x y : Nat} (g : x = 5 ∧ i ≤ y ∧ y < 16) : qx_m5 i t x y = -9 := if_pos g
theorem qx_m5_n {i : Nat} {t : wm} {x y : Nat} (g : ¬ (x = 5 ∧ i ≤ y ∧ y < 16)) : qx_m5 i t x y = t x y := if_neg g
theorem qm_misses_2 {x1 : Int32} : ∀ (d n i : Nat) (t : wm), i ≤ 16 → 16 - i = d → d < n → qf_X3_misses_2 n x1 (nI i) t = qf_X3_misses_22 x1 (qx_m5 i t) := by
  intro d
  induction d with
  | zero =>
    intro n i t hi hd hn
    obtain ⟨n, rfl⟩ : ∃ k, n = k + 1 := ⟨n - 1, by omega⟩
    rw [qf_X3_misses_2]
    simp (disch := omega) only [qa_le]
    rw [if_pos (by omega)]
    congr 1
    funext x y
    rw [qx_m5_n (by omega)]
  | succ d ih =>
    intro n i t hi hd hn
    obtain ⟨n, rfl⟩ : ∃ k, n = k + 1 := ⟨n - 1, by omega⟩
    rw [qf_X3_misses_2]
    simp (disch := omega) only [qn_e, qa_le, nI_add, qa_g, qa_cl]
    rw [if_neg (by omega), ih n (i + 1) _ (by omega) (by omega) (by omega)]
    congr 1
    funext x y
    by_cases hx : x = 5 ∧ y = i
    · rw [qx_m5_n (by omega), qx_m5_s (by omega), qw_u2_e _ _ hx.1 hx.2]
    · by_cases hr : x = 5 ∧ i ≤ y ∧ y < 16
      · rw [qx_m5_s (by omega), qx_m5_s hr]
      · rw [qx_m5_n (by omega), qx_m5_n hr, qw_u2_n _ _ hx]
/-- both sides' misses with Z slots, one answer -/
def qv_M (M : wM) (h : Nat → Nat) (t : wm) (Z : Nat) (x : Int32) : Prop :=
  (∃ u' : wm, qf_X2_missesInTrial (nI Z) M h = some (x, qw_u1 M 2 u', h)) ∧ ∃ t' : wm, qf_X3_misses (nI Z) t = some (x, t') ∧ ∀ c : Nat, c ≠ 5 → c ≠ 6 → t' c = t c
theorem qv_mis {M : wM} {h : Nat → Nat} {t : wm} {Z : Nat} (R : qs_R (M 0) (t 1)) (h1 : 2 ≤ Z) (h2 : Z ≤ 16) : ∃ x : Int32, qv_M M h t Z x := by
  obtain ⟨T, Z0, H, S, C, N, ok, rl⟩ := R
  obtain ⟨⟨b1, b2, b3, b4, b5, b6, b7⟩, ⟨e1, e2, e3, e5, e6, eN, er⟩, okF, okS, okN, okV⟩ := ok
  obtain ⟨⟨r0, r1, r2, r3, r4, r5, r6, r7, r8, r9, r10, r11, r12, r13, r14⟩, rF, rS, rT, rP, rN⟩ := rl
  have F := qx_new_f (m := qw_u2 (M 2) 0 0 (M 0 0 0)) (Z := Z)
  rw [qw_u2_s] at F
  have okn := qv_freshO h1 h2 er F
  have hq : qv_T (qx_new Z (qw_u2 (M 2) 0 0 (M 0 0 0))) (qx_m5 0 t) (Z - 1) Z (qs_hg (M 0) 0) 0 (nI 0) (M 0 0 0) := by
    refine ⟨⟨0, 0, okn⟩, ?_, ?_, ?_, F.1.1⟩
    · intro k hk
      rw [F.2.2.2.2.2.1 k hk, qx_m5_s (by omega)]
    · intro k hk
      exact absurd hk (Nat.not_lt_zero k)
    · rw [F.2.2.1 2 (by decide), F.2.2.1 3 (by decide)]
      rfl
  obtain ⟨x, u', g', c1, c2, c3⟩ := qv_misses (M := M) (h := h) (s := t 1) (E := H) b5 b4 h1 h2 e5 (by rw [r1, e5]) r14 okV rP S qfu 0 _ (qx_m5 0 t) (Z - 1) (nI 0) (by omega) (by omega) (by unfold qfu; omega) (by omega) (Nat.zero_le 40) (by funext y; rw [qx_m5_n (by omega)]) hq
  refine ⟨x, ⟨u', ?_⟩, g', ?_, ?_⟩
  · unfold qf_X2_missesInTrial
    rw [qn_e, qn_e, qw_u1_s, qe_new h1 h2, qa_t1, qn_e, qw_u1_u]
    exact c1
  · unfold qf_X3_misses
    rw [qm_misses_2 16 qfu 0 t (by omega) (by omega) (by unfold qfu; omega)]
    unfold qf_X3_misses_22
    rw [qn_e, qa_sub (by omega)]
    exact c2
  · intro c h5 h6
    rw [c3 c h5 h6]
    funext y
    rw [qx_m5_n (by omega)]
theorem qv_M_eq {M M2 : wM} {h h2 : Nat → Nat} {t t2 : wm} {Z : Nat} {x y : Int32} (R : qs_R (M 0) (t 1)) (hZ : 2 ≤ Z) (hZ2 : Z ≤ 16) (e0 : M2 0 = M 0) (e1 : t2 1 = t 1) (A : qv_M M h t Z x) (B : qv_M M2 h2 t2 Z y) : x = y := by
  obtain ⟨z, ⟨u3, C1⟩, t3, C2, -⟩ := qv_mis (M := M) (h := h) (t := t2) (Z := Z) (by rw [e1]; exact R) hZ hZ2
  obtain ⟨⟨u4, A1⟩, -⟩ := A
  obtain ⟨-, t5, B2, -⟩ := B
  rw [C1] at A1
  rw [C2] at B2
  injection A1 with A1
  injection A1 with A1 _
  injection B2 with B2
  injection B2 with B2 _
  rw [← A1, ← B2]
theorem qv_I_t {M M' : wM} {h : Nat → Nat} {t t' : wm} (g : ∀ k : Nat, k = 0 ∨ (3 ≤ k ∧ k < 9) → M' k = M k) (e : ∀ c : Nat, c ≠ 5 → c ≠ 6 → t' c = t c) (I : qv_I M h t) : qv_I M' h t' := by
  refine qv_I_cg g ?_
  obtain ⟨P, D, hP, hD, R, a1, a2, a3, a4, a5, a6, H⟩ := I
  refine ⟨P, D, hP, hD, ?_, a1, ?_, ?_, a4, ?_, ?_, ?_⟩
  · rw [e 1 (by decide) (by decide)]
    exact R
  · rw [e 0 (by decide) (by decide), a2]
  · rw [e 0 (by decide) (by decide), a3]
  · rw [e 0 (by decide) (by decide), a5]
  · intro i hi
    rw [e 4 (by decide) (by decide), a6 i hi]
  · rw [e 2 (by decide) (by decide)]
    exact H
theorem qk_missesWith {M : wM} {h : Nat → Nat} {t : wm} (I : qv_I M h t) (x1 : Int32) : qv_S (qf_X2_missesWith x1 M h) (qf_X3_missesWith x1 t) M := by
  rcases qa_rng2 x1 (a := 2) (n := 16) (by decide) (by decide) with ⟨Z, h1, h2, eq⟩ | hx
  · subst eq
    obtain ⟨x, ⟨u', A⟩, t', B, C⟩ := qv_mis (h := h) (qk_R I) h1 h2
    refine ⟨x, qw_u1 M 2 u', h, t', ?_, ?_, qv_I_t (fun k hk => qw_u1_n _ u' (by omega)) C I, qw_u1_n _ _ (by decide)⟩
    · unfold qf_X2_missesWith
      rw [qe_isSizeT h1 h2, qa_t1, if_neg (show ¬ nI 1 = 0 by decide), A, qa_t3]
    · unfold qf_X3_missesWith
      rw [qm_inT h1 h2 (by decide), qa_t1, if_neg (show ¬ nI 1 = 0 by decide), B, qa_t2]
  · refine ⟨-1, M, h, t, ?_, ?_, I, rfl⟩
    · unfold qf_X2_missesWith
      rw [qe_isSizeF hx, qa_t1, if_pos (show nI 0 = 0 from rfl)]
    · unfold qf_X3_missesWith
      rw [qm_inF hx, qa_t1, if_pos (show nI 0 = 0 from rfl)]
theorem qv_best {M0 : wM} {h0 : Nat → Nat} {t0 : wm} (R : qs_R (M0 0) (t0 1)) : ∀ (d n i b : Nat) (x : Int32) (u t : wm), 2 ≤ b → b ≤ 16 → 3 ≤ i → i ≤ 17 → 17 - i = d → d < n → t 1 = t0 1 → qv_M M0 h0 t0 b x →
    ∃ (y : Int32) (u' t' : wm), qf_X2_bestSize_10 n (nI b) x (nI i) (qw_u1 M0 2 u) h0 = some (y, qw_u1 M0 2 u', h0) ∧ qf_X3_bestSize_4 n (nI b) (nI i) t = some (y, t') ∧ ∀ c : Nat, c ≠ 5 → c ≠ 6 → t' c = t c := by
  intro d
  induction d with
  | zero =>
    intro n i b x u t hb hb2 hi hi2 hd hn et V
    obtain ⟨n, rfl⟩ : ∃ k, n = k + 1 := ⟨n - 1, by omega⟩
    refine ⟨nI b, u, t, ?_, ?_, fun c _ _ => rfl⟩
    · rw [qf_X2_bestSize_10, if_pos (by rw [qa_lt (by omega) (by omega)]; omega)]
    · rw [qf_X3_bestSize_4, if_pos (by rw [qa_lt (by omega) (by omega)]; omega)]
  | succ d ih =>
    intro n i b x u t hb hb2 hi hi2 hd hn et V
    obtain ⟨n, rfl⟩ : ∃ k, n = k + 1 := ⟨n - 1, by omega⟩
    have R1 : qs_R (qw_u1 M0 2 u 0) (t 1) := by
      rw [qw_u1_n _ _ (by decide), et]
      exact R
    obtain ⟨y, ⟨u1, A1⟩, t1, B1, C1⟩ := qv_mis (h := h0) R1 (show 2 ≤ i by omega) (show i ≤ 16 by omega)
    have e11 : t1 1 = t0 1 := by rw [C1 1 (by decide) (by decide), et]
    have Vy : qv_M (qw_u1 M0 2 u) h0 t i y := ⟨⟨u1, A1⟩, t1, B1, C1⟩
    obtain ⟨z, ⟨u2, A2⟩, t2, B2, C2⟩ := qv_mis (M := M0) (h := h0) (t := t1) (Z := b) (by rw [e11]; exact R) hb hb2
    have ez : x = z := qv_M_eq R hb hb2 rfl e11 V ⟨⟨u2, A2⟩, t2, B2, C2⟩
    have e21 : t2 1 = t0 1 := by rw [C2 1 (by decide) (by decide), e11]
    have Vi : qv_M M0 h0 t0 i y := by
      obtain ⟨w, W⟩ := qv_mis (M := M0) (h := h0) (t := t0) (Z := i) R (by omega) (by omega)
      have := qv_M_eq R (show 2 ≤ i by omega) (show i ≤ 16 by omega) (qw_u1_n _ _ (by decide)) et W Vy
      rw [← this]
      exact W
    rw [qw_u1_u] at A1
    have hc : ∀ c : Nat, c ≠ 5 → c ≠ 6 → t2 c = t c := fun c h5 h6 => by rw [C2 c h5 h6, C1 c h5 h6]
    rw [qf_X2_bestSize_10, qf_X3_bestSize_4, if_neg (by rw [qa_lt (by omega) (by omega)]; omega), if_neg (by rw [qa_lt (by omega) (by omega)]; omega), A1, qa_t3, B1, qa_t2, B2, qa_t2, ← ez]
    simp only [qn_e, nI_add]
    by_cases g : x ≤ y
    · rw [if_pos g, if_pos g]
      obtain ⟨v, u3, t3, k1, k2, k3⟩ := ih n (i + 1) b x u1 t2 hb hb2 (by omega) (by omega) (by omega) (by omega) e21 V
      exact ⟨v, u3, t3, k1, k2, fun c h5 h6 => by rw [k3 c h5 h6, hc c h5 h6]⟩
    · rw [if_neg g, if_neg g]
      obtain ⟨v, u3, t3, k1, k2, k3⟩ := ih n (i + 1) i y u1 t2 (by omega) (by omega) (by omega) (by omega) (by omega) (by omega) e21 Vi
      exact ⟨v, u3, t3, k1, k2, fun c h5 h6 => by rw [k3 c h5 h6, hc c h5 h6]⟩
theorem qk_bestSize {M : wM} {h : Nat → Nat} {t : wm} (I : qv_I M h t) : qv_S (qf_X2_bestSize M h) (qf_X3_bestSize t) M := by
  obtain ⟨x, V⟩ := qv_mis (h := h) (qk_R I) (show 2 ≤ 2 by decide) (show 2 ≤ 16 by decide)
  obtain ⟨u, A⟩ := V.1
  obtain ⟨y, u', t', k1, k2, k3⟩ := qv_best (qk_R I) 14 qfu 3 2 x u t (by decide) (by decide) (by decide) (by decide) (by decide) (by unfold qfu; omega) rfl V
  refine ⟨y, qw_u1 M 2 u', h, t', ?_, k2, qv_I_t (fun k hk => qw_u1_n _ u' (by omega)) k3 I, qw_u1_n _ _ (by decide)⟩
  unfold qf_X2_bestSize
  rw [A, qa_t3]
  exact k1
