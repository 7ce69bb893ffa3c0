/-! what the class's looks answer -/
theorem qd_frame {M : wM} {h : Nat → Nat} {H i w : Nat} (e3 : M 0 0 3 = nI H) (hH : H ≤ 40) (hi : i < H) (hw : w < 5) : qf_X2_frame (nI i) (nI w) M h = some (M 0 (8 + w) (H - 1 - i)) := by
  unfold qf_X2_frame
  rw [if_neg (by rw [qa_l0 (by omega)]; exact fun q => q), qn_e, e3, if_neg (by rw [qa_le (by omega) (by omega)]; omega), if_neg (by rw [qa_l0 (by omega)]; exact fun q => q), if_pos (by rw [qa_lt (by omega) (by omega)]; omega), qa_g (by omega) (by decide), qn_e, qn_e, qa_sub (by omega), qn_e, qa_sub (by omega), qa_g (by omega) (by decide), qn_e, qa_cl (by omega), qa_cl (by omega)]
theorem qd_frameF {M : wM} {h : Nat → Nat} {H : Nat} (e3 : M 0 0 3 = nI H) (hH : H ≤ 40) : qf_X2_frame (nI H) (nI 0) M h = some (-1) := by
  unfold qf_X2_frame
  rw [if_neg (by rw [qa_l0 (by omega)]; exact fun q => q), qn_e, e3, if_pos (by rw [qa_le (by omega) (by omega)]; omega)]
theorem qd_slot {M : wM} {h : Nat → Nat} {Z i w : Nat} (e1 : M 0 0 1 = nI Z) (hZ : Z ≤ 16) (hi : i < Z) (hw : w < 3) : qf_X2_slot (nI i) (nI w) M h = some (M 0 (13 + w) i) := by
  unfold qf_X2_slot
  rw [if_neg (by rw [qa_l0 (by omega)]; exact fun q => q), qn_e, e1, if_neg (by rw [qa_le (by omega) (by omega)]; omega), if_neg (by rw [qa_l0 (by omega)]; exact fun q => q), if_pos (by rw [qa_lt (by omega) (by omega)]; omega), qa_g (by omega) (by decide), qa_g (by omega) (by decide), qn_e, qa_cl (by omega), qa_cl (by omega)]
theorem qd_slotF {M : wM} {h : Nat → Nat} {Z : Nat} (e1 : M 0 0 1 = nI Z) (hZ : Z ≤ 16) : qf_X2_slot (nI Z) (nI 0) M h = some (-1) := by
  unfold qf_X2_slot
  rw [if_neg (by rw [qa_l0 (by omega)]; exact fun q => q), qn_e, e1, if_pos (by rw [qa_le (by omega) (by omega)]; omega)]
theorem qd_conf {M : wM} {h : Nat → Nat} {C i w : Nat} (e6 : M 0 0 6 = nI C) (hC : C ≤ 12) (hi : i < C) (hw : w < 6) : qf_X2_confession (nI i) (nI w) M h = some (M 0 (19 + w) i) := by
  unfold qf_X2_confession
  rw [if_neg (by rw [qa_l0 (by omega)]; exact fun q => q), if_neg (by rw [qa_l0 (by omega)]; exact fun q => q), if_pos (by rw [qa_lt (by omega) (by omega)]; omega), qn_e, e6, if_pos (by rw [qa_lt (by omega) (by omega)]; omega), qa_g (by omega) (by decide), qa_g (by omega) (by decide), qn_e, qa_cl (by omega), qa_cl (by omega)]
theorem qd_confF {M : wM} {h : Nat → Nat} {C : Nat} (e6 : M 0 0 6 = nI C) (hC : C ≤ 12) : qf_X2_confession (nI C) (nI 0) M h = some (-9) := by
  unfold qf_X2_confession
  rw [if_neg (by rw [qa_l0 (by omega)]; exact fun q => q), if_neg (by decide), if_pos (by decide), qn_e, e6, if_neg (by rw [qa_lt (by omega) (by omega)]; omega)]
theorem qd_named {M : wM} {h : Nat → Nat} {N i : Nat} (eN : M 0 1 0 = nI N) (hN : N ≤ 200) (hi : i < N) : qf_X2_named (nI i) M h = some (M 0 3 i) := by
  unfold qf_X2_named
  rw [if_neg (by rw [qa_l0 (by omega)]; exact fun q => q), qn_e, eN, if_pos (by rw [qa_lt (by omega) (by omega)]; omega), qa_g (by omega) (by decide), qn_e, qa_cl (by omega)]
theorem qd_namedF {M : wM} {h : Nat → Nat} {N : Nat} (eN : M 0 1 0 = nI N) (hN : N ≤ 200) : qf_X2_named (nI N) M h = some (-1) := by
  unfold qf_X2_named
  rw [if_neg (by rw [qa_l0 (by omega)]; exact fun q => q), qn_e, eN, if_neg (by rw [qa_lt (by omega) (by omega)]; omega)]
/-- how many of the first i frames are overrun, from below and from above -/
def qd_oc (m : wm) : Nat → Nat
  | 0 => 0
  | i + 1 => qd_oc m i + if m 12 i = -9 then 0 else 1
def qd_ov (m : wm) (H : Nat) : Nat → Nat
  | 0 => 0
  | i + 1 => qd_ov m H i + if m 12 (H - 1 - i) = -9 then 0 else 1
theorem qd_ov_oc (m : wm) (H : Nat) : ∀ i : Nat, i ≤ H → qd_ov m H i + qd_oc m (H - i) = qd_oc m H
  | 0, _ => by
    show 0 + qd_oc m (H - 0) = qd_oc m H
    rw [Nat.zero_add, Nat.sub_zero]
  | i + 1, h => by
    have ih := qd_ov_oc m H i (by omega)
    have e : H - i = (H - (i + 1)) + 1 := by omega
    have e2 : H - 1 - i = H - (i + 1) := by omega
    rw [e] at ih
    show qd_ov m H i + (if m 12 (H - 1 - i) = -9 then 0 else 1) + qd_oc m (H - (i + 1)) = qd_oc m H
    rw [← ih, e2]
    show _ = qd_ov m H i + (qd_oc m (H - (i + 1)) + if m 12 (H - (i + 1)) = -9 then 0 else 1)
    omega
theorem qd_ovH (m : wm) (H : Nat) : qd_ov m H H = qd_oc m H := by
  have h := qd_ov_oc m H H (Nat.le_refl _)
  rw [Nat.sub_self] at h
  exact h
theorem qd_oc_le (m : wm) : ∀ i : Nat, qd_oc m i ≤ i
  | 0 => Nat.le_refl _
  | i + 1 => by
    have ih := qd_oc_le m i
    unfold qd_oc
    split <;> omega
theorem qd_ovr_4 {m : wm} {H : Nat} (e3 : m 0 3 = nI H) (hH : H ≤ 40) : ∀ (d n i : Nat), i ≤ H → H - i = d → d < n → qf_X0_overrunFrames_4 n (nI (qd_oc m i)) (nI i) m = some (nI (qd_oc m H)) := by
  intro d
  induction d with
  | zero =>
    intro n i hi hd hn
    obtain ⟨n, rfl⟩ : ∃ k, n = k + 1 := ⟨n - 1, by omega⟩
    have : i = H := by omega
    subst this
    rw [qf_X0_overrunFrames_4, qn_e, e3, if_pos (by rw [qa_le (by omega) (by omega)]; omega)]
  | succ d ih =>
    intro n i hi hd hn
    obtain ⟨n, rfl⟩ : ∃ k, n = k + 1 := ⟨n - 1, by omega⟩
    rw [qf_X0_overrunFrames_4, qn_e, e3, if_neg (by rw [qa_le (by omega) (by omega)]; omega), qe_isOv (by omega), qa_t1]
    have ih2 := ih n (i + 1) (by omega) (by omega) (by omega)
    by_cases g : m 12 i = -9
    · rw [if_pos g, if_pos (show nI 0 = 0 from rfl), qn_e, nI_add, ← ih2]
      show _ = qf_X0_overrunFrames_4 n (nI (qd_oc m i + if m 12 i = -9 then 0 else 1)) (nI (i + 1)) m
      simp only [if_pos g, Nat.add_zero]
    · rw [if_neg g, if_neg (show ¬ nI 1 = 0 by decide), qn_e, nI_add, qn_e, nI_add, ← ih2]
      show _ = qf_X0_overrunFrames_4 n (nI (qd_oc m i + if m 12 i = -9 then 0 else 1)) (nI (i + 1)) m
      rw [if_neg g]
theorem qd_ovr {m : wm} {H : Nat} (e3 : m 0 3 = nI H) (hH : H ≤ 40) : qf_X0_overrunFrames m = some (nI (qd_oc m H)) := by
  unfold qf_X0_overrunFrames
  exact qd_ovr_4 e3 hH H qfu 0 (by omega) (by omega) (by unfold qfu; omega)
/-- the most named, and who it is, of the first k -/
def qd_wm (w : Nat → Nat) : Nat → Nat
  | 0 => 0
  | k + 1 => if w k ≤ qd_wm w k then qd_wm w k else w k
def qd_ww (w : Nat → Nat) : Nat → Int32
  | 0 => -9
  | k + 1 => if w k ≤ qd_wm w k then qd_ww w k else nI k
theorem qd_wm_lt (w : Nat → Nat) (B : Nat) : ∀ k : Nat, (∀ j : Nat, j < k → w j ≤ B) → qd_wm w k ≤ B
  | 0, _ => Nat.zero_le _
  | k + 1, h => by
    unfold qd_wm
    split
    · exact qd_wm_lt w B k (fun j hj => h j (by omega))
    · exact h k (by omega)
theorem qd_sum_ge (w : Nat → Nat) : ∀ (N j : Nat), j < N → w j ≤ qd_sum w N
  | 0, j, h => by omega
  | N + 1, j, h => by
    show w j ≤ qd_sum w N + w N
    by_cases g : j = N
    · subst g
      omega
    · have := qd_sum_ge w N j (by omega)
      omega
theorem qd_sum_mo (w : Nat → Nat) : ∀ (N j : Nat), j ≤ N → qd_sum w j ≤ qd_sum w N
  | 0, j, h => by
    have : j = 0 := by omega
    subst this
    exact Nat.le_refl _
  | N + 1, j, h => by
    by_cases g : j = N + 1
    · subst g
      exact Nat.le_refl _
    · have := qd_sum_mo w N j (by omega)
      show _ ≤ qd_sum w N + w N
      omega
theorem qd_worst_7 {M : wM} {h : Nat → Nat} {N : Nat} {w : Nat → Nat} (eN : M 0 1 0 = nI N) (hN : N ≤ 200) (hw : ∀ k : Nat, k < N → M 0 3 k = nI (w k) ∧ w k ≤ 1000) : ∀ (d n i : Nat), i ≤ N → N - i = d → d < n → qf_X2_worst_7 n (qd_ww w i) (nI (qd_wm w i)) (nI i) M h = some (qd_ww w N) := by
  intro d
  induction d with
  | zero =>
    intro n i hi hd hn
    obtain ⟨n, rfl⟩ : ∃ k, n = k + 1 := ⟨n - 1, by omega⟩
    have : i = N := by omega
    subst this
    rw [qf_X2_worst_7, qn_e, eN, if_pos (by rw [qa_le (by omega) (by omega)]; omega)]
  | succ d ih =>
    intro n i hi hd hn
    obtain ⟨n, rfl⟩ : ∃ k, n = k + 1 := ⟨n - 1, by omega⟩
    obtain ⟨w1, w2⟩ := hw i (by omega)
    have hm := qd_wm_lt w 1000 i (fun j hj => (hw j (by omega)).2)
    have ih2 := ih n (i + 1) (by omega) (by omega) (by omega)
    rw [qf_X2_worst_7, qn_e, eN, if_neg (by rw [qa_le (by omega) (by omega)]; omega), qa_g (by omega) (by decide), qn_e, qa_cl (by omega), w1, qi_le (by omega) (by omega)]
    rw [← ih2]
    show _ = qf_X2_worst_7 n (if w i ≤ qd_wm w i then qd_ww w i else nI i) (nI (if w i ≤ qd_wm w i then qd_wm w i else w i)) (nI (i + 1)) M h
    by_cases g : w i ≤ qd_wm w i
    · rw [if_pos g, if_pos g, if_pos g, qn_e, nI_add]
    · rw [if_neg g, if_neg g, if_neg g, qa_g (by omega) (by decide), qn_e, qn_e, nI_add, ← w1]
theorem qd_worst {M : wM} {h : Nat → Nat} {N : Nat} {w : Nat → Nat} (eN : M 0 1 0 = nI N) (hN : N ≤ 200) (hw : ∀ k : Nat, k < N → M 0 3 k = nI (w k) ∧ w k ≤ 1000) : qf_X2_worst M h = some (qd_ww w N) := by
  unfold qf_X2_worst
  exact qd_worst_7 eN hN hw N qfu 0 (by omega) (by omega) (by unfold qfu; omega)
/-! the law's looks, loop by loop -/
set_option maxHeartbeats 1000000 in
theorem ql_is_19 {M : wM} {h : Nat → Nat} {H : Nat} {x7 x8 x9 : Int32} (e3 : M 0 0 3 = nI H) (t0 : M 9 1 0 = nI H) (hH : H ≤ 40) (F : qd_F (M 0) (M 9) H) : ∀ (d n i : Nat), i ≤ H → H - i = d → d < n →
    qf_L_isSo_19 n (nI (qd_ov (M 0) H i)) x7 x8 x9 (nI 1) (nI i) M h = qf_L_isSo_172 (nI (qd_ov (M 0) H H)) x7 x8 x9 (nI 1) M h := by
  intro d
  induction d with
  | zero =>
    intro n i hi hd hn
    obtain ⟨n, rfl⟩ : ∃ k, n = k + 1 := ⟨n - 1, by omega⟩
    have : i = H := by omega
    subst this
    rw [qf_L_isSo_19, qn_e, t0, if_pos (by rw [qa_le (by omega) (by omega)]; omega)]
  | succ d ih =>
    intro n i hi hd hn
    obtain ⟨n, rfl⟩ : ∃ k, n = k + 1 := ⟨n - 1, by omega⟩
    have ih2 := ih n (i + 1) (by omega) (by omega) (by omega)
    obtain ⟨a, b, c, dd, e, ⟨ha, hb, hc, hdd, he, he9⟩, f1, f2, f3, f4, f5, f6⟩ := F (H - 1 - i) (by omega)
    have hlt := qd_pk_lt ha hb hc hdd he
    have k0 : lN (qd_pk a b c dd e) &&& 255 = lN a := by rw [qd_m255 hlt, qd_pk_a ha]
    have k1 : (lN (qd_pk a b c dd e) >>> ((nI 8).toInt64 &&& 63)) &&& 15 = lN b := by rw [qd_shr (by decide) hlt, qd_m15 (qd_dlt 8 hlt), qd_pk_b ha hb]
    have k2 : (lN (qd_pk a b c dd e) >>> ((nI 12).toInt64 &&& 63)) &&& 1023 = lN c := by rw [qd_shr (by decide) hlt, qd_m1023 (qd_dlt 12 hlt), qd_pk_c ha hb hc]
    have k3 : (lN (qd_pk a b c dd e) >>> ((nI 22).toInt64 &&& 63)) &&& 15 = lN dd := by rw [qd_shr (by decide) hlt, qd_m15 (qd_dlt 22 hlt), qd_pk_d ha hb hc hdd]
    have q0 : qf_X2_frame (nI i) (nI 0) M h = some (nI a) := by rw [qd_frame e3 hH (by omega) (by decide), f1]
    have q1 : qf_X2_frame (nI i) (nI 1) M h = some (nI b) := by rw [qd_frame e3 hH (by omega) (by decide), f2]
    have q2 : qf_X2_frame (nI i) (nI 2) M h = some (nI c) := by rw [qd_frame e3 hH (by omega) (by decide), f3]
    have q3 : qf_X2_frame (nI i) (nI 3) M h = some (nI dd) := by rw [qd_frame e3 hH (by omega) (by decide), f4]
    have q4 : qf_X2_frame (nI i) (nI 4) M h = some (nI e - nI 9) := by rw [qd_frame e3 hH (by omega) (by decide), f5]
    rw [qf_L_isSo_19, qn_e, t0, if_neg (by rw [qa_le (by omega) (by omega)]; omega), if_neg (by decide), qn_e, qn_e, qa_sub (by omega), qn_e, qa_sub (by omega), qa_g (by omega) (by decide), qn_e, qa_cl (by omega), f6, qd_by hlt, qd_pk_e ha hb hc hdd, qa_t1]
    rw [← ih2]
    show _ = qf_L_isSo_19 n (nI (qd_ov (M 0) H i + if M 0 12 (H - 1 - i) = -9 then 0 else 1)) x7 x8 x9 (nI 1) (nI (i + 1)) M h
    rcases qd_n9 (show e < 1000000 by omega) he9 with ⟨w, w2⟩ | ⟨w, w2⟩
    · rw [if_pos (by rw [qd_lt9 (by omega) he9]; exact w), f5, if_pos w2]
      rw [qn_e, nI_add, q0, qa_t1, qn_e, qn_e, k0, nI_l (by omega), qn_e, qd_cmp, if_pos rfl, q1, qa_t1, qn_e, qn_e, qn_e, k1, nI_l (n := b) (by omega), qn_e, qd_cmp, if_pos rfl, q2, qa_t1, qn_e, qn_e, qn_e, k2, nI_l (n := c) (by omega), qn_e, qd_cmp, if_pos rfl, q3, qa_t1, qn_e, qn_e, qn_e, k3, nI_l (n := dd) (by omega), qn_e, qd_cmp, if_pos rfl, q4, qa_t1, if_pos rfl, qn_e, nI_add]
    · rw [if_neg (by rw [qd_lt9 (by omega) he9]; omega), f5, if_neg (by rw [w2, qa_n9 (by omega)]; exact fun q => q)]
      rw [qn_e, nI_add, q0, qa_t1, qn_e, qn_e, k0, nI_l (by omega), qn_e, qd_cmp, if_pos rfl, q1, qa_t1, qn_e, qn_e, qn_e, k1, nI_l (n := b) (by omega), qn_e, qd_cmp, if_pos rfl, q2, qa_t1, qn_e, qn_e, qn_e, k2, nI_l (n := c) (by omega), qn_e, qd_cmp, if_pos rfl, q3, qa_t1, qn_e, qn_e, qn_e, k3, nI_l (n := dd) (by omega), qn_e, qd_cmp, if_pos rfl, q4, qa_t1, if_pos rfl, qn_e, nI_add]
theorem ql_is_175 {M : wM} {h : Nat → Nat} {Z : Nat} {x6 x7 x8 x9 : Int32} (e1 : M 0 0 1 = nI Z) (t11 : M 9 1 11 = nI Z) (hZ : Z ≤ 16) (Sl : qd_S (M 0) (M 9)) : ∀ (d n i : Nat), i ≤ 3 * Z → 3 * Z - i = d → d < n →
    qf_L_isSo_175 n x6 x7 x8 x9 (nI 1) (nI i) M h = qf_L_isSo_223 x6 x7 x8 x9 (nI 1) M h := by
  intro d
  induction d with
  | zero =>
    intro n i hi hd hn
    obtain ⟨n, rfl⟩ : ∃ k, n = k + 1 := ⟨n - 1, by omega⟩
    rw [qf_L_isSo_175, qn_e, t11, qn_e, pk_mul, if_pos (by rw [qa_le (by omega) (by omega)]; omega)]
  | succ d ih =>
    intro n i hi hd hn
    obtain ⟨n, rfl⟩ : ∃ k, n = k + 1 := ⟨n - 1, by omega⟩
    have ih2 := ih n (i + 1) (by omega) (by omega) (by omega)
    obtain ⟨s1, s2, s3, -⟩ := Sl (i / 3) (by omega)
    have hv : M 0 (13 + i % 3) (i / 3) = M 9 3 i := by
      rcases (show i % 3 = 0 ∨ i % 3 = 1 ∨ i % 3 = 2 by omega) with g | g | g
      · rw [g, ← s1]
        exact congrArg (M 9 3) (by omega)
      · rw [g, ← s2]
        exact congrArg (M 9 3) (by omega)
      · rw [g, ← s3]
        exact congrArg (M 9 3) (by omega)
    rw [qf_L_isSo_175, qn_e, t11, qn_e, pk_mul, if_neg (by rw [qa_le (by omega) (by omega)]; omega), if_neg (by decide), qn_e, qn_e, qa_rem (by omega) (by omega) (by omega), pk_div (by omega) (by omega) (by omega), qd_slot e1 hZ (by omega) (by omega), qa_t1, qa_g (by omega) (by decide), qn_e, qa_cl (by omega), hv, if_pos rfl, qn_e, nI_add, ih2]
theorem qd_cpk_k {k u a g c s : Nat} (hk : k < 4) : qd_cpk k u a g c s % 4 = k := by
  unfold qd_cpk
  omega
theorem qd_cpk_u {k u a g c s : Nat} (hk : k < 4) (hu : u < 209) : qd_cpk k u a g c s / 2 ^ 2 % 256 = u := by
  unfold qd_cpk
  omega
theorem qd_cpk_a {k u a g c s : Nat} (hk : k < 4) (hu : u < 209) (ha : a < 200) : qd_cpk k u a g c s / 2 ^ 10 % 256 = a := by
  unfold qd_cpk
  omega
theorem qd_cpk_g {k u a g c s : Nat} (hk : k < 4) (hu : u < 209) (ha : a < 200) (hg : g < 1009) : qd_cpk k u a g c s / 2 ^ 18 % 1024 = g := by
  unfold qd_cpk
  omega
theorem qd_cpk_c {k u a g c s : Nat} (hk : k < 4) (hu : u < 209) (ha : a < 200) (hg : g < 1009) (hc : c < 1000) : qd_cpk k u a g c s / 2 ^ 28 % 1024 = c := by
  unfold qd_cpk
  omega
theorem qd_cpk_s {k u a g c s : Nat} (hk : k < 4) (hu : u < 209) (ha : a < 200) (hg : g < 1009) (hc : c < 1000) : qd_cpk k u a g c s / 2 ^ 38 = s := by
  unfold qd_cpk
  omega
theorem qd_cpk_lt {k u a g c s : Nat} (hk : k < 4) (hu : u < 209) (ha : a < 200) (hg : g < 1009) (hc : c < 1000) (hs : s < 200) : qd_cpk k u a g c s < 4611686018427387904 := by
  unfold qd_cpk
  omega
set_option maxHeartbeats 1000000 in
theorem ql_is_246 {M : wM} {h : Nat → Nat} {C K : Nat} {x6 x7 x8 x9 : Int32} (e6 : M 0 0 6 = nI C) (t10 : M 9 1 10 = nI K) (hC : C ≤ 12) (hK : K < 64) (hCK : C ≤ K) (Cf : ∀ j : Nat, j < C → qd_cf (M 0) j (qj_l (M 9 5) (K - 1 - j))) : ∀ (d n i : Nat), i ≤ C → C - i = d → d < n →
    qf_L_isSo_246 n x6 x7 x8 x9 (nI 1) (nI C) (nI i) M h = qf_L_isSo_411 x6 x7 x8 x9 (nI 1) (nI C) M h := by
  intro d
  induction d with
  | zero =>
    intro n i hi hd hn
    obtain ⟨n, rfl⟩ : ∃ k, n = k + 1 := ⟨n - 1, by omega⟩
    rw [qf_L_isSo_246, if_pos (by rw [qa_le (by omega) (by omega)]; omega)]
  | succ d ih =>
    intro n i hi hd hn
    obtain ⟨n, rfl⟩ : ∃ k, n = k + 1 := ⟨n - 1, by omega⟩
    have ih2 := ih n (i + 1) (by omega) (by omega) (by omega)
    obtain ⟨k, u, a, g, c, s, ⟨hk, hu, ha, hg, hc, hs⟩, f1, f2, f3, f4, f5, f6, f7⟩ := Cf i (by omega)
    have hlt := qd_cpk_lt hk hu ha hg hc hs
    have k0 : lN (qd_cpk k u a g c s) &&& 3 = lN k := by rw [qd_m3 hlt, qd_cpk_k hk]
    have k1 : (lN (qd_cpk k u a g c s) >>> ((nI 2).toInt64 &&& 63)) &&& 255 = lN u := by rw [qd_shr (by decide) hlt, qd_m255 (qd_dlt 2 hlt), qd_cpk_u hk hu]
    have k2 : (lN (qd_cpk k u a g c s) >>> ((nI 10).toInt64 &&& 63)) &&& 255 = lN a := by rw [qd_shr (by decide) hlt, qd_m255 (qd_dlt 10 hlt), qd_cpk_a hk hu ha]
    have k3 : (lN (qd_cpk k u a g c s) >>> ((nI 18).toInt64 &&& 63)) &&& 1023 = lN g := by rw [qd_shr (by decide) hlt, qd_m1023 (qd_dlt 18 hlt), qd_cpk_g hk hu ha hg]
    have k4 : (lN (qd_cpk k u a g c s) >>> ((nI 28).toInt64 &&& 63)) &&& 1023 = lN c := by rw [qd_shr (by decide) hlt, qd_m1023 (qd_dlt 28 hlt), qd_cpk_c hk hu ha hg hc]
    have k5 : (lN (qd_cpk k u a g c s) >>> ((nI 38).toInt64 &&& 63)) = lN s := by rw [qd_shr (by decide) hlt, qd_cpk_s hk hu ha hg hc]
    have q0 : qf_X2_confession (nI i) (nI 0) M h = some (nI k) := by rw [qd_conf e6 hC (by omega) (by decide), f1]
    have q1 : qf_X2_confession (nI i) (nI 1) M h = some (nI u - nI 9) := by rw [qd_conf e6 hC (by omega) (by decide), f2]
    have q2 : qf_X2_confession (nI i) (nI 2) M h = some (nI a) := by rw [qd_conf e6 hC (by omega) (by decide), f3]
    have q3 : qf_X2_confession (nI i) (nI 3) M h = some (nI g - nI 9) := by rw [qd_conf e6 hC (by omega) (by decide), f4]
    have q4 : qf_X2_confession (nI i) (nI 4) M h = some (nI c) := by rw [qd_conf e6 hC (by omega) (by decide), f5]
    have q5 : qf_X2_confession (nI i) (nI 5) M h = some (nI s) := by rw [qd_conf e6 hC (by omega) (by decide), f6]
    rw [qf_L_isSo_246, if_neg (by rw [qa_le (by omega) (by omega)]; omega), if_neg (by decide), qn_e, t10, qn_e, qa_sub (by omega), qn_e, qa_sub (by omega), qa_g (by omega) (by decide), qn_e, qa_cl (by omega), f7]
    rw [q0, qa_t1, qn_e, qn_e, k0, nI_l (n := k) (by omega), qn_e, qd_cmp, if_pos rfl, q1, qa_t1, qn_e, qd_l9 (by omega), qn_e, qn_e, k1, qn_e, qn_e, qd_cmp, if_pos rfl, q2, qa_t1, qn_e, qn_e, qn_e, k2, nI_l (n := a) (by omega), qn_e, qd_cmp, if_pos rfl, q3, qa_t1, qn_e, qd_l9 (by omega), qn_e, qn_e, k3, qn_e, qn_e, qd_cmp, if_pos rfl, q4, qa_t1, qn_e, qn_e, qn_e, k4, nI_l (n := c) (by omega), qn_e, qd_cmp, if_pos rfl, q5, qa_t1, qn_e, qn_e, k5, nI_l (n := s) (by omega), qn_e, qd_cmp, if_pos rfl, qn_e, nI_add, ih2]
