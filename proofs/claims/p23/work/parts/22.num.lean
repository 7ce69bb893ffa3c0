/-! longs out of a few fields (the first rows began as the kit's family wb_, pf_) -/
theorem wb_tb (n : Nat) : (lN n).toBitVec = BitVec.ofNat 64 n := rfl
theorem wb_inj {a b : Int64} (h : a.toBitVec = b.toBitVec) : a = b := Int64.toBitVec_inj.mp h
theorem wb_of32 (x : Int32) : ∃ n, n < 2 ^ 32 ∧ x = nI n := ⟨x.toBitVec.toNat, x.toBitVec.isLt, Int32.toBitVec_inj.mp (by show _ = BitVec.ofNat 32 _; simp)⟩
theorem wb_c : ∀ k, k < 64 → ((nI k).toInt64 &&& 63) = lN k := by decide +kernel
theorem wb_sm : ∀ k, k < 64 → (BitVec.ofNat 64 k).smod 64 = BitVec.ofNat 64 k := by decide +kernel
theorem wb_lt2 {a b : Nat} (h : a < b) : 2 ^ a < 2 ^ b := Nat.pow_lt_pow_right (by decide) h
theorem wb_shl (n : Nat) {k : Nat} (hk : k < 64) : lN n <<< ((nI k).toInt64 &&& 63) = lN (n * 2 ^ k) := by
  rw [wb_c k hk]
  apply wb_inj
  rw [Int64.toBitVec_shiftLeft, wb_tb, wb_tb, wb_tb, wb_sm k hk]
  apply BitVec.eq_of_toNat_eq
  rw [BitVec.shiftLeft_eq', BitVec.toNat_shiftLeft, BitVec.toNat_ofNat, BitVec.toNat_ofNat, BitVec.toNat_ofNat, Nat.mod_eq_of_lt (show k < 2 ^ 64 by omega), Nat.shiftLeft_eq, Nat.mul_mod, Nat.mod_mod, ← Nat.mul_mod]
theorem wb_and {a b : Nat} (ha : a < 2 ^ 64) (hb : b < 2 ^ 64) : lN a &&& lN b = lN (a &&& b) := by
  apply wb_inj
  rw [Int64.toBitVec_and, wb_tb, wb_tb, wb_tb]
  apply BitVec.eq_of_toNat_eq
  rw [BitVec.toNat_and, BitVec.toNat_ofNat, BitVec.toNat_ofNat, BitVec.toNat_ofNat, Nat.mod_eq_of_lt ha, Nat.mod_eq_of_lt hb, Nat.mod_eq_of_lt (Nat.and_lt_two_pow _ hb)]
theorem wb_or {a b : Nat} (ha : a < 2 ^ 64) (hb : b < 2 ^ 64) : lN a ||| lN b = lN (a ||| b) := by
  apply wb_inj
  rw [Int64.toBitVec_or, wb_tb, wb_tb, wb_tb]
  apply BitVec.eq_of_toNat_eq
  rw [BitVec.toNat_or, BitVec.toNat_ofNat, BitVec.toNat_ofNat, BitVec.toNat_ofNat, Nat.mod_eq_of_lt ha, Nat.mod_eq_of_lt hb, Nat.mod_eq_of_lt (Nat.or_lt_two_pow ha hb)]
theorem wb_mask {n k : Nat} (hn : n < 2 ^ 64) (hk : k < 64) : lN n &&& lN (2 ^ k - 1) = lN (n % 2 ^ k) := by
  rw [wb_and hn (by have := wb_lt2 hk; omega), Nat.and_two_pow_sub_one_eq_mod]
theorem pf_lI {a : Nat} (h : a < 2 ^ 63) : (lN a).toInt = (a : Int) := lg_ofNat_toInt h
theorem pf_shr {a d : Nat} {D : Int64} (hD : (D.toBitVec.smod 64).toNat = d) (h : a < 2 ^ 62) : lN a >>> D = lN (a / 2 ^ d) := by
  have hd : a / 2 ^ d ≤ a := Nat.div_le_self _ _
  apply Int64.toInt_inj.mp
  have e : (lN a >>> D).toInt = (lN a).toInt >>> d := by
    rw [← hD]
    exact BitVec.toInt_sshiftRight ..
  rw [e, Int.shiftRight_eq_div_pow, pf_lI (by omega), pf_lI (by omega)]
  norm_cast
theorem fb_bmodL {z : Int} (h1 : -9223372036854775808 ≤ z) (h2 : z < 9223372036854775808) : z.bmod (2 ^ 64) = z := by
  rw [Int.bmod_eq_of_le (by omega) (by omega)]
theorem fb_bmod {z : Int} (h1 : -2147483648 ≤ z) (h2 : z < 2147483648) : z.bmod (2 ^ 32) = z := by
  rw [Int.bmod_eq_of_le (by omega) (by omega)]
theorem fb_addL {x y : Int64} (h1 : -9223372036854775808 ≤ x.toInt + y.toInt) (h2 : x.toInt + y.toInt < 9223372036854775808) : (x + y).toInt = x.toInt + y.toInt := by
  rw [Int64.toInt_add, fb_bmodL h1 h2]
theorem fb_subL {x y : Int64} (h1 : -9223372036854775808 ≤ x.toInt - y.toInt) (h2 : x.toInt - y.toInt < 9223372036854775808) : (x - y).toInt = x.toInt - y.toInt := by
  rw [Int64.toInt_sub, fb_bmodL h1 h2]
theorem fb_subI {x y : Int32} (h1 : -2147483648 ≤ x.toInt - y.toInt) (h2 : x.toInt - y.toInt < 2147483648) : (x - y).toInt = x.toInt - y.toInt := by
  rw [Int32.toInt_sub, fb_bmod h1 h2]
/-! mine -/
theorem qd_shr {a k : Nat} (hk : k < 64) (h : a < 4611686018427387904) : lN a >>> ((nI k).toInt64 &&& 63) = lN (a / 2 ^ k) := pf_shr (by rw [wb_c k hk, wb_tb, wb_sm k hk, BitVec.toNat_ofNat]; omega) h
theorem qd_or {a b k : Nat} (ha : a < 2 ^ k) (h1 : a < 2 ^ 64) (h2 : b * 2 ^ k < 2 ^ 64) : lN a ||| lN (b * 2 ^ k) = lN (a + b * 2 ^ k) := by
  rw [wb_or h1 h2, Nat.or_comm, Nat.mul_comm, ← Nat.two_pow_add_eq_or_of_lt ha, Nat.add_comm]
theorem qd_s9 {e : Nat} (h : e < 1000000) : (nI e - nI 9).toInt = (e : Int) - 9 := by
  have e9 : (nI 9).toInt = 9 := by decide
  rw [fb_subI (by rw [qa_ti (by omega), e9]; omega) (by rw [qa_ti (by omega), e9]; omega), qa_ti (by omega), e9]
theorem qd_l9 {e : Nat} (h : e < 1000000) : (nI e - nI 9).toInt64 = lN e - 9 := by
  apply Int64.toInt_inj.mp
  have e9 : (9 : Int64).toInt = 9 := by decide
  rw [Int32.toInt_toInt64, qd_s9 h, fb_subL (by rw [pf_lI (by omega), e9]; omega) (by rw [pf_lI (by omega), e9]; omega), pf_lI (by omega), e9]
theorem qd_p9 {e : Nat} (h : e < 1000000) : (nI e - nI 9).toInt64 + 9 = lN e := by
  apply Int64.toInt_inj.mp
  have e9 : (9 : Int64).toInt = 9 := by decide
  rw [fb_addL (by rw [Int32.toInt_toInt64, qd_s9 h, e9]; omega) (by rw [Int32.toInt_toInt64, qd_s9 h, e9]; omega), Int32.toInt_toInt64, qd_s9 h, e9, pf_lI (by omega)]
  omega
/-- a number that may be none: none, or q -/
theorem qd_n9 {e : Nat} (h : e < 1000000) (h2 : e = 0 ∨ 9 ≤ e) : (e = 0 ∧ nI e - nI 9 = -9) ∨ (9 ≤ e ∧ nI e - nI 9 = nI (e - 9)) := by
  rcases h2 with h2 | h2
  · subst h2
    exact Or.inl ⟨rfl, by decide⟩
  · exact Or.inr ⟨h2, qa_sub h2⟩
theorem qd_9n {x : Int32} {N : Nat} (h : x = -9 ∨ ∃ q : Nat, x = nI q ∧ q < N) : ∃ e : Nat, (e = 0 ∨ 9 ≤ e) ∧ e < N + 9 ∧ x = nI e - nI 9 := by
  rcases h with h | ⟨q, h, hq⟩
  · exact ⟨0, Or.inl rfl, by omega, by rw [h]; decide⟩
  · exact ⟨q + 9, Or.inr (by omega), by omega, by rw [h, qa_sub (by omega), Nat.add_sub_cancel]⟩
theorem qd_lt9 {e : Nat} (h : e < 1000000) (h2 : e = 0 ∨ 9 ≤ e) : (nI e - nI 9 < 0) = (e = 0) := by
  apply propext
  rw [qa_lt_iff, qd_s9 h]
  have e0 : (0 : Int32).toInt = 0 := by decide
  omega
theorem qd_le9 {e : Nat} (h : e < 1000000) (h2 : e = 0 ∨ 9 ≤ e) : (0 ≤ nI e - nI 9) = (9 ≤ e) := by
  apply propext
  rw [qa_le_iff, qd_s9 h]
  have e0 : (0 : Int32).toInt = 0 := by decide
  omega
theorem qd_by {x : Nat} (h : x < 4611686018427387904) : qf_L_by (lN x) = some (nI (x / 67108864) - nI 9) := by
  unfold qf_L_by
  rw [qn_e, qd_shr (by decide) h, qn_e, lN_i, qn_e]
theorem qd_and {x k : Nat} {y : Int64} (hy : y = lN (2 ^ k - 1)) (h : x < 4611686018427387904) (hk : k < 64) : lN x &&& y = lN (x % 2 ^ k) := by
  rw [hy, wb_mask (by omega) hk]
theorem qd_0 (x : Nat) : lN x + lN 0 = lN x := by rw [lN_add, Nat.add_zero]
theorem qd_m3 {x : Nat} (h : x < 4611686018427387904) : lN x &&& 3 = lN (x % 4) := qd_and (k := 2) rfl h (by decide)
theorem qd_m15 {x : Nat} (h : x < 4611686018427387904) : lN x &&& 15 = lN (x % 16) := qd_and (k := 4) rfl h (by decide)
theorem qd_m255 {x : Nat} (h : x < 4611686018427387904) : lN x &&& 255 = lN (x % 256) := qd_and (k := 8) rfl h (by decide)
theorem qd_m1023 {x : Nat} (h : x < 4611686018427387904) : lN x &&& 1023 = lN (x % 1024) := qd_and (k := 10) rfl h (by decide)
theorem qd_dlt {x : Nat} (k : Nat) (h : x < 4611686018427387904) : x / 2 ^ k < 4611686018427387904 := Nat.lt_of_le_of_lt (Nat.div_le_self _ _) h
theorem qd_cmp (x : Int64) : lg_cmp x x = 0 := by
  unfold lg_cmp
  rw [if_neg Int64.lt_irrefl, if_pos rfl]
theorem qd_cmp0 {x y : Int64} : lg_cmp x y = 0 ↔ x = y := by
  unfold lg_cmp
  by_cases h : x > y
  · rw [if_pos h]
    refine ⟨fun q => absurd q (by decide), fun q => ?_⟩
    subst q
    exact absurd h Int64.lt_irrefl
  · rw [if_neg h]
    by_cases g : x = y
    · rw [if_pos g]
      exact ⟨fun _ => g, fun _ => rfl⟩
    · rw [if_neg g]
      exact ⟨fun q => absurd q (by decide), fun q => absurd q g⟩
theorem qd_i31 (x : Int32) : ∃ q : Nat, q < 2147483648 ∧ x &&& (2147483647 : Int32) = nI q := by
  obtain ⟨n, hn, e⟩ := wb_of32 x
  refine ⟨n % 2147483648, Nat.mod_lt _ (by decide), ?_⟩
  subst e
  apply Int32.toBitVec_inj.mp
  rw [Int32.toBitVec_and]
  apply BitVec.eq_of_toNat_eq
  rw [BitVec.toNat_and]
  show (BitVec.ofNat 32 n).toNat &&& (BitVec.ofNat 32 2147483647).toNat = (BitVec.ofNat 32 (n % 2147483648)).toNat
  rw [BitVec.toNat_ofNat, BitVec.toNat_ofNat, BitVec.toNat_ofNat, Nat.mod_eq_of_lt (show n < 2 ^ 32 from hn), Nat.mod_eq_of_lt (show 2147483647 < 2 ^ 32 by decide), Nat.mod_eq_of_lt (show n % 2147483648 < 2 ^ 32 by omega)]
  exact Nat.and_two_pow_sub_one_eq_mod n 31
theorem qd_low (x : Int32) {y : Int32} {n : Nat} (hy : y = nI n) (h0 : 0 < n) (hn : n < 2147483648) : ∃ q : Nat, q < n ∧ qf_L_low x y = some (nI q) := by
  obtain ⟨q, hq, e⟩ := qd_i31 x
  subst hy
  refine ⟨q % n, Nat.mod_lt _ h0, ?_⟩
  unfold qf_L_low
  rw [qn_e, e, qa_gn h0 hn, qn_e, qa_rem hq h0 hn]
/-- the frame's fields in one number -/
def qd_pk (a b c d e : Nat) : Nat := a + b * 2 ^ 8 + c * 2 ^ 12 + d * 2 ^ 22 + e * 2 ^ 26
theorem qd_tl : ∀ b : Nat, b < 16 → ∀ b2 : Nat, b2 < 16 → ((nI b2 - nI b) <<< ((nI 8) &&& 31)).toInt64 = lN (b2 * 256) - lN (b * 256) := by decide +kernel
theorem qd_ac (x y z : Int64) : (x + y) + (z - y) = x + z := by
  apply wb_inj
  simp only [Int64.toBitVec_add, Int64.toBitVec_sub]
  rw [BitVec.add_assoc, BitVec.add_comm y.toBitVec, BitVec.sub_add_cancel]
theorem qd_tail {a b b2 c d e : Nat} (hb : b < 16) (hb2 : b2 < 16) : lN (qd_pk a b c d e) + ((nI b2 - nI b) <<< ((nI 8) &&& 31)).toInt64 = lN (qd_pk a b2 c d e) := by
  rw [qd_tl b hb b2 hb2, show qd_pk a b c d e = (a + c * 2 ^ 12 + d * 2 ^ 22 + e * 2 ^ 26) + b * 256 by unfold qd_pk; omega, ← lN_add, qd_ac, lN_add]
  exact congrArg lN (by unfold qd_pk; omega)
theorem qd_pack {a b c d : Nat} (ha : a < 256) (hb : b < 16) (hc : c < 1024) (hd : d < 16) : (nI a).toInt64 ||| ((nI b).toInt64 <<< ((nI 8).toInt64 &&& 63)) ||| ((nI c).toInt64 <<< ((nI 12).toInt64 &&& 63)) ||| ((nI d).toInt64 <<< ((nI 22).toInt64 &&& 63)) = lN (qd_pk a b c d 0) := by
  rw [nI_l (n := a) (by omega), nI_l (n := b) (by omega), nI_l (n := c) (by omega), nI_l (n := d) (by omega), wb_shl _ (by decide), wb_shl _ (by decide), wb_shl _ (by decide), qd_or (by omega) (by omega) (by omega), qd_or (by omega) (by omega) (by omega), qd_or (by omega) (by omega) (by omega)]
  exact congrArg lN (by unfold qd_pk; omega)
/-- the confession's fields in one number -/
def qd_cpk (k u a g c s : Nat) : Nat := k + u * 2 ^ 2 + a * 2 ^ 10 + g * 2 ^ 18 + c * 2 ^ 28 + s * 2 ^ 38
theorem qd_cpack {k u a g c s : Nat} (hk : k < 4) (hu : u < 256) (ha : a < 256) (hg : g < 1024) (hc : c < 1024) (hs : s < 256) :
    lN k ||| (lN u <<< ((nI 2).toInt64 &&& 63)) ||| ((nI a).toInt64 <<< ((nI 10).toInt64 &&& 63)) ||| (lN g <<< ((nI 18).toInt64 &&& 63)) ||| ((nI c).toInt64 <<< ((nI 28).toInt64 &&& 63)) ||| ((nI s).toInt64 <<< ((nI 38).toInt64 &&& 63)) = lN (qd_cpk k u a g c s) := by
  rw [nI_l (n := a) (by omega), nI_l (n := c) (by omega), nI_l (n := s) (by omega), wb_shl _ (by decide), wb_shl _ (by decide), wb_shl _ (by decide), wb_shl _ (by decide), wb_shl _ (by decide), qd_or (by omega) (by omega) (by omega), qd_or (by omega) (by omega) (by omega), qd_or (by omega) (by omega) (by omega), qd_or (by omega) (by omega) (by omega), qd_or (by omega) (by omega) (by omega)]
  exact congrArg lN (by unfold qd_cpk; omega)
