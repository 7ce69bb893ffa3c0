abbrev wM : Type := Nat → Nat → Nat → Int32
abbrev wm : Type := Nat → Nat → Int32
abbrev wL : Type := va_G × ClassId × ClassId × ClassId × ClassId × (Nat → Nat → Nat) × List (Nat × Nat)
def qw_ad (L : wL) (k c : Nat) : Nat := L.2.2.2.2.2.1 k c
abbrev qw_cl (L : wL) : List (Nat × Nat) := L.2.2.2.2.2.2
def qw_in (L : wL) (k c : Nat) : Prop := (k, c) ∈ qw_cl L
def qw_u1 (M : wM) (k : Nat) (m : wm) : wM := fun x => if x = k then m else M x
def qw_uc (m : wm) (c : Nat) (f : Nat → Int32) : wm := fun x => if x = c then f else m x
def qw_u2 (m : wm) (c i : Nat) (v : Int32) : wm := qw_uc m c (upd (m c) i v)
theorem qw_u1s (M : wM) (k : Nat) (m : wm) : qw_u1 M k m k = m := if_pos rfl
theorem qw_u1n (M : wM) {k j : Nat} (m : wm) (h : j ≠ k) : qw_u1 M k m j = M j := if_neg h
theorem qw_u11 (M : wM) (k : Nat) (m m' : wm) : qw_u1 (qw_u1 M k m) k m' = qw_u1 M k m' := by
  funext x
  by_cases h : x = k
  · simp [qw_u1, h]
  · simp [qw_u1, h]
theorem qw_u1i (M : wM) (k : Nat) : qw_u1 M k (M k) = M := by
  funext x
  by_cases h : x = k
  · simp [qw_u1, h]
  · simp [qw_u1, h]
theorem qw_ucs (m : wm) (c : Nat) (f : Nat → Int32) : qw_uc m c f c = f := if_pos rfl
theorem qw_ucn (m : wm) {c x : Nat} (f : Nat → Int32) (h : x ≠ c) : qw_uc m c f x = m x := if_neg h
theorem qw_u2_at (m : wm) (c i : Nat) (v : Int32) (x y : Nat) : qw_u2 m c i v x y = if x = c ∧ y = i then v else m x y := by
  by_cases h : x = c
  · subst h
    by_cases h2 : y = i
    · simp [qw_u2, qw_uc, upd, h2]
    · simp [qw_u2, qw_uc, upd, h2]
  · simp [qw_u2, qw_uc, h]
abbrev qw_T (L : wL) : List (ClassId × FieldType) := [(L.2.1, .int), (L.2.2.1, .object "ReturnPile$State"), (L.2.2.2.1, .array .int), (L.2.2.2.2.1, .long)]
/-- the state k is there, the pile is there, the reference is there -/
def qw_k (L : wL) (k : Nat) : Prop := k < 8 ∧ ∀ c : Nat, c < 25 → qw_in L k c
def qw_8 (L : wL) : Prop := ∀ c : Nat, c < 4 → qw_in L 8 c
def qw_9 (L : wL) : Prop := ∀ c : Nat, 1 ≤ c → c < 7 → qw_in L 9 c
def qw_R (L : wL) : Prop := qw_8 L ∧ ∀ k : Nat, k < 8 → qw_k L k
def qw_lnS (c : Nat) : Nat := if c < 3 then 4 else if c = 3 then 200 else if c < 13 then 40 else if c < 16 then 16 else if c < 19 then 200 else 12
def qw_ln9 (c : Nat) : Nat := if c = 1 then 15 else if c = 2 then 40 else if c = 3 then 48 else 64
/-- a long out of two ints, and its way back: the law's arrays of longs, f (9, 2) and c (9, 5) -/
def qj_l (f : Nat → Int32) (i : Nat) : Int64 := Int64.ofBitVec ((f (2 * i + 1)).toBitVec ++ (f (2 * i)).toBitVec)
def qj_s (f : Nat → Int32) (i : Nat) (x : Int64) : Nat → Int32 := fun j => if j = 2 * i then Int32.ofBitVec (x.toBitVec.extractLsb' 0 32) else if j = 2 * i + 1 then Int32.ofBitVec (x.toBitVec.extractLsb' 32 32) else f j
theorem qj_rt (x : BitVec 64) : x.extractLsb' 32 32 ++ x.extractLsb' 0 32 = x := by
  ext i hi
  rw [BitVec.getElem_append]
  by_cases h : i < 32
  · rw [dif_pos h, BitVec.getElem_extractLsb']
    simp [BitVec.getLsbD_eq_getElem, hi]
  · rw [dif_neg h, BitVec.getElem_extractLsb']
    rw [show 32 + (i - 32) = i by omega]
    exact BitVec.getLsbD_eq_getElem hi
theorem qj_lsS (f : Nat → Int32) (i : Nat) (x : Int64) : qj_l (qj_s f i x) i = x := by
  unfold qj_l qj_s
  rw [if_neg (by omega), if_pos rfl, if_pos rfl]
  exact Int64.toBitVec_inj.mp (qj_rt x.toBitVec)
theorem qj_lsN (f : Nat → Int32) {i j : Nat} (x : Int64) (h : j ≠ i) : qj_l (qj_s f i x) j = qj_l f j := by
  unfold qj_l qj_s
  rw [if_neg (by omega), if_neg (by omega), if_neg (by omega), if_neg (by omega)]
theorem qj_ls (f : Nat → Int32) (i : Nat) (x : Int64) : qj_l (qj_s f i x) = vp_updL (qj_l f) i x := by
  funext j
  by_cases h : j = i
  · subst h
    rw [qj_lsS, pk_uLs]
  · rw [qj_lsN f x h, pk_uLn h]
def qw_ln (k c : Nat) : Nat := if k < 8 then qw_lnS c else if k = 8 then 120 else qw_ln9 c
def qw_nr (c : Nat) : Nat := if c = 4 then 5 else if c = 7 then 6 else 3
def qw_rb (c : Nat) : Nat := if c = 4 then 8 else if c = 5 then 13 else if c = 6 then 16 else 19
def qw_ct (L : wL) (M : wM) (hp : Nat → Nat) (k c : Nat) : va_E :=
  if k < 8 then
    if c = 0 then .inr (0, [.int (M k 0 0), .int (M k 0 1), .int (M k 0 2), .int (M k 0 3), .int (M k 0 4), .int (M k 0 5), .int (M k 0 6), .ref (qw_ad L k 1), .ref (qw_ad L k 2), .ref (qw_ad L k 3), .ref (qw_ad L k 4), .ref (qw_ad L k 5), .ref (qw_ad L k 6), .ref (qw_ad L k 7)])
    else if 4 ≤ c ∧ c < 8 then .inl (L.2.2.2.1, qw_nr c, .inr (.inr (.inr (.inr (fun i => if i < qw_nr c then some (qw_ad L k (qw_rb c + i)) else none)))))
    else .inl (L.2.1, qw_ln k c, .inl (M k c))
  else if k = 8 then
    if c = 0 then .inr (2, [.ref (qw_ad L 0 0), .ref (qw_ad L 1 0), .ref (qw_ad L 2 0), .ref (qw_ad L 8 1), .int (M k 0 4), .ref (qw_ad L 8 2)])
    else if c = 1 then .inl (L.2.2.1, 5, .inr (.inr (.inr (.inr (fun i => if i < 5 then some (qw_ad L (hp i) 0) else none)))))
    else if c = 2 then .inr (1, [.ref (qw_ad L 8 3), .int (M k 2 1), .int (M k 2 2)])
    else .inl (L.2.1, qw_ln k c, .inl (M k c))
  else
    if c = 2 ∨ c = 5 then .inl (L.2.2.2.2.1, qw_ln k c, .inr (.inl (qj_l (M k c))))
    else .inl (L.2.1, qw_ln k c, .inl (M k c))
def qw_WD (L : wL) (M : wM) (hp : Nat → Nat) : va_W := (qw_cl L).map (fun q => (qw_ad L q.1 q.2, qw_ct L M hp q.1 q.2))
theorem qw_ix {L : wL} {k c : Nat} (h : qw_in L k c) : ∃ n : Nat, (qw_cl L)[n]? = some (k, c) := List.getElem?_of_mem h
theorem qw_get {L : wL} {M : wM} {hp : Nat → Nat} {k c n : Nat} (h : (qw_cl L)[n]? = some (k, c)) {e : va_E} (he : qw_ct L M hp k c = e) : (qw_WD L M hp)[n]? = some (qw_ad L k c, e) := by
  unfold qw_WD
  rw [List.getElem?_map, h]
  simp only [Option.map_some, he]
theorem qw_at {L : wL} {M : wM} {hp : Nat → Nat} {n : Nat} {q : Nat × va_E} (h : (qw_WD L M hp)[n]? = some q) : ∃ k c : Nat, (qw_cl L)[n]? = some (k, c) ∧ q = (qw_ad L k c, qw_ct L M hp k c) := by
  unfold qw_WD at h
  rw [List.getElem?_map] at h
  cases hx : (qw_cl L)[n]? with
  | none => rw [hx] at h; cases h
  | some x =>
    rw [hx] at h
    exact ⟨x.1, x.2, rfl, (Option.some.inj h).symm⟩
theorem qw_set {L : wL} {M M' : wM} {hp hp' : Nat → Nat} {k c n : Nat} (hu : ∀ (i j : Nat) (x : Nat × Nat), (qw_cl L)[i]? = some x → (qw_cl L)[j]? = some x → i = j) (h : (qw_cl L)[n]? = some (k, c)) {e : va_E} (he : qw_ct L M' hp' k c = e) (hn : ∀ k' c' : Nat, ¬ (k' = k ∧ c' = c) → qw_ct L M' hp' k' c' = qw_ct L M hp k' c') : (qw_WD L M hp).set n (qw_ad L k c, e) = qw_WD L M' hp' := by
  have hlen : (qw_WD L M hp).length = (qw_cl L).length := by simp [qw_WD]
  have hl1 : n < (qw_cl L).length := (List.getElem?_eq_some_iff.mp h).1
  apply List.ext_getElem?
  intro i
  by_cases hi : i = n
  · subst hi
    rw [List.getElem?_set_self (by rw [hlen]; exact hl1), qw_get h he]
  · rw [List.getElem?_set_ne (Ne.symm hi)]
    unfold qw_WD
    rw [List.getElem?_map, List.getElem?_map]
    cases hx : (qw_cl L)[i]? with
    | none => simp only [Option.map_none]
    | some x =>
      simp only [Option.map_some]
      rw [hn x.1 x.2]
      rintro ⟨e1, e2⟩
      exact hi (hu i n x hx (by rw [h, ← e1, ← e2]))
theorem qw_ct_cg {L : wL} {M M' : wM} {hp hp' : Nat → Nat} {k c : Nat} (h : M' k c = M k c) (hh : hp' = hp ∨ ¬ (k = 8 ∧ c = 1)) : qw_ct L M' hp' k c = qw_ct L M hp k c := by
  unfold qw_ct
  by_cases hk : k < 8
  · rw [if_pos hk, if_pos hk]
    by_cases hc : c = 0
    · subst hc
      rw [if_pos rfl, if_pos rfl, h]
    · rw [if_neg hc, if_neg hc, h]
  · rw [if_neg hk, if_neg hk]
    by_cases hk8 : k = 8
    · subst hk8
      rw [if_pos rfl, if_pos rfl]
      by_cases hc : c = 0
      · subst hc
        rw [if_pos rfl, if_pos rfl, h]
      · rw [if_neg hc, if_neg hc]
        by_cases hc1 : c = 1
        · subst hc1
          rcases hh with hh | hh
          · rw [if_pos rfl, if_pos rfl, hh]
          · exact absurd ⟨rfl, rfl⟩ hh
        · rw [if_neg hc1, if_neg hc1]
          by_cases hc2 : c = 2
          · subst hc2
            rw [if_pos rfl, if_pos rfl, h]
          · rw [if_neg hc2, if_neg hc2, h]
    · rw [if_neg hk8, if_neg hk8]
      by_cases hc : c = 2 ∨ c = 5
      · rw [if_pos hc, if_pos hc, h]
      · rw [if_neg hc, if_neg hc, h]
def qw_P (L : wL) (M : wM) (hp : Nat → Nat) (H : Heap) : Prop := va_P L.1 vwCl (qw_WD L M hp) H
def qw_J (L : wL) : Prop := (∀ (i j : Nat) (x : Nat × Nat), (qw_cl L)[i]? = some x → (qw_cl L)[j]? = some x → i = j) ∧ ∀ k c k' c' : Nat, qw_in L k c → qw_in L k' c' → qw_ad L k c = qw_ad L k' c' → k = k' ∧ c = c'
def qw_A (L : wL) : Nat → Prop := fun q => ∃ k c : Nat, qw_in L k c ∧ q = qw_ad L k c
def qw_G (L : wL) (A : Nat → Prop) (s : State) : Prop := va_K L.1 vwCl (qw_T L) s ∧ qw_J L ∧ ∀ k c : Nat, qw_in L k c → A (qw_ad L k c)
theorem qw_D {L : wL} {A : Nat → Prop} (hJ : qw_J L) (hA : ∀ k c : Nat, qw_in L k c → A (qw_ad L k c)) (M : wM) (hp : Nat → Nat) : va_D A (qw_WD L M hp) := by
  refine ⟨fun i j p q hi hj hpq => ?_, fun n q h => ?_⟩
  · obtain ⟨k1, c1, a1, a2⟩ := qw_at hi
    obtain ⟨k2, c2, b1, b2⟩ := qw_at hj
    subst a2
    subst b2
    obtain ⟨e1, e2⟩ := hJ.2 _ _ _ _ (List.mem_of_getElem? a1) (List.mem_of_getElem? b1) hpq
    subst e1
    subst e2
    exact hJ.1 _ _ _ a1 b1
  · obtain ⟨k1, c1, a1, a2⟩ := qw_at h
    subst a2
    exact hA _ _ (List.mem_of_getElem? a1)
theorem qw_ctS {L : wL} {M : wM} {hp : Nat → Nat} {k : Nat} (hk : k < 8) {m : wm} (hX : M k = m) : qw_ct L M hp k 0 = .inr (0, [.int (m 0 0), .int (m 0 1), .int (m 0 2), .int (m 0 3), .int (m 0 4), .int (m 0 5), .int (m 0 6), .ref (qw_ad L k 1), .ref (qw_ad L k 2), .ref (qw_ad L k 3), .ref (qw_ad L k 4), .ref (qw_ad L k 5), .ref (qw_ad L k 6), .ref (qw_ad L k 7)]) := by
  unfold qw_ct
  rw [if_pos hk, if_pos rfl, hX]
theorem qw_ctR {L : wL} {M : wM} {hp : Nat → Nat} {m : wm} (hX : M 8 = m) : qw_ct L M hp 8 0 = .inr (2, [.ref (qw_ad L 0 0), .ref (qw_ad L 1 0), .ref (qw_ad L 2 0), .ref (qw_ad L 8 1), .int (m 0 4), .ref (qw_ad L 8 2)]) := by
  unfold qw_ct
  rw [if_neg (by decide), if_pos rfl, if_pos rfl, hX]
theorem qw_ctX {L : wL} {M : wM} {hp : Nat → Nat} {m : wm} (hX : M 8 = m) : qw_ct L M hp 8 2 = .inr (1, [.ref (qw_ad L 8 3), .int (m 2 1), .int (m 2 2)]) := by
  unfold qw_ct
  rw [if_neg (by decide), if_pos rfl, if_neg (by decide), if_neg (by decide), if_pos rfl, hX]
theorem qw_ctH {L : wL} {M : wM} {hp : Nat → Nat} : qw_ct L M hp 8 1 = .inl (L.2.2.1, 5, .inr (.inr (.inr (.inr (fun i => if i < 5 then some (qw_ad L (hp i) 0) else none))))) := by
  unfold qw_ct
  rw [if_neg (by decide), if_pos rfl, if_neg (by decide), if_pos rfl]
theorem qw_ctT {L : wL} {M : wM} {hp : Nat → Nat} {k c : Nat} (hk : k < 8) (h4 : 4 ≤ c) (h8 : c < 8) : qw_ct L M hp k c = .inl (L.2.2.2.1, qw_nr c, .inr (.inr (.inr (.inr (fun i => if i < qw_nr c then some (qw_ad L k (qw_rb c + i)) else none))))) := by
  unfold qw_ct
  rw [if_pos hk, if_neg (by omega), if_pos ⟨h4, h8⟩]
/-- the cell (k, c) is an int array of length n -/
def qw_I (L : wL) (k c n : Nat) : Prop := qw_in L k c ∧ ((k < 8 ∧ ((1 ≤ c ∧ c < 4) ∨ (8 ≤ c ∧ c < 25))) ∨ (k = 8 ∧ c = 3) ∨ (k = 9 ∧ (1 ≤ c ∧ c < 7) ∧ ¬ (c = 2 ∨ c = 5))) ∧ qw_ln k c = n
theorem qw_ctI {L : wL} {M : wM} {hp : Nat → Nat} {k c n : Nat} (h : qw_I L k c n) {m : wm} (hX : M k = m) : qw_ct L M hp k c = .inl (L.2.1, n, .inl (m c)) := by
  obtain ⟨-, h, e⟩ := h
  subst e
  subst hX
  unfold qw_ct
  rcases h with h | h | h
  · rw [if_pos h.1, if_neg (by omega), if_neg (by omega)]
  · obtain ⟨rfl, rfl⟩ := h
    rw [if_neg (by decide), if_pos rfl, if_neg (by decide), if_neg (by decide), if_neg (by decide)]
  · obtain ⟨rfl, h1, h2⟩ := h
    rw [if_neg (by decide), if_neg (by decide), if_neg h2]
/-- the cell (9, c) is an array of longs of length n -/
def qw_IL (L : wL) (c n : Nat) : Prop := qw_in L 9 c ∧ (c = 2 ∨ c = 5) ∧ qw_ln9 c = n
theorem qw_ctL {L : wL} {M : wM} {hp : Nat → Nat} {c n : Nat} (h : qw_IL L c n) {m : wm} (hX : M 9 = m) : qw_ct L M hp 9 c = .inl (L.2.2.2.2.1, n, .inr (.inl (qj_l (m c)))) := by
  obtain ⟨-, h, e⟩ := h
  subst e
  subst hX
  unfold qw_ct
  rw [if_neg (by decide), if_neg (by decide), if_pos h]
  rfl
theorem qw_IL9 {L : wL} (hv : qw_9 L) {c n : Nat} (h : (c = 2 ∨ c = 5) ∧ qw_ln9 c = n) : qw_IL L c n := ⟨hv c (by omega) (by omega), h.1, h.2⟩
theorem qw_IS {L : wL} {k c n : Nat} (hk : qw_k L k) (h : ((1 ≤ c ∧ c < 4) ∨ (8 ≤ c ∧ c < 25)) ∧ qw_lnS c = n) : qw_I L k c n := ⟨hk.2 c (by omega), Or.inl ⟨hk.1, h.1⟩, by unfold qw_ln; rw [if_pos hk.1]; exact h.2⟩
theorem qw_I8 {L : wL} (hv : qw_8 L) : qw_I L 8 3 120 := ⟨hv 3 (by decide), Or.inr (Or.inl ⟨rfl, rfl⟩), rfl⟩
theorem qw_I9 {L : wL} (hv : qw_9 L) {c n : Nat} (h : ((1 ≤ c ∧ c < 7) ∧ ¬ (c = 2 ∨ c = 5)) ∧ qw_ln9 c = n) : qw_I L 9 c n := ⟨hv c (by omega) (by omega), Or.inr (Or.inr ⟨rfl, h.1.1, h.1.2⟩), h.2⟩
theorem qw_row4 {L : wL} {k i : Nat} (hk : qw_k L k) (h : i < 5) : qw_I L k (8 + i) 40 := qw_IS hk ⟨Or.inr ⟨by omega, by omega⟩, by unfold qw_lnS; rw [if_neg (by omega), if_neg (by omega), if_pos (by omega)]⟩
theorem qw_row5 {L : wL} {k i : Nat} (hk : qw_k L k) (h : i < 3) : qw_I L k (13 + i) 16 := qw_IS hk ⟨Or.inr ⟨by omega, by omega⟩, by unfold qw_lnS; rw [if_neg (by omega), if_neg (by omega), if_neg (by omega), if_pos (by omega)]⟩
theorem qw_row6 {L : wL} {k i : Nat} (hk : qw_k L k) (h : i < 3) : qw_I L k (16 + i) 200 := qw_IS hk ⟨Or.inr ⟨by omega, by omega⟩, by unfold qw_lnS; rw [if_neg (by omega), if_neg (by omega), if_neg (by omega), if_neg (by omega), if_pos (by omega)]⟩
theorem qw_row7 {L : wL} {k i : Nat} (hk : qw_k L k) (h : i < 6) : qw_I L k (19 + i) 12 := qw_IS hk ⟨Or.inr ⟨by omega, by omega⟩, by unfold qw_lnS; rw [if_neg (by omega), if_neg (by omega), if_neg (by omega), if_neg (by omega), if_neg (by omega)]⟩
/-- a row of the table t, its length by the table -/
def qw_rl (t : Nat) : Nat := if t = 4 then 40 else if t = 5 then 16 else if t = 6 then 200 else 12
theorem qw_rowT {L : wL} {k t i : Nat} (hk : qw_k L k) (h4 : 4 ≤ t) (h8 : t < 8) (h : i < qw_nr t) : qw_I L k (qw_rb t + i) (qw_rl t) := by
  rcases (show t = 4 ∨ t = 5 ∨ t = 6 ∨ t = 7 by omega) with rfl | rfl | rfl | rfl
  · exact qw_row4 hk h
  · exact qw_row5 hk h
  · exact qw_row6 hk h
  · exact qw_row7 hk h
/-- a change of the one cell (k, c) -/
theorem qw_wr {L : wL} {X X' : wM} {hp : Nat → Nat} {k c n : Nat} {m : wm} {f : Nat → Int32} (hJ : qw_J L) (h : (qw_cl L)[n]? = some (k, c)) (hX : X k = m) (hX' : qw_u1 X k (qw_uc m c f) = X') {e : va_E} (he : qw_ct L X' hp k c = e) : (qw_WD L X hp).set n (qw_ad L k c, e) = qw_WD L X' hp := by
  refine qw_set hJ.1 h he (fun k' c' hne => qw_ct_cg ?_ (Or.inl rfl))
  subst hX'
  by_cases hk : k' = k
  · subst hk
    rw [qw_u1s, qw_ucn _ _ (fun q => hne ⟨rfl, q⟩), hX]
  · rw [qw_u1n X _ hk]
theorem qw_X' {X X' : wM} {k c : Nat} {m : wm} {f : Nat → Int32} (hX' : qw_u1 X k (qw_uc m c f) = X') : X' k = qw_uc m c f := by
  subst hX'
  exact qw_u1s _ _ _
