def qz_o9 : List Nat := [1, 2, 3, 4, 5, 6]
def qz_W9 (cI cJ : ClassId) (v : Nat → Nat) : va_W := [(v 1, qz_int cI 15), (v 2, qz_lng cJ 40), (v 3, qz_int cI 48), (v 4, qz_int cI 64), (v 5, qz_lng cJ 64), (v 6, qz_int cI 64)]
def qz_LF (D : va_G) (cI cS cT cJ : ClassId) (u : Nat → Nat → Nat) (v : Nat → Nat) : wL := (D, cI, cS, cT, cJ, fun k c => if k = 9 then v c else u k c, qz_c8 ++ qz_o9.map (fun c => (9, c)))
theorem qj_0 : qj_l (fun _ => 0) = fun _ => 0 := by
  funext i
  show Int64.ofBitVec ((0 : Int32).toBitVec ++ (0 : Int32).toBitVec) = 0
  decide
theorem qz_ct8 {L L' : wL} {M M' : wM} {hp : Nat → Nat} {c : Nat} (h1 : L.2.1 = L'.2.1) (h2 : L.2.2.1 = L'.2.2.1) (ha : ∀ k c : Nat, k ≠ 9 → qw_ad L k c = qw_ad L' k c) (hm : M 8 = M' 8) (hh : ∀ i : Nat, i < 5 → hp i ≠ 9) : qw_ct L M hp 8 c = qw_ct L' M' hp 8 c := by
  unfold qw_ct
  rw [if_neg (show ¬ 8 < 8 by decide), if_neg (show ¬ 8 < 8 by decide), if_pos (show 8 = 8 from rfl), if_pos (show 8 = 8 from rfl)]
  by_cases c0 : c = 0
  · rw [if_pos c0, if_pos c0, ha 0 0 (by decide), ha 1 0 (by decide), ha 2 0 (by decide), ha 8 1 (by decide), ha 8 2 (by decide), hm]
  · rw [if_neg c0, if_neg c0]
    by_cases c1 : c = 1
    · rw [if_pos c1, if_pos c1, h2]
      have e : (fun i => if i < 5 then some (qw_ad L (hp i) 0) else none) = (fun i => if i < 5 then some (qw_ad L' (hp i) 0) else none) := by
        funext i
        by_cases h : i < 5
        · rw [if_pos h, if_pos h, ha _ _ (hh i h)]
        · rw [if_neg h, if_neg h]
      rw [e]
    · rw [if_neg c1, if_neg c1]
      by_cases c2 : c = 2
      · rw [if_pos c2, if_pos c2, ha 8 3 (by decide), hm]
      · rw [if_neg c2, if_neg c2, h1, hm]
theorem qz_9i {L : wL} {hp : Nat → Nat} {c n : Nat} (h : ¬ (c = 2 ∨ c = 5)) (hn : qw_ln9 c = n) : qw_ct L qz_MR hp 9 c = qz_int L.2.1 n := by
  subst hn
  unfold qw_ct
  rw [if_neg (by decide), if_neg (by decide), if_neg h]
  rfl
theorem qz_9l {L : wL} {hp : Nat → Nat} {c n : Nat} (h : c = 2 ∨ c = 5) (hn : qw_ln9 c = n) : qw_ct L qz_MR hp 9 c = qz_lng L.2.2.2.2.1 n := by
  subst hn
  have e : qz_MR 9 c = fun _ => 0 := rfl
  unfold qw_ct
  rw [if_neg (by decide), if_neg (by decide), if_pos h, e, qj_0]
  rfl
theorem qz_full (D : va_G) (cI cS cT cJ : ClassId) (u : Nat → Nat → Nat) (v : Nat → Nat) : qw_WD (qz_LR D cI cS cT cJ u) qz_MR qz_hR ++ qz_W9 cI cJ v = qw_WD (qz_LF D cI cS cT cJ u v) qz_MR qz_hR := by
  have ha : ∀ k c : Nat, k ≠ 9 → qw_ad (qz_LR D cI cS cT cJ u) k c = qw_ad (qz_LF D cI cS cT cJ u v) k c := by
    intro k c hk
    show u k c = if k = 9 then v c else u k c
    rw [if_neg hk]
  have hle : ∀ x ∈ qz_c8, x.1 ≤ 8 := by decide +kernel
  have e1 : qw_WD (qz_LR D cI cS cT cJ u) qz_MR qz_hR = qz_c8.map (fun q => (qw_ad (qz_LF D cI cS cT cJ u v) q.1 q.2, qw_ct (qz_LF D cI cS cT cJ u v) qz_MR qz_hR q.1 q.2)) := by
    show qz_c8.map _ = _
    apply List.map_congr_left
    intro x hx
    have h8 := hle x hx
    have e2 : qw_ct (qz_LR D cI cS cT cJ u) qz_MR qz_hR x.1 x.2 = qw_ct (qz_LF D cI cS cT cJ u v) qz_MR qz_hR x.1 x.2 := by
      by_cases h : x.1 < 8
      · rw [qz_ct_w h, qz_ct_w h]
        have e3 : qw_ad (qz_LR D cI cS cT cJ u) x.1 = qw_ad (qz_LF D cI cS cT cJ u v) x.1 := funext fun c => ha _ c (by omega)
        rw [e3]
        rfl
      · have h9 : x.1 = 8 := by omega
        rw [h9]
        exact qz_ct8 rfl rfl ha rfl (fun i hi => by unfold qz_hR; omega)
    show (qw_ad (qz_LR D cI cS cT cJ u) x.1 x.2, _) = _
    rw [e2, ha _ _ (by omega)]
  have e5 : qw_WD (qz_LF D cI cS cT cJ u v) qz_MR qz_hR = qz_c8.map (fun q => (qw_ad (qz_LF D cI cS cT cJ u v) q.1 q.2, qw_ct (qz_LF D cI cS cT cJ u v) qz_MR qz_hR q.1 q.2)) ++ (qz_o9.map (fun c => (9, c))).map (fun q => (qw_ad (qz_LF D cI cS cT cJ u v) q.1 q.2, qw_ct (qz_LF D cI cS cT cJ u v) qz_MR qz_hR q.1 q.2)) := List.map_append
  rw [e5, e1]
  congr 1
  show _ = [(_, _), (_, _), (_, _), (_, _), (_, _), (_, _)]
  rw [qz_9i (c := 1) (n := 15) (by decide) rfl, qz_9l (c := 2) (n := 40) (by decide) rfl, qz_9i (c := 3) (n := 48) (by decide) rfl, qz_9i (c := 4) (n := 64) (by decide) rfl, qz_9l (c := 5) (n := 64) (by decide) rfl, qz_9i (c := 6) (n := 64) (by decide) rfl]
  rfl
theorem qz_all : ∀ k : Nat, k < 8 → ∀ c : Nat, c < 25 → (k, c) ∈ qz_c8 := by decide +kernel
theorem qz_all8 : ∀ c : Nat, c < 4 → (8, c) ∈ qz_c8 := by decide +kernel
theorem qz_all9 : ∀ c : Nat, c < 7 → 1 ≤ c → c ∈ qz_o9 := by decide +kernel
theorem qz_nd : (qz_c8 ++ qz_o9.map (fun c => (9, c))).Nodup := by decide +kernel
theorem qz_LFR (D : va_G) (cI cS cT cJ : ClassId) (u : Nat → Nat → Nat) (v : Nat → Nat) : qw_R (qz_LF D cI cS cT cJ u v) :=
  ⟨fun c hc => List.mem_append_left _ (qz_all8 c hc), fun k hk => ⟨hk, fun c hc => List.mem_append_left _ (qz_all k hk c hc)⟩⟩
theorem qz_LF9 (D : va_G) (cI cS cT cJ : ClassId) (u : Nat → Nat → Nat) (v : Nat → Nat) : qw_9 (qz_LF D cI cS cT cJ u v) :=
  fun c hc h7 => List.mem_append_right _ (List.mem_map.mpr ⟨c, qz_all9 c h7 hc, rfl⟩)
theorem qz_J0 : qd_J qz_MR qz_hR := by
  refine ⟨⟨?_, ?_⟩, ⟨0, by decide, rfl⟩, rfl⟩
  · intro i hi
    unfold qz_hR
    omega
  · intro i j hi hj e
    unfold qz_hR at e
    omega
theorem qz_M0 : ql_M0 qz_MR := ⟨rfl, rfl⟩
