def qz_LF (D : va_G) (cI cS cT : ClassId) (u : Nat → Nat → Nat) (v : Nat → Nat) : wL := (D, cI, cS, cT, fun k c => if k = 9 then v c else u k c, qz_c8 ++ qz_o9.map (fun c => (9, c)))
def qz_MF : wM := fun k => if k < 8 then qz_mF else if k = 9 then qz_mR else fun _ _ => 0
theorem qz_MF9 : qz_MF 9 = qz_mR := rfl
theorem qz_ct8 {L L' : wL} {M M' : wM} {hp : Nat → Nat} {c : Nat} (h1 : L.2.1 = L'.2.1) (h2 : L.2.2.1 = L'.2.2.1) (ha : ∀ k c : Nat, k ≠ 9 → qw_ad L k c = qw_ad L' k c) (hm : M 8 = M' 8) (hh : ∀ i : Nat, i < 5 → hp i ≠ 9) : qw_ct L M hp 8 c = qw_ct L' M' hp 8 c := by
  unfold qw_ct
  rw [if_neg (show ¬ 8 < 8 by decide), if_neg (show ¬ 8 < 8 by decide), if_pos (show 8 = 8 from rfl), if_pos (show 8 = 8 from rfl)]
  by_cases c0 : c = 0
  · rw [if_pos c0, if_pos c0, ha 0 0 (by decide), ha 1 0 (by decide), ha 2 0 (by decide), ha 8 1 (by decide), ha 8 2 (by decide), hm]
  · rw [if_neg c0, if_neg c0]
    by_cases c1 : c = 1
    · rw [if_pos c1, if_pos c1, h2]
      have e : (fun i => if i < 5 then some (qw_ad L (hp i) 0) else none) = (fun i => if i < 5 then some (qw_ad L' (hp i) 0) else none) := by
        funext i
        by_cases h : i < 5
        · rw [if_pos h, if_pos h, ha _ _ (hh i h)]
        · rw [if_neg h, if_neg h]
      rw [e]
    · rw [if_neg c1, if_neg c1]
      by_cases c2 : c = 2
      · rw [if_pos c2, if_pos c2, ha 8 3 (by decide), hm]
      · rw [if_neg c2, if_neg c2, h1, hm]
theorem qz_full (D : va_G) (cI cS cT : ClassId) (u : Nat → Nat → Nat) (v : Nat → Nat) : qw_WD (qz_LR D cI cS cT u) qz_MR qz_hR ++ qz_M cI v qz_mR = qw_WD (qz_LF D cI cS cT u v) qz_MF qz_hR := by
  have ha : ∀ k c : Nat, k ≠ 9 → qw_ad (qz_LR D cI cS cT u) k c = qw_ad (qz_LF D cI cS cT u v) k c := by
    intro k c hk
    show u k c = if k = 9 then v c else u k c
    rw [if_neg hk]
  have hle : ∀ x ∈ qz_c8, x.1 ≤ 8 := by decide +kernel
  have e1 : qw_WD (qz_LR D cI cS cT u) qz_MR qz_hR = qz_c8.map (fun q => (qw_ad (qz_LF D cI cS cT u v) q.1 q.2, qw_ct (qz_LF D cI cS cT u v) qz_MF qz_hR q.1 q.2)) := by
    show qz_c8.map _ = _
    apply List.map_congr_left
    intro x hx
    have h8 := hle x hx
    have e2 : qw_ct (qz_LR D cI cS cT u) qz_MR qz_hR x.1 x.2 = qw_ct (qz_LF D cI cS cT u v) qz_MF qz_hR x.1 x.2 := by
      by_cases h : x.1 < 8
      · rw [qz_ct_w h, qz_ct_w h]
        have e3 : qw_ad (qz_LR D cI cS cT u) x.1 = qw_ad (qz_LF D cI cS cT u v) x.1 := funext fun c => ha _ c (by omega)
        have e4 : qz_MR x.1 = qz_MF x.1 := by
          unfold qz_MR qz_MF
          rw [if_pos h, if_pos h]
        rw [e3, e4]
        rfl
      · have h9 : x.1 = 8 := by omega
        rw [h9]
        exact qz_ct8 rfl rfl ha rfl (fun i hi => by unfold qz_hR; omega)
    show (qw_ad (qz_LR D cI cS cT u) x.1 x.2, _) = _
    rw [e2, ha _ _ (by omega)]
  have e5 : qw_WD (qz_LF D cI cS cT u v) qz_MF qz_hR = qz_c8.map (fun q => (qw_ad (qz_LF D cI cS cT u v) q.1 q.2, qw_ct (qz_LF D cI cS cT u v) qz_MF qz_hR q.1 q.2)) ++ (qz_o9.map (fun c => (9, c))).map (fun q => (qw_ad (qz_LF D cI cS cT u v) q.1 q.2, qw_ct (qz_LF D cI cS cT u v) qz_MF qz_hR q.1 q.2)) := List.map_append
  rw [e5, e1, qz_M_w]
  rfl
theorem qz_all : ∀ k : Nat, k < 8 → ∀ c : Nat, c < 25 → (k, c) ∈ qz_c8 := by decide +kernel
theorem qz_all8 : ∀ c : Nat, c < 4 → (8, c) ∈ qz_c8 := by decide +kernel
theorem qz_all9 : ∀ c : Nat, c < 7 → c ∈ qz_o9 := by decide +kernel
theorem qz_nd : (qz_c8 ++ qz_o9.map (fun c => (9, c))).Nodup := by decide +kernel
theorem qz_LFR (D : va_G) (cI cS cT : ClassId) (u : Nat → Nat → Nat) (v : Nat → Nat) : qw_R (qz_LF D cI cS cT u v) :=
  ⟨fun c hc => List.mem_append_left _ (qz_all8 c hc), fun k hk => ⟨hk, fun c hc => List.mem_append_left _ (qz_all k hk c hc)⟩⟩
theorem qz_LF9 (D : va_G) (cI cS cT : ClassId) (u : Nat → Nat → Nat) (v : Nat → Nat) : qw_9 (qz_LF D cI cS cT u v) :=
  fun c hc => List.mem_append_right _ (List.mem_map.mpr ⟨c, qz_all9 c hc, rfl⟩)
theorem qz_I0 : qv_I qz_MF qz_hR (qz_MF 9) := by
  refine ⟨0, 0, by decide, by decide, ?_, rfl, ?_, ?_, rfl, ?_, fun i hi => absurd hi (Nat.not_lt_zero i), ⟨⟨?_, ?_⟩, fun i hi => absurd hi (Nat.not_lt_zero i)⟩⟩
  · exact qv_freshR (Z := 8) (r := nI 0) (by decide) (by decide) (Or.inl rfl) (qx_new_f (m := fun _ _ => 0) (Z := 8)) (qx_beg_f (Z := 8) (t := fun _ _ => 0))
  · rw [qz_MF9]
    unfold qz_mR
    rw [qx_beg_o (by decide)]
    rfl
  · rw [qz_MF9]
    unfold qz_mR
    rw [qx_beg_o (by decide)]
    rfl
  · rw [qz_MF9]
    unfold qz_mR
    rw [qx_beg_o (by decide)]
    rfl
  · intro i hi
    unfold qz_hR
    omega
  · intro i j hi hj e
    unfold qz_hR at e
    omega
