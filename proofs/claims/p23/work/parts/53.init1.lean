def rm_X1_init : Room := { frames := 1, cells := 1, slots := 120, locals := 12 }
def qz_F1 : List Value := [.null, .int 0, .int 0]
def qz_X (cI : ClassId) (x q : Nat) : va_W := [(x, .inr (1, [.ref q, .int 0, .int 0])), (q, qz_int cI 120)]
set_option maxRecDepth 100000 in
set_option maxHeartbeats 4000000 in
theorem qc_X1_init (l : Launch) (D : va_G) (cI cS cT cJ : ClassId) (a sz : Nat) : Met l yX1_init wsX1_init rm_X1_init (va_Pc [.ref a] (fun U => U.heap.size = sz ∧ va_P D vwCl [(a, .inr (1, qz_F1))] U.heap ∧ qz_K D cI cS cT cJ U)) (va_Qv (fun _ : Nat => True) (fun u t => va_P D vwCl (qz_X cI a u) t.heap ∧ va_D (va_A [(a, .inr (1, qz_F1))] sz) (qz_X cI a u)) (va_A [(a, .inr (1, qz_F1))] sz)) 1 120 (va_A [(a, .inr (1, qz_F1))] sz) := by
  refine Met.ofW (cc := cX1_init) (maxL := 1) (ret := none) (by decide) rfl ?_
  intro p e s m args below meth c s₁ B hml hv
  obtain ⟨rfl, hsz, hP, K⟩ := hv
  have hts := atoms_spec (ws := wsX1_init) B.pre
  have hown : s.vm.findClass RX1 = some m.cls := findClass_of_methodNamed B.named
  have hlocks := B.notSynchronized
  have hin : meth.name = "<init>" := (name_of_methodNamed B.named B.method).1
  have F : CallFix p m c cX1_init 1 s [Value.ref a].toArray wsX1_init RX1 := ⟨B.exec, B.bytes, hml, hown, hts⟩
  have hw : ∀ w ∈ wsX10, w.before [Value.ref a].toArray s = true := fun w h => hts w (List.mem_cons_of_mem _ (List.mem_append_right _ h))
  subst hsz
  have hD : va_D (va_A [(a, .inr (1, qz_F1))] s.heap.size) [(a, .inr (1, qz_F1))] := qz_D1 (Or.inl ⟨0, _, rfl⟩)
  generalize hAe : va_A [(a, .inr (1, qz_F1))] s.heap.size = A at hD ⊢
  have hA : ∀ q : Nat, s.heap.size ≤ q → A q := fun q h => by rw [← hAe]; exact Or.inr h
  have hS : va_S A s.heap s.heap [] := va_S.rf
  have hP : va_P D vwCl [(a, .inr (1, qz_F1))] s.heap := hP
  have hl := lv_entry ([.ref a]) (n := 1) (Nat.le_of_ble_eq_true rfl)
  rw [lg_entry_eq]
  generalize (lg_sl ([.ref a]) ++ List.replicate (1 - (lg_sl ([.ref a])).length) Slot.unset).toArray = ls at hl ⊢
  have hl : lv_has ls 1 [(0, .ref a)] := hl
  refine lv_aload_n F.1 F.2.1 dX1_init_0 rfl (lv_at hl 0 rfl) ?_
  refine W.objInit F.1 F.2.1 hown (hts _ (List.mem_of_getElem? (i := 1) rfl)) (hts _ (List.mem_of_getElem? (i := 2) rfl)) (hts _ (List.mem_of_getElem? (i := 3) rfl)) rfl (by rw [hml]; exact hl.1) rfl dX1_init_1 (Nat.le_of_ble_eq_true rfl) (Nat.le_of_ble_eq_true rfl) ?_
  refine W.eq (g2 := F0 m 4 ls []) rfl ?_
  refine lv_aload_n F.1 F.2.1 dX1_init_4 rfl (lv_at hl 0 rfl) ?_
  refine lv_bipush (v := (120 : Int32)) F.1 F.2.1 dX1_init_5 (by decide) ?_
  refine qz_newa (N' := 120) F K (List.mem_of_getElem? (i := 4) rfl) hP hD hS hA (by decide) (by decide) (Nat.le_of_ble_eq_true rfl) (Nat.le_of_ble_eq_true rfl) (Nat.le_of_ble_eq_true rfl) dX1_init_7 (fun q H hP hD hS => ?_)
  refine qz_put (q := q) (ty := .array .int) (C := RX1) (T := TX1) (N := 3) (ci := 1) (Ws := wsX10) F hw tyX1 tyX1_ok nmX1 K hP hD hS rfl 0 (by decide) (List.mem_of_getElem? (i := 5) rfl) rfl rfl hin rfl (by decide +kernel) rfl rfl (Nat.le_of_ble_eq_true rfl) dX1_init_9 (fun H locs hP hD hS => ?_)
  have hP9 : va_P D vwCl (qz_X cI a q) H := hP
  have hD9 : va_D A (qz_X cI a q) := hD
  exact W.vret B.exec B.bytes B.returns (fun t ht hW => ⟨⟨q, rfl, trivial, by rw [ht]; exact hP9, hD9⟩, hS.F ht⟩) hS.2.2 dX1_init_12
