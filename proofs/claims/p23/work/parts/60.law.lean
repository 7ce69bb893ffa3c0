def rm_L_cell : Room := { frames := 0, cells := 0, slots := 0, locals := 0 }
theorem e_L_cell : qw_hd yL_cell RL 2 := by decide +kernel
/-- what the law reads of its script at the place k -/
def ql_cv (NL : Nat) (xs : Nat → Int32) (k : Nat) : Int32 := if k < NL then xs k else (40503 : Int32) * (nI k + nI 3)
set_option maxHeartbeats 1000000 in
theorem qc_L_cell (l : Launch) {b NL k : Nat} {xs : Nat → Int32} (hNL : NL ≤ 260) (hk : k < 1000) : Met l yL_cell wsL_cell rm_L_cell (va_Pc [.ref b, .int (nI k)] (fun U => va_X b NL xs U U.heap ∧ b < U.heap.size)) (va_Qi (fun (r' : Int32) (_ : Unit) => r' = ql_cv NL xs k) (fun _ _ => True) (fun _ => False)) 0 0 (fun _ => False) := by
  refine Met.ofW (cc := cL_cell) (maxL := 2) (ret := some .int) (by decide) rfl ?_
  intro p e s m args below meth c s₁ B hml hv
  obtain ⟨rfl, hX, hbl⟩ := hv
  have hts := atoms_spec (ws := wsL_cell) B.pre
  have hown : s.vm.findClass RL = some m.cls := findClass_of_methodNamed B.named
  have hlocks := B.notSynchronized
  have F : CallFix p m c cL_cell 2 s [Value.ref b, .int (nI k)].toArray wsL_cell RL := ⟨B.exec, B.bytes, hml, hown, hts⟩
  have hS : va_S (fun _ : Nat => False) s.heap s.heap [] := va_S.rf
  have hbA : ¬ (fun _ : Nat => False) b := fun h => h
  have hl := lv_entry ([.ref b, .int (nI k)]) (n := 2) (Nat.le_of_ble_eq_true rfl)
  rw [lg_entry_eq]
  generalize (lg_sl ([.ref b, .int (nI k)]) ++ List.replicate (2 - (lg_sl ([.ref b, .int (nI k)])).length) Slot.unset).toArray = ls at hl ⊢
  have hl : lv_has ls 2 [(0, .ref b), (1, .int (nI k))] := hl
  refine lv_iload_n F.1 F.2.1 dL_cell_0 rfl (lv_at hl 1 rfl) ?_
  refine lv_aload_n F.1 F.2.1 dL_cell_1 rfl (lv_at hl 0 rfl) ?_
  refine va_slen F.1 F.2.1 hX hbl hbA hS dL_cell_2 ?_
  refine lv_icmp_ge (tgt := 12) F.1 F.2.1 dL_cell_3 (by decide) (fun c1 => ?_) (fun c1 => ?_)
  · have c1 : NL ≤ k := by
      have c2 : nI NL ≤ nI k := c1
      rw [qa_le (by omega) (by omega)] at c2
      exact c2
    refine qr_ldc F (v := (40503 : Int32)) (List.mem_of_getElem? (i := 1) rfl) dL_cell_12 ?_
    refine lv_iload_n F.1 F.2.1 dL_cell_14 rfl (lv_at hl 1 rfl) ?_
    refine lv_iconst (v := nI 3) F.1 F.2.1 dL_cell_15 (by decide) ?_
    refine qr_iadd F rfl dL_cell_16 ?_
    refine qr_imul F rfl dL_cell_17 ?_
    exact W.zret (ty := .int) B.exec B.bytes B.returns rfl (fun t ht hW => ⟨⟨_, (), rfl, (by unfold ql_cv; rw [if_neg (by omega)]), trivial⟩, hS.F ht⟩) hS.2.2 dL_cell_18
  · have c1 : k < NL := by
      have c2 : ¬ nI NL ≤ nI k := c1
      rw [qa_le (by omega) (by omega)] at c2
      omega
    refine lv_aload_n F.1 F.2.1 dL_cell_6 rfl (lv_at hl 0 rfl) ?_
    refine lv_iload_n F.1 F.2.1 dL_cell_7 rfl (lv_at hl 1 rfl) ?_
    refine va_sld F.1 F.2.1 hX hbl hbA hS (vp_in_nI c1 (by omega)) dL_cell_8 ?_
    refine lv_goto (tgt := 18) F.1 F.2.1 dL_cell_9 (by decide) ?_
    exact W.zret (ty := .int) B.exec B.bytes B.returns rfl (fun t ht hW => ⟨⟨_, (), rfl, (by unfold ql_cv; rw [if_pos c1, qa_cl (by omega)]), trivial⟩, hS.F ht⟩) hS.2.2 dL_cell_18
section QLC
variable {p : Program} {l : Launch} {e : Env} {R : Room} {s : State} {mi : MethodId} {args : Array Value} {below : List Frame} {meth : Method} {co : Code} {H : Heap} {locs : List Loc} {cells slots : Nat} {Q : State → Prop}
variable {cc : ByteArray} {pc nL : Nat} {ls : Array Slot} {rest st0 : List Value} {A : Nat → Prop} {L : wL} {X : wM} {hp : Nat → Nat} {Ts : List Cond} {own : String} {index : Nat} {b NL k : Nat} {xs : Nat → Int32}
theorem qr_cell (F : CallFix p mi co cc nL s args Ts own) (G : qw_G L A s) (hX : va_X b NL xs s s.heap) (hbl : b < s.heap.size) (hbA : ¬ A b) (hNL : NL ≤ 260) (hP : qw_P L X hp H) (hS : va_S A s.heap H locs) (hk : k < 1000) (hT : GoodIn Ts (va_wsS own index yL_cell wsL_cell)) (hR : 1 ≤ R.frames ∧ 21 ≤ R.locals) (hsz : ls.size = nL) (hcat : (rest.map fun v => v.category).sum ≤ 8) (hcs : cells ≤ R.cells ∧ slots ≤ R.slots) (hst : st0 = .int (nI k) :: .ref b :: rest) (hdg : decode cc pc = .ok (.invokestatic index, 3))
    (kk : ∀ (H : Heap) (locs : List Loc), qw_P L X hp H → va_S A s.heap H locs → W p l e R s mi args below meth co H locs cells slots Q (F0 mi (pc + 3) ls (.int (ql_cv NL xs k) :: rest))) : W p l e R s mi args below meth co H locs cells slots Q (F0 mi pc ls st0) := by
  subst hst
  have hXH : va_X b NL xs s H := hX.kept (hS.2.1 b hbl hbA)
  have hbH : b < H.size := Nat.lt_of_lt_of_le hbl hS.1
  refine va_calli (va_runS (As := [.ref b, .int (nI k)]) (rest := rest) F (qc_L_cell l (b := b) (xs := xs) hNL hk) (va_cwS 2 F.2.2.2.2 hT rfl rfl rfl e_L_cell.2 hR) ⟨fun a U g mk q => ⟨q.1, va_X.moved (u := U) (U := U.calling g mk a) (Vm.Alike.refl U.vm) q.2.1, q.2.2⟩, fun U hU hW => ⟨rfl, by rw [hU]; exact va_X.moved hW.alike hXH, by rw [hU]; exact hbH⟩⟩ rfl rfl hsz rfl (lv_room (pc := 0) (ls := #[]) (m := mi) (rest := []) hcat) hdg hcs) hS (fun q _ h => h.elim) (fun q h => h.elim) (fun r1 u t H1 locs1 ht hvm hw1 _ hz1 hk1 hS1 => ?_)
  subst hw1
  refine kk H1 locs1 ?_ hS1
  have hP0 : va_P L.1 vwCl (qw_WD L X hp) H := hP
  exact hP0.kept (fun i x hx => hk1 x.1 (hP0 i x hx).lt (fun q => q))
end QLC
section QL
variable {p : Program} {l : Launch} {e : Env} {s : State} {m : MethodId} {below : List Frame} {meth : Method} {c : Code} {Q : State → Prop} {b NL : Nat} {xs : Nat → Int32} {L : wL}
abbrev ql_A (s : State) : Nat → Prop := fun q => s.heap.size ≤ q
abbrev ql_l (b : Nat) (L : wL) : List (Nat × Value) := [(0, .ref b), (1, .ref (qw_ad L 8 0)), (2, .ref (qw_ad L 9 1)), (3, .ref (qw_ad L 9 2)), (4, .ref (qw_ad L 9 3)), (5, .ref (qw_ad L 9 4)), (6, .ref (qw_ad L 9 5)), (7, .ref (qw_ad L 9 6))]
set_option maxRecDepth 100000 in
set_option maxHeartbeats 4000000 in
theorem ql_end (F : CallFix p m c cL_law 12 s #[Value.ref b] wsL_law RL) (G : qw_G L (ql_A s) s) (hX : va_X b NL xs s s.heap) (hbl : b < s.heap.size) (hbA : ¬ ql_A s b) (hNL : NL ≤ 260) (hv : qw_R L) (hv9 : qw_9 L) {M : wM} {h : Nat → Nat} {H : Heap} {locs : List Loc} {ls : Array Slot} (hP : qw_P L M h H) (hS : va_S (ql_A s) s.heap H locs) (hl : lv_has ls 12 ((9, .int (nI 1)) :: ql_l b L))
    (kend : ∀ (H : Heap) (locs : List Loc) (ls : Array Slot), va_S (ql_A s) s.heap H locs → W p l e room_1 s m #[Value.ref b] below meth c H locs 211 16138 Q (F0 m 253 ls [.int (nI 1)])) : W p l e room_1 s m #[Value.ref b] below meth c H locs 211 16138 Q (F0 m 194 ls []) := by
  have k3 : qf_X2_confession (-1 : Int32) (nI 0) M h = some (-1) := by
    unfold qf_X2_confession
    rw [if_pos (by decide)]
  have k4 : qf_X2_confession (nI 0) (nI 6) M h = some (-1) := by
    unfold qf_X2_confession
    rw [if_neg (by decide), if_neg (by decide), if_neg (by decide)]
  have k5 : qf_X2_named (-1 : Int32) M h = some (-1) := by
    unfold qf_X2_named
    rw [if_pos (by decide)]
  refine lv_iload F.1 F.2.1 dL_law_194 (lv_at hl 0 rfl) ?_
  refine lv_if_eq (tgt := 252) F.1 F.2.1 dL_law_196 (by decide) (fun c1 => absurd c1 (by decide)) (fun _ => ?_)
  refine lv_aload_n F.1 F.2.1 dL_law_199 rfl (lv_at hl 2 rfl) ?_
  refine lv_bipush (v := (nI 18)) F.1 F.2.1 dL_law_200 (by decide) ?_
  refine qr_cVi (rest := []) F G hP hS (qc_X2_count l G.2.1 hv qd_cntB.1) (qw_rcR hv.1) gL_law_X2_count rfl ⟨rfl, rfl⟩ e_X2_count ⟨(Nat.le_of_ble_eq_true rfl), (Nat.le_of_ble_eq_true rfl)⟩ rfl hl.1 rfl (Nat.le_of_ble_eq_true rfl) ⟨(Nat.le_of_ble_eq_true rfl), (Nat.le_of_ble_eq_true rfl)⟩ dL_law_202 (fun H locs hP hS => ?_)
  refine lv_iconst (v := (-1 : Int32)) F.1 F.2.1 dL_law_205 (by decide) ?_
  refine lv_icmp_ne (tgt := 252) F.1 F.2.1 dL_law_206 (by decide) (fun c1 => absurd rfl c1) (fun _ => ?_)
  refine lv_aload_n F.1 F.2.1 dL_law_209 rfl (lv_at hl 2 rfl) ?_
  refine lv_iconst (v := (-1 : Int32)) F.1 F.2.1 dL_law_210 (by decide) ?_
  refine qr_cVi (rest := []) F G hP hS (qc_X2_count l G.2.1 hv qd_cntB.2) (qw_rcR hv.1) gL_law_X2_count rfl ⟨rfl, rfl⟩ e_X2_count ⟨(Nat.le_of_ble_eq_true rfl), (Nat.le_of_ble_eq_true rfl)⟩ rfl hl.1 rfl (Nat.le_of_ble_eq_true rfl) ⟨(Nat.le_of_ble_eq_true rfl), (Nat.le_of_ble_eq_true rfl)⟩ dL_law_211 (fun H locs hP hS => ?_)
  refine lv_iconst (v := (-1 : Int32)) F.1 F.2.1 dL_law_214 (by decide) ?_
  refine lv_icmp_ne (tgt := 252) F.1 F.2.1 dL_law_215 (by decide) (fun c1 => absurd rfl c1) (fun _ => ?_)
  refine lv_aload_n F.1 F.2.1 dL_law_218 rfl (lv_at hl 2 rfl) ?_
  refine lv_iconst (v := (-1 : Int32)) F.1 F.2.1 dL_law_219 (by decide) ?_
  refine lv_iconst (v := (nI 0)) F.1 F.2.1 dL_law_220 (by decide) ?_
  refine qr_cVi (rest := []) F G hP hS (qc_X2_confession l G.2.1 hv k3) (qw_rcR hv.1) gL_law_X2_confession rfl ⟨rfl, rfl⟩ e_X2_confession ⟨(Nat.le_of_ble_eq_true rfl), (Nat.le_of_ble_eq_true rfl)⟩ rfl hl.1 rfl (Nat.le_of_ble_eq_true rfl) ⟨(Nat.le_of_ble_eq_true rfl), (Nat.le_of_ble_eq_true rfl)⟩ dL_law_221 (fun H locs hP hS => ?_)
  refine lv_iconst (v := (-1 : Int32)) F.1 F.2.1 dL_law_224 (by decide) ?_
  refine lv_icmp_ne (tgt := 252) F.1 F.2.1 dL_law_225 (by decide) (fun c1 => absurd rfl c1) (fun _ => ?_)
  refine lv_aload_n F.1 F.2.1 dL_law_228 rfl (lv_at hl 2 rfl) ?_
  refine lv_iconst (v := (nI 0)) F.1 F.2.1 dL_law_229 (by decide) ?_
  refine lv_bipush (v := (nI 6)) F.1 F.2.1 dL_law_230 (by decide) ?_
  refine qr_cVi (rest := []) F G hP hS (qc_X2_confession l G.2.1 hv k4) (qw_rcR hv.1) gL_law_X2_confession rfl ⟨rfl, rfl⟩ e_X2_confession ⟨(Nat.le_of_ble_eq_true rfl), (Nat.le_of_ble_eq_true rfl)⟩ rfl hl.1 rfl (Nat.le_of_ble_eq_true rfl) ⟨(Nat.le_of_ble_eq_true rfl), (Nat.le_of_ble_eq_true rfl)⟩ dL_law_232 (fun H locs hP hS => ?_)
  refine lv_iconst (v := (-1 : Int32)) F.1 F.2.1 dL_law_235 (by decide) ?_
  refine lv_icmp_ne (tgt := 252) F.1 F.2.1 dL_law_236 (by decide) (fun c1 => absurd rfl c1) (fun _ => ?_)
  refine lv_aload_n F.1 F.2.1 dL_law_239 rfl (lv_at hl 2 rfl) ?_
  refine lv_iconst (v := (-1 : Int32)) F.1 F.2.1 dL_law_240 (by decide) ?_
  refine qr_cVi (rest := []) F G hP hS (qc_X2_named l G.2.1 hv k5) (qw_rcR hv.1) gL_law_X2_named rfl ⟨rfl, rfl⟩ e_X2_named ⟨(Nat.le_of_ble_eq_true rfl), (Nat.le_of_ble_eq_true rfl)⟩ rfl hl.1 rfl (Nat.le_of_ble_eq_true rfl) ⟨(Nat.le_of_ble_eq_true rfl), (Nat.le_of_ble_eq_true rfl)⟩ dL_law_241 (fun H locs hP hS => ?_)
  refine lv_iconst (v := (-1 : Int32)) F.1 F.2.1 dL_law_244 (by decide) ?_
  refine lv_icmp_ne (tgt := 252) F.1 F.2.1 dL_law_245 (by decide) (fun c1 => absurd rfl c1) (fun _ => ?_)
  refine lv_iconst (v := (nI 1)) F.1 F.2.1 dL_law_248 (by decide) ?_
  refine lv_goto (tgt := 253) F.1 F.2.1 dL_law_249 (by decide) ?_
  exact kend H locs ls hS
set_option maxRecDepth 100000 in
set_option maxHeartbeats 4000000 in
theorem ql_loop (F : CallFix p m c cL_law 12 s #[Value.ref b] wsL_law RL) (G : qw_G L (ql_A s) s) (hX : va_X b NL xs s s.heap) (hbl : b < s.heap.size) (hbA : ¬ ql_A s b) (hNL : NL ≤ 260) (hv : qw_R L) (hv9 : qw_9 L) {tn : Nat} (ht : tn < 60)
    (kend : ∀ (H : Heap) (locs : List Loc) (ls : Array Slot), va_S (ql_A s) s.heap H locs → W p l e room_1 s m #[Value.ref b] below meth c H locs 211 16138 Q (F0 m 253 ls [.int (nI 1)])) : ∀ (n k : Nat) (M : wM) (h : Nat → Nat) (H : Heap) (locs : List Loc) (ls : Array Slot), k ≤ tn → tn < k + n → qd_I M h k → qw_P L M h H → va_S (ql_A s) s.heap H locs → lv_has ls 12 ((11, .int (nI k)) :: (10, .int (nI tn)) :: (9, .int (nI 1)) :: ql_l b L) → W p l e room_1 s m #[Value.ref b] below meth c H locs 211 16138 Q (F0 m 122 ls []) := by
  intro n
  induction n with
  | zero =>
    intro k M h H locs ls hk hn
    omega
  | succ n ih =>
    intro k M h H locs ls hk hn I hP hS hl
    refine lv_iload F.1 F.2.1 dL_law_122 (lv_at hl 0 rfl) ?_
    refine lv_iload F.1 F.2.1 dL_law_124 (lv_at hl 1 rfl) ?_
    refine lv_icmp_ge (tgt := 194) F.1 F.2.1 dL_law_126 (by decide) (fun c1 => ?_) (fun c1 => ?_)
    · exact ql_end F G hX hbl hbA hNL hv hv9 hP hS (lv_sub hl [2, 3, 4, 5, 6, 7, 8, 9, 10] rfl) kend
    have hlt : k < tn := by
      rw [qa_le (by omega) (by omega)] at c1
      omega
    obtain ⟨M2, h2, hA1, I2⟩ := ql_acts I (by omega) (ql_cv NL xs (2 + k) ^^^ (nI 7919) * (nI k))
    have hA2 := ql_isSo I2 (by omega)
    refine lv_iload F.1 F.2.1 dL_law_129 (lv_at hl 2 rfl) ?_
    refine lv_if_eq (tgt := 194) F.1 F.2.1 dL_law_131 (by decide) (fun c1 => absurd c1 (by decide)) (fun _ => ?_)
    refine lv_aload_n F.1 F.2.1 dL_law_134 rfl (lv_at hl 4 rfl) ?_
    refine lv_aload_n F.1 F.2.1 dL_law_135 rfl (lv_at hl 5 rfl) ?_
    refine lv_aload_n F.1 F.2.1 dL_law_136 rfl (lv_at hl 6 rfl) ?_
    refine lv_aload F.1 F.2.1 dL_law_137 (lv_at hl 7 rfl) ?_
    refine lv_aload F.1 F.2.1 dL_law_139 (lv_at hl 8 rfl) ?_
    refine lv_aload F.1 F.2.1 dL_law_141 (lv_at hl 9 rfl) ?_
    refine lv_aload F.1 F.2.1 dL_law_143 (lv_at hl 10 rfl) ?_
    refine lv_aload_n F.1 F.2.1 dL_law_145 rfl (lv_at hl 3 rfl) ?_
    refine lv_iconst (v := (nI 2)) F.1 F.2.1 dL_law_146 (by decide) ?_
    refine lv_iload F.1 F.2.1 dL_law_147 (lv_at hl 0 rfl) ?_
    refine qr_iadd F (z := nI (2 + k)) (nI_add 2 k).symm dL_law_149 ?_
    refine qr_cell (rest := [.ref (qw_ad L 9 6), .ref (qw_ad L 9 5), .ref (qw_ad L 9 4), .ref (qw_ad L 9 3), .ref (qw_ad L 9 2), .ref (qw_ad L 9 1), .ref (qw_ad L 8 0)]) (k := 2 + k) F G hX hbl hbA hNL hP hS (by omega) gL_law_L_cell ⟨(Nat.le_of_ble_eq_true rfl), (Nat.le_of_ble_eq_true rfl)⟩ hl.1 (Nat.le_of_ble_eq_true rfl) ⟨(Nat.le_of_ble_eq_true rfl), (Nat.le_of_ble_eq_true rfl)⟩ rfl dL_law_150 (fun H locs hP hS => ?_)
    refine lv_sipush (v := (nI 7919)) F.1 F.2.1 dL_law_153 (by decide) ?_
    refine lv_iload F.1 F.2.1 dL_law_156 (lv_at hl 0 rfl) ?_
    refine qr_imul F rfl dL_law_158 ?_
    refine qr_ixor F rfl dL_law_159 ?_
    refine qr_cSi (rest := []) F G hP hS (qc_L_acts l G.2.1 hv hv9 hA1) gL_law_L_acts rfl ⟨rfl, rfl⟩ e_L_acts ⟨(Nat.le_of_ble_eq_true rfl), (Nat.le_of_ble_eq_true rfl)⟩ rfl hl.1 rfl (Nat.le_of_ble_eq_true rfl) ⟨(Nat.le_of_ble_eq_true rfl), (Nat.le_of_ble_eq_true rfl)⟩ dL_law_160 (fun H locs hP hS => ?_)
    refine lv_if_eq (tgt := 185) F.1 F.2.1 dL_law_163 (by decide) (fun c1 => absurd c1 (by decide)) (fun _ => ?_)
    refine lv_aload_n F.1 F.2.1 dL_law_166 rfl (lv_at hl 4 rfl) ?_
    refine lv_aload_n F.1 F.2.1 dL_law_167 rfl (lv_at hl 5 rfl) ?_
    refine lv_aload_n F.1 F.2.1 dL_law_168 rfl (lv_at hl 6 rfl) ?_
    refine lv_aload F.1 F.2.1 dL_law_169 (lv_at hl 7 rfl) ?_
    refine lv_aload F.1 F.2.1 dL_law_171 (lv_at hl 9 rfl) ?_
    refine lv_aload F.1 F.2.1 dL_law_173 (lv_at hl 10 rfl) ?_
    refine qr_cSi (rest := []) F G hP hS (qc_L_isSo l G.2.1 hv hv9 hA2) gL_law_L_isSo rfl ⟨rfl, rfl⟩ e_L_isSo ⟨(Nat.le_of_ble_eq_true rfl), (Nat.le_of_ble_eq_true rfl)⟩ rfl hl.1 rfl (Nat.le_of_ble_eq_true rfl) ⟨(Nat.le_of_ble_eq_true rfl), (Nat.le_of_ble_eq_true rfl)⟩ dL_law_175 (fun H locs hP hS => ?_)
    refine lv_if_eq (tgt := 185) F.1 F.2.1 dL_law_178 (by decide) (fun c1 => absurd c1 (by decide)) (fun _ => ?_)
    refine lv_iconst (v := (nI 1)) F.1 F.2.1 dL_law_181 (by decide) ?_
    refine lv_goto (tgt := 186) F.1 F.2.1 dL_law_182 (by decide) ?_
    refine lv_istore (lv' := [(9, .int (nI 1)), (11, .int (nI k)), (10, .int (nI tn)), (0, .ref b), (1, .ref (qw_ad L 8 0)), (2, .ref (qw_ad L 9 1)), (3, .ref (qw_ad L 9 2)), (4, .ref (qw_ad L 9 3)), (5, .ref (qw_ad L 9 4)), (6, .ref (qw_ad L 9 5)), (7, .ref (qw_ad L 9 6))]) F.1 F.2.1 dL_law_186 hl (by decide) rfl (fun ls hl => ?_)
    refine lv_iinc (v := nI (k + 1)) (lv' := [(11, .int (nI (k + 1))), (9, .int (nI 1)), (10, .int (nI tn)), (0, .ref b), (1, .ref (qw_ad L 8 0)), (2, .ref (qw_ad L 9 1)), (3, .ref (qw_ad L 9 2)), (4, .ref (qw_ad L 9 3)), (5, .ref (qw_ad L 9 4)), (6, .ref (qw_ad L 9 5)), (7, .ref (qw_ad L 9 6))]) F.1 F.2.1 dL_law_188 hl (k := 1) rfl ((qw_ii1 _).trans (nI_add k 1)) (by decide) rfl (fun ls hl => ?_)
    refine lv_goto (tgt := 122) F.1 F.2.1 dL_law_191 (by decide) ?_
    exact ih (k + 1) M2 h2 H locs ls (by omega) (by omega) I2 hP hS (lv_sub hl [0, 2, 1, 3, 4, 5, 6, 7, 8, 9, 10] rfl)
set_option maxRecDepth 100000 in
set_option maxHeartbeats 4000000 in
theorem ql_go (F : CallFix p m c cL_law 12 s #[Value.ref b] wsL_law RL) (G : qw_G L (ql_A s) s) (hX : va_X b NL xs s s.heap) (hbl : b < s.heap.size) (hbA : ¬ ql_A s b) (hNL : NL ≤ 260) (hv : qw_R L) (hv9 : qw_9 L) {sz : Nat} {M : wM} {h : Nat → Nat} {H : Heap} {locs : List Loc} {ls : Array Slot} (I : qd_I M h 0) (hP : qw_P L M h H) (hS : va_S (ql_A s) s.heap H locs) (hl : lv_has ls 12 ((9, .int (nI 1)) :: (8, .int (nI sz)) :: ql_l b L))
    (kend : ∀ (H : Heap) (locs : List Loc) (ls : Array Slot), va_S (ql_A s) s.heap H locs → W p l e room_1 s m #[Value.ref b] below meth c H locs 211 16138 Q (F0 m 253 ls [.int (nI 1)])) : W p l e room_1 s m #[Value.ref b] below meth c H locs 211 16138 Q (F0 m 104 ls []) := by
  refine lv_bipush (v := (nI 10)) F.1 F.2.1 dL_law_104 (by decide) ?_
  refine lv_aload_n F.1 F.2.1 dL_law_106 rfl (lv_at hl 2 rfl) ?_
  refine lv_iconst (v := (nI 1)) F.1 F.2.1 dL_law_107 (by decide) ?_
  refine qr_cell (rest := [.int (nI 10)]) (k := 1) F G hX hbl hbA hNL hP hS (by omega) gL_law_L_cell ⟨(Nat.le_of_ble_eq_true rfl), (Nat.le_of_ble_eq_true rfl)⟩ hl.1 (Nat.le_of_ble_eq_true rfl) ⟨(Nat.le_of_ble_eq_true rfl), (Nat.le_of_ble_eq_true rfl)⟩ rfl dL_law_108 (fun H locs hP hS => ?_)
  refine lv_bipush (v := (nI 50)) F.1 F.2.1 dL_law_111 (by decide) ?_
  obtain ⟨q, hq, eq⟩ := qd_low (ql_cv NL xs 1) (y := nI 50) (n := 50) rfl (by decide) (by decide)
  refine qr_cSi (rest := [.int (nI 10)]) F G hP hS (qc_L_low l G.2.1 (X := M) (h := h) eq) gL_law_L_low rfl ⟨rfl, rfl⟩ e_L_low ⟨(Nat.le_of_ble_eq_true rfl), (Nat.le_of_ble_eq_true rfl)⟩ rfl hl.1 rfl (Nat.le_of_ble_eq_true rfl) ⟨(Nat.le_of_ble_eq_true rfl), (Nat.le_of_ble_eq_true rfl)⟩ dL_law_113 (fun H locs hP hS => ?_)
  refine qr_iadd F (z := nI (10 + q)) (nI_add 10 q).symm dL_law_116 ?_
  refine lv_istore (lv' := [(10, .int (nI (10 + q))), (9, .int (nI 1)), (8, .int (nI sz)), (0, .ref b), (1, .ref (qw_ad L 8 0)), (2, .ref (qw_ad L 9 1)), (3, .ref (qw_ad L 9 2)), (4, .ref (qw_ad L 9 3)), (5, .ref (qw_ad L 9 4)), (6, .ref (qw_ad L 9 5)), (7, .ref (qw_ad L 9 6))]) F.1 F.2.1 dL_law_117 hl (by decide) rfl (fun ls hl => ?_)
  refine lv_iconst (v := (nI 0)) F.1 F.2.1 dL_law_119 (by decide) ?_
  refine lv_istore (lv' := [(11, .int (nI 0)), (10, .int (nI (10 + q))), (9, .int (nI 1)), (8, .int (nI sz)), (0, .ref b), (1, .ref (qw_ad L 8 0)), (2, .ref (qw_ad L 9 1)), (3, .ref (qw_ad L 9 2)), (4, .ref (qw_ad L 9 3)), (5, .ref (qw_ad L 9 4)), (6, .ref (qw_ad L 9 5)), (7, .ref (qw_ad L 9 6))]) F.1 F.2.1 dL_law_120 hl (by decide) rfl (fun ls hl => ?_)
  exact ql_loop (tn := 10 + q) F G hX hbl hbA hNL hv hv9 (by omega) kend 100 0 M h H locs ls (by omega) (by omega) I hP hS (lv_sub hl [0, 1, 2, 4, 5, 6, 7, 8, 9, 10, 11] rfl)
/-- the start of both sides, as the constructor leaves them, behind the law's fresh -/
def ql_M0 (M : wM) : Prop := M 0 = qx_new 8 (fun _ _ => 0) ∧ M 9 = fun _ _ => 0
theorem ql_i0 {M : wM} {h : Nat → Nat} (hM : ql_M0 M) (J : qd_J M h) : qd_I (qw_u1 M 9 (ql_fr 8 (M 9))) h 0 := by
  refine ⟨7, 8, 0, 0, 0, 0, 0, ?_, Nat.le_refl _, qd_J_cg (qw_u1_n _ _ (by decide)) J⟩
  rw [qw_u1_s, qw_u1_n _ _ (by decide), hM.1, hM.2]
  exact ql_begin (m := fun _ _ => 0) (t := fun _ _ => 0) (Z := 8) (by decide) (by decide) rfl (Or.inl rfl)
theorem ql_size {M : wM} {h : Nat → Nat} {q : Nat} (hM : ql_M0 M) (J : qd_J M h) (hq : q < 15) : ∃ (M2 : wM) (h2 : Nat → Nat), qf_X2_begin (nI (2 + q)) (qw_u1 M 9 (ql_fr (2 + q) (ql_fr 8 (M 9)))) h = some (nI 8, M2, h2) ∧ True ∧ qd_I M2 h2 0 := by
  have J1 : qd_J (qw_u1 M 9 (ql_fr (2 + q) (ql_fr 8 (M 9)))) h := qd_J_cg (qw_u1_n _ _ (by decide)) J
  obtain ⟨M2, h2, c1, c2, c3, c4⟩ := qd_begin (Z := 2 + q) J1 (by omega) (by omega)
  rw [qw_u1_n _ _ (by decide)] at c1 c2
  rw [qw_u1_s] at c3
  have f := qx_new_f (m := fun _ _ => (0 : Int32)) (Z := 8)
  have e8 : M 0 0 1 = nI 8 := by rw [hM.1]; exact f.1.2.1
  have e0 : M 0 0 0 = nI 0 := by rw [hM.1]; exact f.1.1
  rw [e8] at c1
  refine ⟨M2, h2, c1, trivial, 2 + q - 1, 2 + q, 0, 0, 0, 0, 0, ?_, Nat.le_refl _, c4⟩
  rw [c2, c3]
  refine ql_begin (by omega) (by omega) ?_ (Or.inl e0)
  rw [e0, ql_fr_1, hM.2]
  rfl
set_option maxRecDepth 100000 in
set_option maxHeartbeats 4000000 in
theorem ql_begins (F : CallFix p m c cL_law 12 s #[Value.ref b] wsL_law RL) (G : qw_G L (ql_A s) s) (hX : va_X b NL xs s s.heap) (hbl : b < s.heap.size) (hbA : ¬ ql_A s b) (hNL : NL ≤ 260) (hv : qw_R L) (hv9 : qw_9 L) {M : wM} {h : Nat → Nat} {H : Heap} {locs : List Loc} {ls : Array Slot} (hM0 : ql_M0 M) (J : qd_J M h) (hP : qw_P L M h H) (hS : va_S (ql_A s) s.heap H locs) (hl : lv_has ls 12 (ql_l b L))
    (kend : ∀ (H : Heap) (locs : List Loc) (ls : Array Slot), va_S (ql_A s) s.heap H locs → W p l e room_1 s m #[Value.ref b] below meth c H locs 211 16138 Q (F0 m 253 ls [.int (nI 1)])) : W p l e room_1 s m #[Value.ref b] below meth c H locs 211 16138 Q (F0 m 42 ls []) := by
  have I := ql_i0 hM0 J
  refine lv_aload_n F.1 F.2.1 dL_law_42 rfl (lv_at hl 2 rfl) ?_
  refine lv_aload F.1 F.2.1 dL_law_43 (lv_at hl 4 rfl) ?_
  refine lv_bipush (v := (nI 8)) F.1 F.2.1 dL_law_45 (by decide) ?_
  refine qr_cSv (rest := []) F G hP hS (qc_L_fresh l G.2.1 (X := M) (X9 := qw_u1 M 9 (ql_fr 8 (M 9))) (h := h) rfl rfl hv9 (ql_fresh (by decide) (by decide))) gL_law_L_fresh rfl ⟨rfl, rfl⟩ e_L_fresh ⟨(Nat.le_of_ble_eq_true rfl), (Nat.le_of_ble_eq_true rfl)⟩ rfl hl.1 rfl (Nat.le_of_ble_eq_true rfl) ⟨(Nat.le_of_ble_eq_true rfl), (Nat.le_of_ble_eq_true rfl)⟩ dL_law_47 (fun H locs hP hS => ?_)
  refine lv_iconst (v := (nI 2)) F.1 F.2.1 dL_law_50 (by decide) ?_
  refine lv_aload_n F.1 F.2.1 dL_law_51 rfl (lv_at hl 0 rfl) ?_
  refine lv_iconst (v := (nI 0)) F.1 F.2.1 dL_law_52 (by decide) ?_
  refine qr_cell (rest := [.int (nI 2)]) (k := 0) F G hX hbl hbA hNL hP hS (by omega) gL_law_L_cell ⟨(Nat.le_of_ble_eq_true rfl), (Nat.le_of_ble_eq_true rfl)⟩ hl.1 (Nat.le_of_ble_eq_true rfl) ⟨(Nat.le_of_ble_eq_true rfl), (Nat.le_of_ble_eq_true rfl)⟩ rfl dL_law_53 (fun H locs hP hS => ?_)
  refine lv_bipush (v := (nI 15)) F.1 F.2.1 dL_law_56 (by decide) ?_
  obtain ⟨q, hq, eq⟩ := qd_low (ql_cv NL xs 0) (y := nI 15) (n := 15) rfl (by decide) (by decide)
  refine qr_cSi (rest := [.int (nI 2)]) F G hP hS (qc_L_low l G.2.1 (X := qw_u1 M 9 (ql_fr 8 (M 9))) (h := h) eq) gL_law_L_low rfl ⟨rfl, rfl⟩ e_L_low ⟨(Nat.le_of_ble_eq_true rfl), (Nat.le_of_ble_eq_true rfl)⟩ rfl hl.1 rfl (Nat.le_of_ble_eq_true rfl) ⟨(Nat.le_of_ble_eq_true rfl), (Nat.le_of_ble_eq_true rfl)⟩ dL_law_58 (fun H locs hP hS => ?_)
  refine qr_iadd F (z := nI (2 + q)) (nI_add 2 q).symm dL_law_61 ?_
  refine lv_istore (lv' := [(8, .int (nI (2 + q))), (0, .ref b), (1, .ref (qw_ad L 8 0)), (2, .ref (qw_ad L 9 1)), (3, .ref (qw_ad L 9 2)), (4, .ref (qw_ad L 9 3)), (5, .ref (qw_ad L 9 4)), (6, .ref (qw_ad L 9 5)), (7, .ref (qw_ad L 9 6))]) F.1 F.2.1 dL_law_62 hl (by decide) rfl (fun ls hl => ?_)
  refine lv_iload F.1 F.2.1 dL_law_64 (lv_at hl 0 rfl) ?_
  refine lv_bipush (v := (nI 8)) F.1 F.2.1 dL_law_66 (by decide) ?_
  refine lv_icmp_eq (tgt := 79) F.1 F.2.1 dL_law_68 (by decide) (fun c1 => ?_) (fun c1 => ?_)
  · refine lv_iload F.1 F.2.1 dL_law_79 (lv_at hl 0 rfl) ?_
    refine lv_bipush (v := (nI 8)) F.1 F.2.1 dL_law_81 (by decide) ?_
    refine lv_icmp_eq (tgt := 97) F.1 F.2.1 dL_law_83 (by decide) (fun _ => ?_) (fun c2 => absurd c1 c2)
    refine lv_iconst (v := (nI 1)) F.1 F.2.1 dL_law_97 (by decide) ?_
    refine lv_goto (tgt := 102) F.1 F.2.1 dL_law_98 (by decide) ?_
    refine lv_istore (lv' := [(9, .int (nI 1)), (8, .int (nI (2 + q))), (0, .ref b), (1, .ref (qw_ad L 8 0)), (2, .ref (qw_ad L 9 1)), (3, .ref (qw_ad L 9 2)), (4, .ref (qw_ad L 9 3)), (5, .ref (qw_ad L 9 4)), (6, .ref (qw_ad L 9 5)), (7, .ref (qw_ad L 9 6))]) F.1 F.2.1 dL_law_102 hl (by decide) rfl (fun ls hl => ?_)
    exact ql_go F G hX hbl hbA hNL hv hv9 I hP hS (lv_sub hl [0, 1, 2, 3, 4, 5, 6, 7, 8, 9] rfl) kend
  · refine lv_aload_n F.1 F.2.1 dL_law_71 rfl (lv_at hl 3 rfl) ?_
    refine lv_aload F.1 F.2.1 dL_law_72 (lv_at hl 5 rfl) ?_
    refine lv_iload F.1 F.2.1 dL_law_74 (lv_at hl 0 rfl) ?_
    refine qr_cSv (rest := []) F G hP hS (qc_L_fresh l G.2.1 (X := qw_u1 M 9 (ql_fr 8 (M 9))) (X9 := qw_u1 M 9 (ql_fr (2 + q) (ql_fr 8 (M 9)))) (h := h) (qw_u1_s _ _ _) (qw_u1_u _ _ _ _) hv9 (ql_fresh (by omega) (by omega))) gL_law_L_fresh rfl ⟨rfl, rfl⟩ e_L_fresh ⟨(Nat.le_of_ble_eq_true rfl), (Nat.le_of_ble_eq_true rfl)⟩ rfl hl.1 rfl (Nat.le_of_ble_eq_true rfl) ⟨(Nat.le_of_ble_eq_true rfl), (Nat.le_of_ble_eq_true rfl)⟩ dL_law_76 (fun H locs hP hS => ?_)
    refine lv_iload F.1 F.2.1 dL_law_79 (lv_at hl 0 rfl) ?_
    refine lv_bipush (v := (nI 8)) F.1 F.2.1 dL_law_81 (by decide) ?_
    refine lv_icmp_eq (tgt := 97) F.1 F.2.1 dL_law_83 (by decide) (fun c2 => absurd c2 c1) (fun _ => ?_)
    refine lv_aload_n F.1 F.2.1 dL_law_86 rfl (lv_at hl 2 rfl) ?_
    refine lv_iload F.1 F.2.1 dL_law_87 (lv_at hl 0 rfl) ?_
    obtain ⟨M2, h2, hA1, hA8, I2⟩ := ql_size (q := q) hM0 J (by omega)
    refine qr_cVi (rest := []) F G hP hS (qc_X2_begin l G.2.1 hv hA1) (qw_rcR hv.1) gL_law_X2_begin rfl ⟨rfl, rfl⟩ e_X2_begin ⟨(Nat.le_of_ble_eq_true rfl), (Nat.le_of_ble_eq_true rfl)⟩ rfl hl.1 rfl (Nat.le_of_ble_eq_true rfl) ⟨(Nat.le_of_ble_eq_true rfl), (Nat.le_of_ble_eq_true rfl)⟩ dL_law_89 (fun H locs hP hS => ?_)
    refine lv_bipush (v := (nI 8)) F.1 F.2.1 dL_law_92 (by decide) ?_
    refine lv_icmp_ne (tgt := 101) F.1 F.2.1 dL_law_94 (by decide) (fun c2 => absurd rfl c2) (fun _ => ?_)
    refine lv_iconst (v := (nI 1)) F.1 F.2.1 dL_law_97 (by decide) ?_
    refine lv_goto (tgt := 102) F.1 F.2.1 dL_law_98 (by decide) ?_
    refine lv_istore (lv' := [(9, .int (nI 1)), (8, .int (nI (2 + q))), (0, .ref b), (1, .ref (qw_ad L 8 0)), (2, .ref (qw_ad L 9 1)), (3, .ref (qw_ad L 9 2)), (4, .ref (qw_ad L 9 3)), (5, .ref (qw_ad L 9 4)), (6, .ref (qw_ad L 9 5)), (7, .ref (qw_ad L 9 6))]) F.1 F.2.1 dL_law_102 hl (by decide) rfl (fun ls hl => ?_)
    exact ql_go F G hX hbl hbA hNL hv hv9 I2 hP hS (lv_sub hl [0, 1, 2, 3, 4, 5, 6, 7, 8, 9] rfl) kend
end QL
