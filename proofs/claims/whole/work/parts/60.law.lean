section QL
variable {p : Program} {l : Launch} {e : Env} {s : State} {m : MethodId} {below : List Frame} {meth : Method} {c : Code} {H : Heap} {locs : List Loc} {Q : State → Prop} {b NL i : Nat} {xs : Nat → Int32} {L : wL} {M : wM} {h : Nat → Nat} {ls : Array Slot}
abbrev ql_A (s : State) : Nat → Prop := fun q => s.heap.size ≤ q
abbrev ql_l (b : Nat) (L : wL) (i : Nat) : List (Nat × Value) := [(0, .ref b), (1, .ref (qw_ad L 8 0)), (2, .ref (qw_ad L 9 0)), (3, .int (nI i))]
set_option maxRecDepth 100000 in
set_option maxHeartbeats 4000000 in
theorem ql_call (F : CallFix p m c cL_law 4 s #[Value.ref b] wsL_law RL) (G : qw_G L (ql_A s) s) (hX : va_X b NL xs s s.heap) (hbl : b < s.heap.size) (hbA : ¬ ql_A s b) (hv : qw_R L) (hv9 : qw_9 L) (h3 : i + 3 ≤ NL) (hNL : NL ≤ 1536) (I : qv_I M h (M 9)) (hP : qw_P L M h H) (hS : va_S (ql_A s) s.heap H locs) (hl : lv_has ls 4 (ql_l b L i))
    (kk : ∀ (M : wM) (h : Nat → Nat) (H : Heap) (locs : List Loc), qv_I M h (M 9) → qw_P L M h H → va_S (ql_A s) s.heap H locs → W p l e room_1 s m #[Value.ref b] below meth c H locs 211 16138 Q (F0 m 578 ls [])) : W p l e room_1 s m #[Value.ref b] below meth c H locs 211 16138 Q (F0 m 128 ls []) := by
  obtain ⟨r, M', h', t', kA, kB, I', e9⟩ := qk_call I (xs (nI (i + 1)).toNatClampNeg) (xs (nI (i + 2)).toNatClampNeg)
  refine lv_aload_n F.1 F.2.1 dL_law_128 rfl (lv_at hl 1 rfl) ?_
  refine lv_aload_n F.1 F.2.1 dL_law_129 rfl (lv_at hl 0 rfl) ?_
  refine lv_iload_n F.1 F.2.1 dL_law_130 rfl (lv_at hl 3 rfl) ?_
  refine lv_iconst (v := nI 1) F.1 F.2.1 dL_law_131 (by decide) ?_
  refine qr_iadd F (z := nI (i + 1)) (nI_add i 1).symm dL_law_132 ?_
  refine va_sld F.1 F.2.1 hX hbl hbA hS (vp_in_nI (show i + 1 < NL by omega) (by omega)) dL_law_133 ?_
  refine lv_aload_n F.1 F.2.1 dL_law_134 rfl (lv_at hl 0 rfl) ?_
  refine lv_iload_n F.1 F.2.1 dL_law_135 rfl (lv_at hl 3 rfl) ?_
  refine lv_iconst (v := nI 2) F.1 F.2.1 dL_law_136 (by decide) ?_
  refine qr_iadd F (z := nI (i + 2)) (nI_add i 2).symm dL_law_137 ?_
  refine va_sld F.1 F.2.1 hX hbl hbA hS (vp_in_nI (show i + 2 < NL by omega) (by omega)) dL_law_138 ?_
  refine qr_cVi (rest := []) F G hP hS (qc_X2_call l G.2.1 hv kA) (qw_rcR hv.1) gL_law_X2_call rfl ⟨rfl, rfl⟩ e_X2_call ⟨(Nat.le_of_ble_eq_true rfl), (Nat.le_of_ble_eq_true rfl)⟩ rfl hl.1 rfl (Nat.le_of_ble_eq_true rfl) ⟨(Nat.le_of_ble_eq_true rfl), (Nat.le_of_ble_eq_true rfl)⟩ dL_law_139 (fun H locs hP hS => ?_)
  refine lv_aload_n F.1 F.2.1 dL_law_142 rfl (lv_at hl 2 rfl) ?_
  refine lv_aload_n F.1 F.2.1 dL_law_143 rfl (lv_at hl 0 rfl) ?_
  refine lv_iload_n F.1 F.2.1 dL_law_144 rfl (lv_at hl 3 rfl) ?_
  refine lv_iconst (v := nI 1) F.1 F.2.1 dL_law_145 (by decide) ?_
  refine qr_iadd F (z := nI (i + 1)) (nI_add i 1).symm dL_law_146 ?_
  refine va_sld F.1 F.2.1 hX hbl hbA hS (vp_in_nI (show i + 1 < NL by omega) (by omega)) dL_law_147 ?_
  refine lv_aload_n F.1 F.2.1 dL_law_148 rfl (lv_at hl 0 rfl) ?_
  refine lv_iload_n F.1 F.2.1 dL_law_149 rfl (lv_at hl 3 rfl) ?_
  refine lv_iconst (v := nI 2) F.1 F.2.1 dL_law_150 (by decide) ?_
  refine qr_iadd F (z := nI (i + 2)) (nI_add i 2).symm dL_law_151 ?_
  refine va_sld F.1 F.2.1 hX hbl hbA hS (vp_in_nI (show i + 2 < NL by omega) (by omega)) dL_law_152 ?_
  refine qr_cVi (rest := [.int r]) F G hP hS (qc_X3_call l G.2.1 (X := M') (X9 := qw_u1 M' 9 t') (h := h') e9 rfl hv9 kB) (qw_rcM hv9) gL_law_X3_call rfl ⟨rfl, rfl⟩ e_X3_call ⟨(Nat.le_of_ble_eq_true rfl), (Nat.le_of_ble_eq_true rfl)⟩ rfl hl.1 rfl (Nat.le_of_ble_eq_true rfl) ⟨(Nat.le_of_ble_eq_true rfl), (Nat.le_of_ble_eq_true rfl)⟩ dL_law_153 (fun H locs hP hS => ?_)
  refine lv_icmp_eq (tgt := 578) F.1 F.2.1 dL_law_156 (by decide) (fun _ => ?_) (fun c1 => absurd rfl c1)
  exact kk (qw_u1 M' 9 t') h' H locs (by rw [qw_u1_s]; exact qv_I_cg (fun k hk => qw_u1_n _ _ (by omega)) I') hP hS
set_option maxRecDepth 100000 in
set_option maxHeartbeats 4000000 in
theorem ql_tail (F : CallFix p m c cL_law 4 s #[Value.ref b] wsL_law RL) (G : qw_G L (ql_A s) s) (hX : va_X b NL xs s s.heap) (hbl : b < s.heap.size) (hbA : ¬ ql_A s b) (hv : qw_R L) (hv9 : qw_9 L) (h3 : i + 3 ≤ NL) (hNL : NL ≤ 1536) (I : qv_I M h (M 9)) (hP : qw_P L M h H) (hS : va_S (ql_A s) s.heap H locs) (hl : lv_has ls 4 (ql_l b L i))
    (kk : ∀ (M : wM) (h : Nat → Nat) (H : Heap) (locs : List Loc), qv_I M h (M 9) → qw_P L M h H → va_S (ql_A s) s.heap H locs → W p l e room_1 s m #[Value.ref b] below meth c H locs 211 16138 Q (F0 m 578 ls [])) : W p l e room_1 s m #[Value.ref b] below meth c H locs 211 16138 Q (F0 m 161 ls []) := by
  obtain ⟨r, M', h', t', kA, kB, I', e9⟩ := qk_tail I (xs (nI (i + 1)).toNatClampNeg)
  refine lv_aload_n F.1 F.2.1 dL_law_161 rfl (lv_at hl 1 rfl) ?_
  refine lv_aload_n F.1 F.2.1 dL_law_162 rfl (lv_at hl 0 rfl) ?_
  refine lv_iload_n F.1 F.2.1 dL_law_163 rfl (lv_at hl 3 rfl) ?_
  refine lv_iconst (v := nI 1) F.1 F.2.1 dL_law_164 (by decide) ?_
  refine qr_iadd F (z := nI (i + 1)) (nI_add i 1).symm dL_law_165 ?_
  refine va_sld F.1 F.2.1 hX hbl hbA hS (vp_in_nI (show i + 1 < NL by omega) (by omega)) dL_law_166 ?_
  refine qr_cVi (rest := []) F G hP hS (qc_X2_tail l G.2.1 hv kA) (qw_rcR hv.1) gL_law_X2_tail rfl ⟨rfl, rfl⟩ e_X2_tail ⟨(Nat.le_of_ble_eq_true rfl), (Nat.le_of_ble_eq_true rfl)⟩ rfl hl.1 rfl (Nat.le_of_ble_eq_true rfl) ⟨(Nat.le_of_ble_eq_true rfl), (Nat.le_of_ble_eq_true rfl)⟩ dL_law_167 (fun H locs hP hS => ?_)
  refine lv_aload_n F.1 F.2.1 dL_law_170 rfl (lv_at hl 2 rfl) ?_
  refine lv_aload_n F.1 F.2.1 dL_law_171 rfl (lv_at hl 0 rfl) ?_
  refine lv_iload_n F.1 F.2.1 dL_law_172 rfl (lv_at hl 3 rfl) ?_
  refine lv_iconst (v := nI 1) F.1 F.2.1 dL_law_173 (by decide) ?_
  refine qr_iadd F (z := nI (i + 1)) (nI_add i 1).symm dL_law_174 ?_
  refine va_sld F.1 F.2.1 hX hbl hbA hS (vp_in_nI (show i + 1 < NL by omega) (by omega)) dL_law_175 ?_
  refine qr_cVi (rest := [.int r]) F G hP hS (qc_X3_tail l G.2.1 (X := M') (X9 := qw_u1 M' 9 t') (h := h') e9 rfl hv9 kB) (qw_rcM hv9) gL_law_X3_tail rfl ⟨rfl, rfl⟩ e_X3_tail ⟨(Nat.le_of_ble_eq_true rfl), (Nat.le_of_ble_eq_true rfl)⟩ rfl hl.1 rfl (Nat.le_of_ble_eq_true rfl) ⟨(Nat.le_of_ble_eq_true rfl), (Nat.le_of_ble_eq_true rfl)⟩ dL_law_176 (fun H locs hP hS => ?_)
  refine lv_icmp_eq (tgt := 578) F.1 F.2.1 dL_law_179 (by decide) (fun _ => ?_) (fun c1 => absurd rfl c1)
  exact kk (qw_u1 M' 9 t') h' H locs (by rw [qw_u1_s]; exact qv_I_cg (fun k hk => qw_u1_n _ _ (by omega)) I') hP hS
set_option maxRecDepth 100000 in
set_option maxHeartbeats 4000000 in
theorem ql_ret (F : CallFix p m c cL_law 4 s #[Value.ref b] wsL_law RL) (G : qw_G L (ql_A s) s) (hX : va_X b NL xs s s.heap) (hbl : b < s.heap.size) (hbA : ¬ ql_A s b) (hv : qw_R L) (hv9 : qw_9 L) (h3 : i + 3 ≤ NL) (hNL : NL ≤ 1536) (I : qv_I M h (M 9)) (hP : qw_P L M h H) (hS : va_S (ql_A s) s.heap H locs) (hl : lv_has ls 4 (ql_l b L i))
    (kk : ∀ (M : wM) (h : Nat → Nat) (H : Heap) (locs : List Loc), qv_I M h (M 9) → qw_P L M h H → va_S (ql_A s) s.heap H locs → W p l e room_1 s m #[Value.ref b] below meth c H locs 211 16138 Q (F0 m 578 ls [])) : W p l e room_1 s m #[Value.ref b] below meth c H locs 211 16138 Q (F0 m 184 ls []) := by
  obtain ⟨r, M', h', t', kA, kB, I', e9⟩ := qk_ret I 
  refine lv_aload_n F.1 F.2.1 dL_law_184 rfl (lv_at hl 1 rfl) ?_
  refine qr_cVi (rest := []) F G hP hS (qc_X2_ret l G.2.1 hv kA) (qw_rcR hv.1) gL_law_X2_ret rfl ⟨rfl, rfl⟩ e_X2_ret ⟨(Nat.le_of_ble_eq_true rfl), (Nat.le_of_ble_eq_true rfl)⟩ rfl hl.1 rfl (Nat.le_of_ble_eq_true rfl) ⟨(Nat.le_of_ble_eq_true rfl), (Nat.le_of_ble_eq_true rfl)⟩ dL_law_185 (fun H locs hP hS => ?_)
  refine lv_aload_n F.1 F.2.1 dL_law_188 rfl (lv_at hl 2 rfl) ?_
  refine qr_cVi (rest := [.int r]) F G hP hS (qc_X3_ret l G.2.1 (X := M') (X9 := qw_u1 M' 9 t') (h := h') e9 rfl hv9 kB) (qw_rcM hv9) gL_law_X3_ret rfl ⟨rfl, rfl⟩ e_X3_ret ⟨(Nat.le_of_ble_eq_true rfl), (Nat.le_of_ble_eq_true rfl)⟩ rfl hl.1 rfl (Nat.le_of_ble_eq_true rfl) ⟨(Nat.le_of_ble_eq_true rfl), (Nat.le_of_ble_eq_true rfl)⟩ dL_law_189 (fun H locs hP hS => ?_)
  refine lv_icmp_eq (tgt := 578) F.1 F.2.1 dL_law_192 (by decide) (fun _ => ?_) (fun c1 => absurd rfl c1)
  exact kk (qw_u1 M' 9 t') h' H locs (by rw [qw_u1_s]; exact qv_I_cg (fun k hk => qw_u1_n _ _ (by omega)) I') hP hS
set_option maxRecDepth 100000 in
set_option maxHeartbeats 4000000 in
theorem ql_raise (F : CallFix p m c cL_law 4 s #[Value.ref b] wsL_law RL) (G : qw_G L (ql_A s) s) (hX : va_X b NL xs s s.heap) (hbl : b < s.heap.size) (hbA : ¬ ql_A s b) (hv : qw_R L) (hv9 : qw_9 L) (h3 : i + 3 ≤ NL) (hNL : NL ≤ 1536) (I : qv_I M h (M 9)) (hP : qw_P L M h H) (hS : va_S (ql_A s) s.heap H locs) (hl : lv_has ls 4 (ql_l b L i))
    (kk : ∀ (M : wM) (h : Nat → Nat) (H : Heap) (locs : List Loc), qv_I M h (M 9) → qw_P L M h H → va_S (ql_A s) s.heap H locs → W p l e room_1 s m #[Value.ref b] below meth c H locs 211 16138 Q (F0 m 578 ls [])) : W p l e room_1 s m #[Value.ref b] below meth c H locs 211 16138 Q (F0 m 197 ls []) := by
  obtain ⟨r, M', h', t', kA, kB, I', e9⟩ := qk_raise I (xs (nI (i + 1)).toNatClampNeg)
  refine lv_aload_n F.1 F.2.1 dL_law_197 rfl (lv_at hl 1 rfl) ?_
  refine lv_aload_n F.1 F.2.1 dL_law_198 rfl (lv_at hl 0 rfl) ?_
  refine lv_iload_n F.1 F.2.1 dL_law_199 rfl (lv_at hl 3 rfl) ?_
  refine lv_iconst (v := nI 1) F.1 F.2.1 dL_law_200 (by decide) ?_
  refine qr_iadd F (z := nI (i + 1)) (nI_add i 1).symm dL_law_201 ?_
  refine va_sld F.1 F.2.1 hX hbl hbA hS (vp_in_nI (show i + 1 < NL by omega) (by omega)) dL_law_202 ?_
  refine qr_cVi (rest := []) F G hP hS (qc_X2_raise l G.2.1 hv kA) (qw_rcR hv.1) gL_law_X2_raise rfl ⟨rfl, rfl⟩ e_X2_raise ⟨(Nat.le_of_ble_eq_true rfl), (Nat.le_of_ble_eq_true rfl)⟩ rfl hl.1 rfl (Nat.le_of_ble_eq_true rfl) ⟨(Nat.le_of_ble_eq_true rfl), (Nat.le_of_ble_eq_true rfl)⟩ dL_law_203 (fun H locs hP hS => ?_)
  refine lv_aload_n F.1 F.2.1 dL_law_206 rfl (lv_at hl 2 rfl) ?_
  refine lv_aload_n F.1 F.2.1 dL_law_207 rfl (lv_at hl 0 rfl) ?_
  refine lv_iload_n F.1 F.2.1 dL_law_208 rfl (lv_at hl 3 rfl) ?_
  refine lv_iconst (v := nI 1) F.1 F.2.1 dL_law_209 (by decide) ?_
  refine qr_iadd F (z := nI (i + 1)) (nI_add i 1).symm dL_law_210 ?_
  refine va_sld F.1 F.2.1 hX hbl hbA hS (vp_in_nI (show i + 1 < NL by omega) (by omega)) dL_law_211 ?_
  refine qr_cVi (rest := [.int r]) F G hP hS (qc_X3_raise l G.2.1 (X := M') (X9 := qw_u1 M' 9 t') (h := h') e9 rfl hv9 kB) (qw_rcM hv9) gL_law_X3_raise rfl ⟨rfl, rfl⟩ e_X3_raise ⟨(Nat.le_of_ble_eq_true rfl), (Nat.le_of_ble_eq_true rfl)⟩ rfl hl.1 rfl (Nat.le_of_ble_eq_true rfl) ⟨(Nat.le_of_ble_eq_true rfl), (Nat.le_of_ble_eq_true rfl)⟩ dL_law_212 (fun H locs hP hS => ?_)
  refine lv_icmp_eq (tgt := 578) F.1 F.2.1 dL_law_215 (by decide) (fun _ => ?_) (fun c1 => absurd rfl c1)
  exact kk (qw_u1 M' 9 t') h' H locs (by rw [qw_u1_s]; exact qv_I_cg (fun k hk => qw_u1_n _ _ (by omega)) I') hP hS
set_option maxRecDepth 100000 in
set_option maxHeartbeats 4000000 in
theorem ql_setRepair (F : CallFix p m c cL_law 4 s #[Value.ref b] wsL_law RL) (G : qw_G L (ql_A s) s) (hX : va_X b NL xs s s.heap) (hbl : b < s.heap.size) (hbA : ¬ ql_A s b) (hv : qw_R L) (hv9 : qw_9 L) (h3 : i + 3 ≤ NL) (hNL : NL ≤ 1536) (I : qv_I M h (M 9)) (hP : qw_P L M h H) (hS : va_S (ql_A s) s.heap H locs) (hl : lv_has ls 4 (ql_l b L i))
    (kk : ∀ (M : wM) (h : Nat → Nat) (H : Heap) (locs : List Loc), qv_I M h (M 9) → qw_P L M h H → va_S (ql_A s) s.heap H locs → W p l e room_1 s m #[Value.ref b] below meth c H locs 211 16138 Q (F0 m 578 ls [])) : W p l e room_1 s m #[Value.ref b] below meth c H locs 211 16138 Q (F0 m 220 ls []) := by
  obtain ⟨r, M', h', t', kA, kB, I', e9⟩ := qk_setRepair I (xs (nI (i + 1)).toNatClampNeg)
  refine lv_aload_n F.1 F.2.1 dL_law_220 rfl (lv_at hl 1 rfl) ?_
  refine lv_aload_n F.1 F.2.1 dL_law_221 rfl (lv_at hl 0 rfl) ?_
  refine lv_iload_n F.1 F.2.1 dL_law_222 rfl (lv_at hl 3 rfl) ?_
  refine lv_iconst (v := nI 1) F.1 F.2.1 dL_law_223 (by decide) ?_
  refine qr_iadd F (z := nI (i + 1)) (nI_add i 1).symm dL_law_224 ?_
  refine va_sld F.1 F.2.1 hX hbl hbA hS (vp_in_nI (show i + 1 < NL by omega) (by omega)) dL_law_225 ?_
  refine qr_cVi (rest := []) F G hP hS (qc_X2_setRepair l G.2.1 hv kA) (qw_rcR hv.1) gL_law_X2_setRepair rfl ⟨rfl, rfl⟩ e_X2_setRepair ⟨(Nat.le_of_ble_eq_true rfl), (Nat.le_of_ble_eq_true rfl)⟩ rfl hl.1 rfl (Nat.le_of_ble_eq_true rfl) ⟨(Nat.le_of_ble_eq_true rfl), (Nat.le_of_ble_eq_true rfl)⟩ dL_law_226 (fun H locs hP hS => ?_)
  refine lv_aload_n F.1 F.2.1 dL_law_229 rfl (lv_at hl 2 rfl) ?_
  refine lv_aload_n F.1 F.2.1 dL_law_230 rfl (lv_at hl 0 rfl) ?_
  refine lv_iload_n F.1 F.2.1 dL_law_231 rfl (lv_at hl 3 rfl) ?_
  refine lv_iconst (v := nI 1) F.1 F.2.1 dL_law_232 (by decide) ?_
  refine qr_iadd F (z := nI (i + 1)) (nI_add i 1).symm dL_law_233 ?_
  refine va_sld F.1 F.2.1 hX hbl hbA hS (vp_in_nI (show i + 1 < NL by omega) (by omega)) dL_law_234 ?_
  refine qr_cVi (rest := [.int r]) F G hP hS (qc_X3_setRepair l G.2.1 (X := M') (X9 := qw_u1 M' 9 t') (h := h') e9 rfl hv9 kB) (qw_rcM hv9) gL_law_X3_setRepair rfl ⟨rfl, rfl⟩ e_X3_setRepair ⟨(Nat.le_of_ble_eq_true rfl), (Nat.le_of_ble_eq_true rfl)⟩ rfl hl.1 rfl (Nat.le_of_ble_eq_true rfl) ⟨(Nat.le_of_ble_eq_true rfl), (Nat.le_of_ble_eq_true rfl)⟩ dL_law_235 (fun H locs hP hS => ?_)
  refine lv_icmp_eq (tgt := 578) F.1 F.2.1 dL_law_238 (by decide) (fun _ => ?_) (fun c1 => absurd rfl c1)
  exact kk (qw_u1 M' 9 t') h' H locs (by rw [qw_u1_s]; exact qv_I_cg (fun k hk => qw_u1_n _ _ (by omega)) I') hP hS
set_option maxRecDepth 100000 in
set_option maxHeartbeats 4000000 in
theorem ql_begin (F : CallFix p m c cL_law 4 s #[Value.ref b] wsL_law RL) (G : qw_G L (ql_A s) s) (hX : va_X b NL xs s s.heap) (hbl : b < s.heap.size) (hbA : ¬ ql_A s b) (hv : qw_R L) (hv9 : qw_9 L) (h3 : i + 3 ≤ NL) (hNL : NL ≤ 1536) (I : qv_I M h (M 9)) (hP : qw_P L M h H) (hS : va_S (ql_A s) s.heap H locs) (hl : lv_has ls 4 (ql_l b L i))
    (kk : ∀ (M : wM) (h : Nat → Nat) (H : Heap) (locs : List Loc), qv_I M h (M 9) → qw_P L M h H → va_S (ql_A s) s.heap H locs → W p l e room_1 s m #[Value.ref b] below meth c H locs 211 16138 Q (F0 m 578 ls [])) : W p l e room_1 s m #[Value.ref b] below meth c H locs 211 16138 Q (F0 m 243 ls []) := by
  obtain ⟨r, M', h', t', kA, kB, I', e9⟩ := qk_begin I (xs (nI (i + 1)).toNatClampNeg)
  refine lv_aload_n F.1 F.2.1 dL_law_243 rfl (lv_at hl 1 rfl) ?_
  refine lv_aload_n F.1 F.2.1 dL_law_244 rfl (lv_at hl 0 rfl) ?_
  refine lv_iload_n F.1 F.2.1 dL_law_245 rfl (lv_at hl 3 rfl) ?_
  refine lv_iconst (v := nI 1) F.1 F.2.1 dL_law_246 (by decide) ?_
  refine qr_iadd F (z := nI (i + 1)) (nI_add i 1).symm dL_law_247 ?_
  refine va_sld F.1 F.2.1 hX hbl hbA hS (vp_in_nI (show i + 1 < NL by omega) (by omega)) dL_law_248 ?_
  refine qr_cVi (rest := []) F G hP hS (qc_X2_begin l G.2.1 hv kA) (qw_rcR hv.1) gL_law_X2_begin rfl ⟨rfl, rfl⟩ e_X2_begin ⟨(Nat.le_of_ble_eq_true rfl), (Nat.le_of_ble_eq_true rfl)⟩ rfl hl.1 rfl (Nat.le_of_ble_eq_true rfl) ⟨(Nat.le_of_ble_eq_true rfl), (Nat.le_of_ble_eq_true rfl)⟩ dL_law_249 (fun H locs hP hS => ?_)
  refine lv_aload_n F.1 F.2.1 dL_law_252 rfl (lv_at hl 2 rfl) ?_
  refine lv_aload_n F.1 F.2.1 dL_law_253 rfl (lv_at hl 0 rfl) ?_
  refine lv_iload_n F.1 F.2.1 dL_law_254 rfl (lv_at hl 3 rfl) ?_
  refine lv_iconst (v := nI 1) F.1 F.2.1 dL_law_255 (by decide) ?_
  refine qr_iadd F (z := nI (i + 1)) (nI_add i 1).symm dL_law_256 ?_
  refine va_sld F.1 F.2.1 hX hbl hbA hS (vp_in_nI (show i + 1 < NL by omega) (by omega)) dL_law_257 ?_
  refine qr_cVi (rest := [.int r]) F G hP hS (qc_X3_begin l G.2.1 (X := M') (X9 := qw_u1 M' 9 t') (h := h') e9 rfl hv9 kB) (qw_rcM hv9) gL_law_X3_begin rfl ⟨rfl, rfl⟩ e_X3_begin ⟨(Nat.le_of_ble_eq_true rfl), (Nat.le_of_ble_eq_true rfl)⟩ rfl hl.1 rfl (Nat.le_of_ble_eq_true rfl) ⟨(Nat.le_of_ble_eq_true rfl), (Nat.le_of_ble_eq_true rfl)⟩ dL_law_258 (fun H locs hP hS => ?_)
  refine lv_icmp_eq (tgt := 578) F.1 F.2.1 dL_law_261 (by decide) (fun _ => ?_) (fun c1 => absurd rfl c1)
  exact kk (qw_u1 M' 9 t') h' H locs (by rw [qw_u1_s]; exact qv_I_cg (fun k hk => qw_u1_n _ _ (by omega)) I') hP hS
set_option maxRecDepth 100000 in
set_option maxHeartbeats 4000000 in
theorem ql_undo (F : CallFix p m c cL_law 4 s #[Value.ref b] wsL_law RL) (G : qw_G L (ql_A s) s) (hX : va_X b NL xs s s.heap) (hbl : b < s.heap.size) (hbA : ¬ ql_A s b) (hv : qw_R L) (hv9 : qw_9 L) (h3 : i + 3 ≤ NL) (hNL : NL ≤ 1536) (I : qv_I M h (M 9)) (hP : qw_P L M h H) (hS : va_S (ql_A s) s.heap H locs) (hl : lv_has ls 4 (ql_l b L i))
    (kk : ∀ (M : wM) (h : Nat → Nat) (H : Heap) (locs : List Loc), qv_I M h (M 9) → qw_P L M h H → va_S (ql_A s) s.heap H locs → W p l e room_1 s m #[Value.ref b] below meth c H locs 211 16138 Q (F0 m 578 ls [])) : W p l e room_1 s m #[Value.ref b] below meth c H locs 211 16138 Q (F0 m 266 ls []) := by
  obtain ⟨r, M', h', t', kA, kB, I', e9⟩ := qk_undo I 
  refine lv_aload_n F.1 F.2.1 dL_law_266 rfl (lv_at hl 1 rfl) ?_
  refine qr_cVi (rest := []) F G hP hS (qc_X2_undo l G.2.1 hv kA) (qw_rcR hv.1) gL_law_X2_undo rfl ⟨rfl, rfl⟩ e_X2_undo ⟨(Nat.le_of_ble_eq_true rfl), (Nat.le_of_ble_eq_true rfl)⟩ rfl hl.1 rfl (Nat.le_of_ble_eq_true rfl) ⟨(Nat.le_of_ble_eq_true rfl), (Nat.le_of_ble_eq_true rfl)⟩ dL_law_267 (fun H locs hP hS => ?_)
  refine lv_aload_n F.1 F.2.1 dL_law_270 rfl (lv_at hl 2 rfl) ?_
  refine qr_cVi (rest := [.int r]) F G hP hS (qc_X3_undo l G.2.1 (X := M') (X9 := qw_u1 M' 9 t') (h := h') e9 rfl hv9 kB) (qw_rcM hv9) gL_law_X3_undo rfl ⟨rfl, rfl⟩ e_X3_undo ⟨(Nat.le_of_ble_eq_true rfl), (Nat.le_of_ble_eq_true rfl)⟩ rfl hl.1 rfl (Nat.le_of_ble_eq_true rfl) ⟨(Nat.le_of_ble_eq_true rfl), (Nat.le_of_ble_eq_true rfl)⟩ dL_law_271 (fun H locs hP hS => ?_)
  refine lv_icmp_eq (tgt := 578) F.1 F.2.1 dL_law_274 (by decide) (fun _ => ?_) (fun c1 => absurd rfl c1)
  exact kk (qw_u1 M' 9 t') h' H locs (by rw [qw_u1_s]; exact qv_I_cg (fun k hk => qw_u1_n _ _ (by omega)) I') hP hS
set_option maxRecDepth 100000 in
set_option maxHeartbeats 4000000 in
theorem ql_append (F : CallFix p m c cL_law 4 s #[Value.ref b] wsL_law RL) (G : qw_G L (ql_A s) s) (hX : va_X b NL xs s s.heap) (hbl : b < s.heap.size) (hbA : ¬ ql_A s b) (hv : qw_R L) (hv9 : qw_9 L) (h3 : i + 3 ≤ NL) (hNL : NL ≤ 1536) (I : qv_I M h (M 9)) (hP : qw_P L M h H) (hS : va_S (ql_A s) s.heap H locs) (hl : lv_has ls 4 (ql_l b L i))
    (kk : ∀ (M : wM) (h : Nat → Nat) (H : Heap) (locs : List Loc), qv_I M h (M 9) → qw_P L M h H → va_S (ql_A s) s.heap H locs → W p l e room_1 s m #[Value.ref b] below meth c H locs 211 16138 Q (F0 m 578 ls [])) : W p l e room_1 s m #[Value.ref b] below meth c H locs 211 16138 Q (F0 m 279 ls []) := by
  obtain ⟨r, M', h', t', kA, kB, I', e9⟩ := qk_append I (xs (nI (i + 1)).toNatClampNeg)
  refine lv_aload_n F.1 F.2.1 dL_law_279 rfl (lv_at hl 1 rfl) ?_
  refine lv_aload_n F.1 F.2.1 dL_law_280 rfl (lv_at hl 0 rfl) ?_
  refine lv_iload_n F.1 F.2.1 dL_law_281 rfl (lv_at hl 3 rfl) ?_
  refine lv_iconst (v := nI 1) F.1 F.2.1 dL_law_282 (by decide) ?_
  refine qr_iadd F (z := nI (i + 1)) (nI_add i 1).symm dL_law_283 ?_
  refine va_sld F.1 F.2.1 hX hbl hbA hS (vp_in_nI (show i + 1 < NL by omega) (by omega)) dL_law_284 ?_
  refine qr_cVi (rest := []) F G hP hS (qc_X2_append l G.2.1 hv kA) (qw_rcR hv.1) gL_law_X2_append rfl ⟨rfl, rfl⟩ e_X2_append ⟨(Nat.le_of_ble_eq_true rfl), (Nat.le_of_ble_eq_true rfl)⟩ rfl hl.1 rfl (Nat.le_of_ble_eq_true rfl) ⟨(Nat.le_of_ble_eq_true rfl), (Nat.le_of_ble_eq_true rfl)⟩ dL_law_285 (fun H locs hP hS => ?_)
  refine lv_aload_n F.1 F.2.1 dL_law_288 rfl (lv_at hl 2 rfl) ?_
  refine lv_aload_n F.1 F.2.1 dL_law_289 rfl (lv_at hl 0 rfl) ?_
  refine lv_iload_n F.1 F.2.1 dL_law_290 rfl (lv_at hl 3 rfl) ?_
  refine lv_iconst (v := nI 1) F.1 F.2.1 dL_law_291 (by decide) ?_
  refine qr_iadd F (z := nI (i + 1)) (nI_add i 1).symm dL_law_292 ?_
  refine va_sld F.1 F.2.1 hX hbl hbA hS (vp_in_nI (show i + 1 < NL by omega) (by omega)) dL_law_293 ?_
  refine qr_cVi (rest := [.int r]) F G hP hS (qc_X3_append l G.2.1 (X := M') (X9 := qw_u1 M' 9 t') (h := h') e9 rfl hv9 kB) (qw_rcM hv9) gL_law_X3_append rfl ⟨rfl, rfl⟩ e_X3_append ⟨(Nat.le_of_ble_eq_true rfl), (Nat.le_of_ble_eq_true rfl)⟩ rfl hl.1 rfl (Nat.le_of_ble_eq_true rfl) ⟨(Nat.le_of_ble_eq_true rfl), (Nat.le_of_ble_eq_true rfl)⟩ dL_law_294 (fun H locs hP hS => ?_)
  refine lv_icmp_eq (tgt := 578) F.1 F.2.1 dL_law_297 (by decide) (fun _ => ?_) (fun c1 => absurd rfl c1)
  exact kk (qw_u1 M' 9 t') h' H locs (by rw [qw_u1_s]; exact qv_I_cg (fun k hk => qw_u1_n _ _ (by omega)) I') hP hS
set_option maxRecDepth 100000 in
set_option maxHeartbeats 4000000 in
theorem ql_clearText (F : CallFix p m c cL_law 4 s #[Value.ref b] wsL_law RL) (G : qw_G L (ql_A s) s) (hX : va_X b NL xs s s.heap) (hbl : b < s.heap.size) (hbA : ¬ ql_A s b) (hv : qw_R L) (hv9 : qw_9 L) (h3 : i + 3 ≤ NL) (hNL : NL ≤ 1536) (I : qv_I M h (M 9)) (hP : qw_P L M h H) (hS : va_S (ql_A s) s.heap H locs) (hl : lv_has ls 4 (ql_l b L i))
    (kk : ∀ (M : wM) (h : Nat → Nat) (H : Heap) (locs : List Loc), qv_I M h (M 9) → qw_P L M h H → va_S (ql_A s) s.heap H locs → W p l e room_1 s m #[Value.ref b] below meth c H locs 211 16138 Q (F0 m 578 ls [])) : W p l e room_1 s m #[Value.ref b] below meth c H locs 211 16138 Q (F0 m 302 ls []) := by
  obtain ⟨r, M', h', t', kA, kB, I', e9⟩ := qk_clearText I 
  refine lv_aload_n F.1 F.2.1 dL_law_302 rfl (lv_at hl 1 rfl) ?_
  refine qr_cVi (rest := []) F G hP hS (qc_X2_clearText l G.2.1 hv kA) (qw_rcR hv.1) gL_law_X2_clearText rfl ⟨rfl, rfl⟩ e_X2_clearText ⟨(Nat.le_of_ble_eq_true rfl), (Nat.le_of_ble_eq_true rfl)⟩ rfl hl.1 rfl (Nat.le_of_ble_eq_true rfl) ⟨(Nat.le_of_ble_eq_true rfl), (Nat.le_of_ble_eq_true rfl)⟩ dL_law_303 (fun H locs hP hS => ?_)
  refine lv_aload_n F.1 F.2.1 dL_law_306 rfl (lv_at hl 2 rfl) ?_
  refine qr_cVi (rest := [.int r]) F G hP hS (qc_X3_clearText l G.2.1 (X := M') (X9 := qw_u1 M' 9 t') (h := h') e9 rfl hv9 kB) (qw_rcM hv9) gL_law_X3_clearText rfl ⟨rfl, rfl⟩ e_X3_clearText ⟨(Nat.le_of_ble_eq_true rfl), (Nat.le_of_ble_eq_true rfl)⟩ rfl hl.1 rfl (Nat.le_of_ble_eq_true rfl) ⟨(Nat.le_of_ble_eq_true rfl), (Nat.le_of_ble_eq_true rfl)⟩ dL_law_307 (fun H locs hP hS => ?_)
  refine lv_icmp_eq (tgt := 578) F.1 F.2.1 dL_law_310 (by decide) (fun _ => ?_) (fun c1 => absurd rfl c1)
  exact kk (qw_u1 M' 9 t') h' H locs (by rw [qw_u1_s]; exact qv_I_cg (fun k hk => qw_u1_n _ _ (by omega)) I') hP hS
set_option maxRecDepth 100000 in
set_option maxHeartbeats 4000000 in
theorem ql_run (F : CallFix p m c cL_law 4 s #[Value.ref b] wsL_law RL) (G : qw_G L (ql_A s) s) (hX : va_X b NL xs s s.heap) (hbl : b < s.heap.size) (hbA : ¬ ql_A s b) (hv : qw_R L) (hv9 : qw_9 L) (h3 : i + 3 ≤ NL) (hNL : NL ≤ 1536) (I : qv_I M h (M 9)) (hP : qw_P L M h H) (hS : va_S (ql_A s) s.heap H locs) (hl : lv_has ls 4 (ql_l b L i))
    (kk : ∀ (M : wM) (h : Nat → Nat) (H : Heap) (locs : List Loc), qv_I M h (M 9) → qw_P L M h H → va_S (ql_A s) s.heap H locs → W p l e room_1 s m #[Value.ref b] below meth c H locs 211 16138 Q (F0 m 578 ls [])) : W p l e room_1 s m #[Value.ref b] below meth c H locs 211 16138 Q (F0 m 315 ls []) := by
  obtain ⟨r, M', h', t', kA, kB, I', e9⟩ := qk_run I 
  refine lv_aload_n F.1 F.2.1 dL_law_315 rfl (lv_at hl 1 rfl) ?_
  refine qr_cVi (rest := []) F G hP hS (qc_X2_run l G.2.1 hv kA) (qw_rcR hv.1) gL_law_X2_run rfl ⟨rfl, rfl⟩ e_X2_run ⟨(Nat.le_of_ble_eq_true rfl), (Nat.le_of_ble_eq_true rfl)⟩ rfl hl.1 rfl (Nat.le_of_ble_eq_true rfl) ⟨(Nat.le_of_ble_eq_true rfl), (Nat.le_of_ble_eq_true rfl)⟩ dL_law_316 (fun H locs hP hS => ?_)
  refine lv_aload_n F.1 F.2.1 dL_law_319 rfl (lv_at hl 2 rfl) ?_
  refine qr_cVi (rest := [.int r]) F G hP hS (qc_X3_run l G.2.1 (X := M') (X9 := qw_u1 M' 9 t') (h := h') e9 rfl hv9 kB) (qw_rcM hv9) gL_law_X3_run rfl ⟨rfl, rfl⟩ e_X3_run ⟨(Nat.le_of_ble_eq_true rfl), (Nat.le_of_ble_eq_true rfl)⟩ rfl hl.1 rfl (Nat.le_of_ble_eq_true rfl) ⟨(Nat.le_of_ble_eq_true rfl), (Nat.le_of_ble_eq_true rfl)⟩ dL_law_320 (fun H locs hP hS => ?_)
  refine lv_icmp_eq (tgt := 578) F.1 F.2.1 dL_law_323 (by decide) (fun _ => ?_) (fun c1 => absurd rfl c1)
  exact kk (qw_u1 M' 9 t') h' H locs (by rw [qw_u1_s]; exact qv_I_cg (fun k hk => qw_u1_n _ _ (by omega)) I') hP hS
set_option maxRecDepth 100000 in
set_option maxHeartbeats 4000000 in
theorem ql_count (F : CallFix p m c cL_law 4 s #[Value.ref b] wsL_law RL) (G : qw_G L (ql_A s) s) (hX : va_X b NL xs s s.heap) (hbl : b < s.heap.size) (hbA : ¬ ql_A s b) (hv : qw_R L) (hv9 : qw_9 L) (h3 : i + 3 ≤ NL) (hNL : NL ≤ 1536) (I : qv_I M h (M 9)) (hP : qw_P L M h H) (hS : va_S (ql_A s) s.heap H locs) (hl : lv_has ls 4 (ql_l b L i))
    (kk : ∀ (M : wM) (h : Nat → Nat) (H : Heap) (locs : List Loc), qv_I M h (M 9) → qw_P L M h H → va_S (ql_A s) s.heap H locs → W p l e room_1 s m #[Value.ref b] below meth c H locs 211 16138 Q (F0 m 578 ls [])) : W p l e room_1 s m #[Value.ref b] below meth c H locs 211 16138 Q (F0 m 328 ls []) := by
  obtain ⟨r, kA, kB⟩ := qk_count I (xs (nI (i + 1)).toNatClampNeg)
  refine lv_aload_n F.1 F.2.1 dL_law_328 rfl (lv_at hl 1 rfl) ?_
  refine lv_aload_n F.1 F.2.1 dL_law_329 rfl (lv_at hl 0 rfl) ?_
  refine lv_iload_n F.1 F.2.1 dL_law_330 rfl (lv_at hl 3 rfl) ?_
  refine lv_iconst (v := nI 1) F.1 F.2.1 dL_law_331 (by decide) ?_
  refine qr_iadd F (z := nI (i + 1)) (nI_add i 1).symm dL_law_332 ?_
  refine va_sld F.1 F.2.1 hX hbl hbA hS (vp_in_nI (show i + 1 < NL by omega) (by omega)) dL_law_333 ?_
  refine qr_cVi (rest := []) F G hP hS (qc_X2_count l G.2.1 hv kA) (qw_rcR hv.1) gL_law_X2_count rfl ⟨rfl, rfl⟩ e_X2_count ⟨(Nat.le_of_ble_eq_true rfl), (Nat.le_of_ble_eq_true rfl)⟩ rfl hl.1 rfl (Nat.le_of_ble_eq_true rfl) ⟨(Nat.le_of_ble_eq_true rfl), (Nat.le_of_ble_eq_true rfl)⟩ dL_law_334 (fun H locs hP hS => ?_)
  refine lv_aload_n F.1 F.2.1 dL_law_337 rfl (lv_at hl 2 rfl) ?_
  refine lv_aload_n F.1 F.2.1 dL_law_338 rfl (lv_at hl 0 rfl) ?_
  refine lv_iload_n F.1 F.2.1 dL_law_339 rfl (lv_at hl 3 rfl) ?_
  refine lv_iconst (v := nI 1) F.1 F.2.1 dL_law_340 (by decide) ?_
  refine qr_iadd F (z := nI (i + 1)) (nI_add i 1).symm dL_law_341 ?_
  refine va_sld F.1 F.2.1 hX hbl hbA hS (vp_in_nI (show i + 1 < NL by omega) (by omega)) dL_law_342 ?_
  refine qr_cVi (rest := [.int r]) F G hP hS (qc_X3_count l G.2.1 (X := M) (h := h) rfl hv9 kB) (qw_rcM hv9) gL_law_X3_count rfl ⟨rfl, rfl⟩ e_X3_count ⟨(Nat.le_of_ble_eq_true rfl), (Nat.le_of_ble_eq_true rfl)⟩ rfl hl.1 rfl (Nat.le_of_ble_eq_true rfl) ⟨(Nat.le_of_ble_eq_true rfl), (Nat.le_of_ble_eq_true rfl)⟩ dL_law_343 (fun H locs hP hS => ?_)
  refine lv_icmp_eq (tgt := 578) F.1 F.2.1 dL_law_346 (by decide) (fun _ => ?_) (fun c1 => absurd rfl c1)
  exact kk M h H locs I hP hS
set_option maxRecDepth 100000 in
set_option maxHeartbeats 4000000 in
theorem ql_frame (F : CallFix p m c cL_law 4 s #[Value.ref b] wsL_law RL) (G : qw_G L (ql_A s) s) (hX : va_X b NL xs s s.heap) (hbl : b < s.heap.size) (hbA : ¬ ql_A s b) (hv : qw_R L) (hv9 : qw_9 L) (h3 : i + 3 ≤ NL) (hNL : NL ≤ 1536) (I : qv_I M h (M 9)) (hP : qw_P L M h H) (hS : va_S (ql_A s) s.heap H locs) (hl : lv_has ls 4 (ql_l b L i))
    (kk : ∀ (M : wM) (h : Nat → Nat) (H : Heap) (locs : List Loc), qv_I M h (M 9) → qw_P L M h H → va_S (ql_A s) s.heap H locs → W p l e room_1 s m #[Value.ref b] below meth c H locs 211 16138 Q (F0 m 578 ls [])) : W p l e room_1 s m #[Value.ref b] below meth c H locs 211 16138 Q (F0 m 351 ls []) := by
  obtain ⟨r, kA, kB⟩ := qk_frame I (xs (nI (i + 1)).toNatClampNeg) (xs (nI (i + 2)).toNatClampNeg)
  refine lv_aload_n F.1 F.2.1 dL_law_351 rfl (lv_at hl 1 rfl) ?_
  refine lv_aload_n F.1 F.2.1 dL_law_352 rfl (lv_at hl 0 rfl) ?_
  refine lv_iload_n F.1 F.2.1 dL_law_353 rfl (lv_at hl 3 rfl) ?_
  refine lv_iconst (v := nI 1) F.1 F.2.1 dL_law_354 (by decide) ?_
  refine qr_iadd F (z := nI (i + 1)) (nI_add i 1).symm dL_law_355 ?_
  refine va_sld F.1 F.2.1 hX hbl hbA hS (vp_in_nI (show i + 1 < NL by omega) (by omega)) dL_law_356 ?_
  refine lv_aload_n F.1 F.2.1 dL_law_357 rfl (lv_at hl 0 rfl) ?_
  refine lv_iload_n F.1 F.2.1 dL_law_358 rfl (lv_at hl 3 rfl) ?_
  refine lv_iconst (v := nI 2) F.1 F.2.1 dL_law_359 (by decide) ?_
  refine qr_iadd F (z := nI (i + 2)) (nI_add i 2).symm dL_law_360 ?_
  refine va_sld F.1 F.2.1 hX hbl hbA hS (vp_in_nI (show i + 2 < NL by omega) (by omega)) dL_law_361 ?_
  refine qr_cVi (rest := []) F G hP hS (qc_X2_frame l G.2.1 hv kA) (qw_rcR hv.1) gL_law_X2_frame rfl ⟨rfl, rfl⟩ e_X2_frame ⟨(Nat.le_of_ble_eq_true rfl), (Nat.le_of_ble_eq_true rfl)⟩ rfl hl.1 rfl (Nat.le_of_ble_eq_true rfl) ⟨(Nat.le_of_ble_eq_true rfl), (Nat.le_of_ble_eq_true rfl)⟩ dL_law_362 (fun H locs hP hS => ?_)
  refine lv_aload_n F.1 F.2.1 dL_law_365 rfl (lv_at hl 2 rfl) ?_
  refine lv_aload_n F.1 F.2.1 dL_law_366 rfl (lv_at hl 0 rfl) ?_
  refine lv_iload_n F.1 F.2.1 dL_law_367 rfl (lv_at hl 3 rfl) ?_
  refine lv_iconst (v := nI 1) F.1 F.2.1 dL_law_368 (by decide) ?_
  refine qr_iadd F (z := nI (i + 1)) (nI_add i 1).symm dL_law_369 ?_
  refine va_sld F.1 F.2.1 hX hbl hbA hS (vp_in_nI (show i + 1 < NL by omega) (by omega)) dL_law_370 ?_
  refine lv_aload_n F.1 F.2.1 dL_law_371 rfl (lv_at hl 0 rfl) ?_
  refine lv_iload_n F.1 F.2.1 dL_law_372 rfl (lv_at hl 3 rfl) ?_
  refine lv_iconst (v := nI 2) F.1 F.2.1 dL_law_373 (by decide) ?_
  refine qr_iadd F (z := nI (i + 2)) (nI_add i 2).symm dL_law_374 ?_
  refine va_sld F.1 F.2.1 hX hbl hbA hS (vp_in_nI (show i + 2 < NL by omega) (by omega)) dL_law_375 ?_
  refine qr_cVi (rest := [.int r]) F G hP hS (qc_X3_frame l G.2.1 (X := M) (h := h) rfl hv9 kB) (qw_rcM hv9) gL_law_X3_frame rfl ⟨rfl, rfl⟩ e_X3_frame ⟨(Nat.le_of_ble_eq_true rfl), (Nat.le_of_ble_eq_true rfl)⟩ rfl hl.1 rfl (Nat.le_of_ble_eq_true rfl) ⟨(Nat.le_of_ble_eq_true rfl), (Nat.le_of_ble_eq_true rfl)⟩ dL_law_376 (fun H locs hP hS => ?_)
  refine lv_icmp_eq (tgt := 578) F.1 F.2.1 dL_law_379 (by decide) (fun _ => ?_) (fun c1 => absurd rfl c1)
  exact kk M h H locs I hP hS
set_option maxRecDepth 100000 in
set_option maxHeartbeats 4000000 in
theorem ql_slot (F : CallFix p m c cL_law 4 s #[Value.ref b] wsL_law RL) (G : qw_G L (ql_A s) s) (hX : va_X b NL xs s s.heap) (hbl : b < s.heap.size) (hbA : ¬ ql_A s b) (hv : qw_R L) (hv9 : qw_9 L) (h3 : i + 3 ≤ NL) (hNL : NL ≤ 1536) (I : qv_I M h (M 9)) (hP : qw_P L M h H) (hS : va_S (ql_A s) s.heap H locs) (hl : lv_has ls 4 (ql_l b L i))
    (kk : ∀ (M : wM) (h : Nat → Nat) (H : Heap) (locs : List Loc), qv_I M h (M 9) → qw_P L M h H → va_S (ql_A s) s.heap H locs → W p l e room_1 s m #[Value.ref b] below meth c H locs 211 16138 Q (F0 m 578 ls [])) : W p l e room_1 s m #[Value.ref b] below meth c H locs 211 16138 Q (F0 m 384 ls []) := by
  obtain ⟨r, kA, kB⟩ := qk_slot I (xs (nI (i + 1)).toNatClampNeg) (xs (nI (i + 2)).toNatClampNeg)
  refine lv_aload_n F.1 F.2.1 dL_law_384 rfl (lv_at hl 1 rfl) ?_
  refine lv_aload_n F.1 F.2.1 dL_law_385 rfl (lv_at hl 0 rfl) ?_
  refine lv_iload_n F.1 F.2.1 dL_law_386 rfl (lv_at hl 3 rfl) ?_
  refine lv_iconst (v := nI 1) F.1 F.2.1 dL_law_387 (by decide) ?_
  refine qr_iadd F (z := nI (i + 1)) (nI_add i 1).symm dL_law_388 ?_
  refine va_sld F.1 F.2.1 hX hbl hbA hS (vp_in_nI (show i + 1 < NL by omega) (by omega)) dL_law_389 ?_
  refine lv_aload_n F.1 F.2.1 dL_law_390 rfl (lv_at hl 0 rfl) ?_
  refine lv_iload_n F.1 F.2.1 dL_law_391 rfl (lv_at hl 3 rfl) ?_
  refine lv_iconst (v := nI 2) F.1 F.2.1 dL_law_392 (by decide) ?_
  refine qr_iadd F (z := nI (i + 2)) (nI_add i 2).symm dL_law_393 ?_
  refine va_sld F.1 F.2.1 hX hbl hbA hS (vp_in_nI (show i + 2 < NL by omega) (by omega)) dL_law_394 ?_
  refine qr_cVi (rest := []) F G hP hS (qc_X2_slot l G.2.1 hv kA) (qw_rcR hv.1) gL_law_X2_slot rfl ⟨rfl, rfl⟩ e_X2_slot ⟨(Nat.le_of_ble_eq_true rfl), (Nat.le_of_ble_eq_true rfl)⟩ rfl hl.1 rfl (Nat.le_of_ble_eq_true rfl) ⟨(Nat.le_of_ble_eq_true rfl), (Nat.le_of_ble_eq_true rfl)⟩ dL_law_395 (fun H locs hP hS => ?_)
  refine lv_aload_n F.1 F.2.1 dL_law_398 rfl (lv_at hl 2 rfl) ?_
  refine lv_aload_n F.1 F.2.1 dL_law_399 rfl (lv_at hl 0 rfl) ?_
  refine lv_iload_n F.1 F.2.1 dL_law_400 rfl (lv_at hl 3 rfl) ?_
  refine lv_iconst (v := nI 1) F.1 F.2.1 dL_law_401 (by decide) ?_
  refine qr_iadd F (z := nI (i + 1)) (nI_add i 1).symm dL_law_402 ?_
  refine va_sld F.1 F.2.1 hX hbl hbA hS (vp_in_nI (show i + 1 < NL by omega) (by omega)) dL_law_403 ?_
  refine lv_aload_n F.1 F.2.1 dL_law_404 rfl (lv_at hl 0 rfl) ?_
  refine lv_iload_n F.1 F.2.1 dL_law_405 rfl (lv_at hl 3 rfl) ?_
  refine lv_iconst (v := nI 2) F.1 F.2.1 dL_law_406 (by decide) ?_
  refine qr_iadd F (z := nI (i + 2)) (nI_add i 2).symm dL_law_407 ?_
  refine va_sld F.1 F.2.1 hX hbl hbA hS (vp_in_nI (show i + 2 < NL by omega) (by omega)) dL_law_408 ?_
  refine qr_cVi (rest := [.int r]) F G hP hS (qc_X3_slot l G.2.1 (X := M) (h := h) rfl hv9 kB) (qw_rcM hv9) gL_law_X3_slot rfl ⟨rfl, rfl⟩ e_X3_slot ⟨(Nat.le_of_ble_eq_true rfl), (Nat.le_of_ble_eq_true rfl)⟩ rfl hl.1 rfl (Nat.le_of_ble_eq_true rfl) ⟨(Nat.le_of_ble_eq_true rfl), (Nat.le_of_ble_eq_true rfl)⟩ dL_law_409 (fun H locs hP hS => ?_)
  refine lv_icmp_eq (tgt := 578) F.1 F.2.1 dL_law_412 (by decide) (fun _ => ?_) (fun c1 => absurd rfl c1)
  exact kk M h H locs I hP hS
set_option maxRecDepth 100000 in
set_option maxHeartbeats 4000000 in
theorem ql_confession (F : CallFix p m c cL_law 4 s #[Value.ref b] wsL_law RL) (G : qw_G L (ql_A s) s) (hX : va_X b NL xs s s.heap) (hbl : b < s.heap.size) (hbA : ¬ ql_A s b) (hv : qw_R L) (hv9 : qw_9 L) (h3 : i + 3 ≤ NL) (hNL : NL ≤ 1536) (I : qv_I M h (M 9)) (hP : qw_P L M h H) (hS : va_S (ql_A s) s.heap H locs) (hl : lv_has ls 4 (ql_l b L i))
    (kk : ∀ (M : wM) (h : Nat → Nat) (H : Heap) (locs : List Loc), qv_I M h (M 9) → qw_P L M h H → va_S (ql_A s) s.heap H locs → W p l e room_1 s m #[Value.ref b] below meth c H locs 211 16138 Q (F0 m 578 ls [])) : W p l e room_1 s m #[Value.ref b] below meth c H locs 211 16138 Q (F0 m 417 ls []) := by
  obtain ⟨r, kA, kB⟩ := qk_confession I (xs (nI (i + 1)).toNatClampNeg) (xs (nI (i + 2)).toNatClampNeg)
  refine lv_aload_n F.1 F.2.1 dL_law_417 rfl (lv_at hl 1 rfl) ?_
  refine lv_aload_n F.1 F.2.1 dL_law_418 rfl (lv_at hl 0 rfl) ?_
  refine lv_iload_n F.1 F.2.1 dL_law_419 rfl (lv_at hl 3 rfl) ?_
  refine lv_iconst (v := nI 1) F.1 F.2.1 dL_law_420 (by decide) ?_
  refine qr_iadd F (z := nI (i + 1)) (nI_add i 1).symm dL_law_421 ?_
  refine va_sld F.1 F.2.1 hX hbl hbA hS (vp_in_nI (show i + 1 < NL by omega) (by omega)) dL_law_422 ?_
  refine lv_aload_n F.1 F.2.1 dL_law_423 rfl (lv_at hl 0 rfl) ?_
  refine lv_iload_n F.1 F.2.1 dL_law_424 rfl (lv_at hl 3 rfl) ?_
  refine lv_iconst (v := nI 2) F.1 F.2.1 dL_law_425 (by decide) ?_
  refine qr_iadd F (z := nI (i + 2)) (nI_add i 2).symm dL_law_426 ?_
  refine va_sld F.1 F.2.1 hX hbl hbA hS (vp_in_nI (show i + 2 < NL by omega) (by omega)) dL_law_427 ?_
  refine qr_cVi (rest := []) F G hP hS (qc_X2_confession l G.2.1 hv kA) (qw_rcR hv.1) gL_law_X2_confession rfl ⟨rfl, rfl⟩ e_X2_confession ⟨(Nat.le_of_ble_eq_true rfl), (Nat.le_of_ble_eq_true rfl)⟩ rfl hl.1 rfl (Nat.le_of_ble_eq_true rfl) ⟨(Nat.le_of_ble_eq_true rfl), (Nat.le_of_ble_eq_true rfl)⟩ dL_law_428 (fun H locs hP hS => ?_)
  refine lv_aload_n F.1 F.2.1 dL_law_431 rfl (lv_at hl 2 rfl) ?_
  refine lv_aload_n F.1 F.2.1 dL_law_432 rfl (lv_at hl 0 rfl) ?_
  refine lv_iload_n F.1 F.2.1 dL_law_433 rfl (lv_at hl 3 rfl) ?_
  refine lv_iconst (v := nI 1) F.1 F.2.1 dL_law_434 (by decide) ?_
  refine qr_iadd F (z := nI (i + 1)) (nI_add i 1).symm dL_law_435 ?_
  refine va_sld F.1 F.2.1 hX hbl hbA hS (vp_in_nI (show i + 1 < NL by omega) (by omega)) dL_law_436 ?_
  refine lv_aload_n F.1 F.2.1 dL_law_437 rfl (lv_at hl 0 rfl) ?_
  refine lv_iload_n F.1 F.2.1 dL_law_438 rfl (lv_at hl 3 rfl) ?_
  refine lv_iconst (v := nI 2) F.1 F.2.1 dL_law_439 (by decide) ?_
  refine qr_iadd F (z := nI (i + 2)) (nI_add i 2).symm dL_law_440 ?_
  refine va_sld F.1 F.2.1 hX hbl hbA hS (vp_in_nI (show i + 2 < NL by omega) (by omega)) dL_law_441 ?_
  refine qr_cVi (rest := [.int r]) F G hP hS (qc_X3_confession l G.2.1 (X := M) (h := h) rfl hv9 kB) (qw_rcM hv9) gL_law_X3_confession rfl ⟨rfl, rfl⟩ e_X3_confession ⟨(Nat.le_of_ble_eq_true rfl), (Nat.le_of_ble_eq_true rfl)⟩ rfl hl.1 rfl (Nat.le_of_ble_eq_true rfl) ⟨(Nat.le_of_ble_eq_true rfl), (Nat.le_of_ble_eq_true rfl)⟩ dL_law_442 (fun H locs hP hS => ?_)
  refine lv_icmp_eq (tgt := 578) F.1 F.2.1 dL_law_445 (by decide) (fun _ => ?_) (fun c1 => absurd rfl c1)
  exact kk M h H locs I hP hS
set_option maxRecDepth 100000 in
set_option maxHeartbeats 4000000 in
theorem ql_named (F : CallFix p m c cL_law 4 s #[Value.ref b] wsL_law RL) (G : qw_G L (ql_A s) s) (hX : va_X b NL xs s s.heap) (hbl : b < s.heap.size) (hbA : ¬ ql_A s b) (hv : qw_R L) (hv9 : qw_9 L) (h3 : i + 3 ≤ NL) (hNL : NL ≤ 1536) (I : qv_I M h (M 9)) (hP : qw_P L M h H) (hS : va_S (ql_A s) s.heap H locs) (hl : lv_has ls 4 (ql_l b L i))
    (kk : ∀ (M : wM) (h : Nat → Nat) (H : Heap) (locs : List Loc), qv_I M h (M 9) → qw_P L M h H → va_S (ql_A s) s.heap H locs → W p l e room_1 s m #[Value.ref b] below meth c H locs 211 16138 Q (F0 m 578 ls [])) : W p l e room_1 s m #[Value.ref b] below meth c H locs 211 16138 Q (F0 m 450 ls []) := by
  obtain ⟨r, kA, kB⟩ := qk_named I (xs (nI (i + 1)).toNatClampNeg)
  refine lv_aload_n F.1 F.2.1 dL_law_450 rfl (lv_at hl 1 rfl) ?_
  refine lv_aload_n F.1 F.2.1 dL_law_451 rfl (lv_at hl 0 rfl) ?_
  refine lv_iload_n F.1 F.2.1 dL_law_452 rfl (lv_at hl 3 rfl) ?_
  refine lv_iconst (v := nI 1) F.1 F.2.1 dL_law_453 (by decide) ?_
  refine qr_iadd F (z := nI (i + 1)) (nI_add i 1).symm dL_law_454 ?_
  refine va_sld F.1 F.2.1 hX hbl hbA hS (vp_in_nI (show i + 1 < NL by omega) (by omega)) dL_law_455 ?_
  refine qr_cVi (rest := []) F G hP hS (qc_X2_named l G.2.1 hv kA) (qw_rcR hv.1) gL_law_X2_named rfl ⟨rfl, rfl⟩ e_X2_named ⟨(Nat.le_of_ble_eq_true rfl), (Nat.le_of_ble_eq_true rfl)⟩ rfl hl.1 rfl (Nat.le_of_ble_eq_true rfl) ⟨(Nat.le_of_ble_eq_true rfl), (Nat.le_of_ble_eq_true rfl)⟩ dL_law_456 (fun H locs hP hS => ?_)
  refine lv_aload_n F.1 F.2.1 dL_law_459 rfl (lv_at hl 2 rfl) ?_
  refine lv_aload_n F.1 F.2.1 dL_law_460 rfl (lv_at hl 0 rfl) ?_
  refine lv_iload_n F.1 F.2.1 dL_law_461 rfl (lv_at hl 3 rfl) ?_
  refine lv_iconst (v := nI 1) F.1 F.2.1 dL_law_462 (by decide) ?_
  refine qr_iadd F (z := nI (i + 1)) (nI_add i 1).symm dL_law_463 ?_
  refine va_sld F.1 F.2.1 hX hbl hbA hS (vp_in_nI (show i + 1 < NL by omega) (by omega)) dL_law_464 ?_
  refine qr_cVi (rest := [.int r]) F G hP hS (qc_X3_named l G.2.1 (X := M) (h := h) rfl hv9 kB) (qw_rcM hv9) gL_law_X3_named rfl ⟨rfl, rfl⟩ e_X3_named ⟨(Nat.le_of_ble_eq_true rfl), (Nat.le_of_ble_eq_true rfl)⟩ rfl hl.1 rfl (Nat.le_of_ble_eq_true rfl) ⟨(Nat.le_of_ble_eq_true rfl), (Nat.le_of_ble_eq_true rfl)⟩ dL_law_465 (fun H locs hP hS => ?_)
  refine lv_icmp_eq (tgt := 578) F.1 F.2.1 dL_law_468 (by decide) (fun _ => ?_) (fun c1 => absurd rfl c1)
  exact kk M h H locs I hP hS
set_option maxRecDepth 100000 in
set_option maxHeartbeats 4000000 in
theorem ql_worst (F : CallFix p m c cL_law 4 s #[Value.ref b] wsL_law RL) (G : qw_G L (ql_A s) s) (hX : va_X b NL xs s s.heap) (hbl : b < s.heap.size) (hbA : ¬ ql_A s b) (hv : qw_R L) (hv9 : qw_9 L) (h3 : i + 3 ≤ NL) (hNL : NL ≤ 1536) (I : qv_I M h (M 9)) (hP : qw_P L M h H) (hS : va_S (ql_A s) s.heap H locs) (hl : lv_has ls 4 (ql_l b L i))
    (kk : ∀ (M : wM) (h : Nat → Nat) (H : Heap) (locs : List Loc), qv_I M h (M 9) → qw_P L M h H → va_S (ql_A s) s.heap H locs → W p l e room_1 s m #[Value.ref b] below meth c H locs 211 16138 Q (F0 m 578 ls [])) : W p l e room_1 s m #[Value.ref b] below meth c H locs 211 16138 Q (F0 m 473 ls []) := by
  obtain ⟨r, kA, kB⟩ := qk_worst I 
  refine lv_aload_n F.1 F.2.1 dL_law_473 rfl (lv_at hl 1 rfl) ?_
  refine qr_cVi (rest := []) F G hP hS (qc_X2_worst l G.2.1 hv kA) (qw_rcR hv.1) gL_law_X2_worst rfl ⟨rfl, rfl⟩ e_X2_worst ⟨(Nat.le_of_ble_eq_true rfl), (Nat.le_of_ble_eq_true rfl)⟩ rfl hl.1 rfl (Nat.le_of_ble_eq_true rfl) ⟨(Nat.le_of_ble_eq_true rfl), (Nat.le_of_ble_eq_true rfl)⟩ dL_law_474 (fun H locs hP hS => ?_)
  refine lv_aload_n F.1 F.2.1 dL_law_477 rfl (lv_at hl 2 rfl) ?_
  refine qr_cVi (rest := [.int r]) F G hP hS (qc_X3_worst l G.2.1 (X := M) (h := h) rfl hv9 kB) (qw_rcM hv9) gL_law_X3_worst rfl ⟨rfl, rfl⟩ e_X3_worst ⟨(Nat.le_of_ble_eq_true rfl), (Nat.le_of_ble_eq_true rfl)⟩ rfl hl.1 rfl (Nat.le_of_ble_eq_true rfl) ⟨(Nat.le_of_ble_eq_true rfl), (Nat.le_of_ble_eq_true rfl)⟩ dL_law_478 (fun H locs hP hS => ?_)
  refine lv_icmp_eq (tgt := 578) F.1 F.2.1 dL_law_481 (by decide) (fun _ => ?_) (fun c1 => absurd rfl c1)
  exact kk M h H locs I hP hS
set_option maxRecDepth 100000 in
set_option maxHeartbeats 4000000 in
theorem ql_ahead (F : CallFix p m c cL_law 4 s #[Value.ref b] wsL_law RL) (G : qw_G L (ql_A s) s) (hX : va_X b NL xs s s.heap) (hbl : b < s.heap.size) (hbA : ¬ ql_A s b) (hv : qw_R L) (hv9 : qw_9 L) (h3 : i + 3 ≤ NL) (hNL : NL ≤ 1536) (I : qv_I M h (M 9)) (hP : qw_P L M h H) (hS : va_S (ql_A s) s.heap H locs) (hl : lv_has ls 4 (ql_l b L i))
    (kk : ∀ (M : wM) (h : Nat → Nat) (H : Heap) (locs : List Loc), qv_I M h (M 9) → qw_P L M h H → va_S (ql_A s) s.heap H locs → W p l e room_1 s m #[Value.ref b] below meth c H locs 211 16138 Q (F0 m 578 ls [])) : W p l e room_1 s m #[Value.ref b] below meth c H locs 211 16138 Q (F0 m 486 ls []) := by
  obtain ⟨r, kA, kB⟩ := qk_ahead I (xs (nI (i + 1)).toNatClampNeg) (xs (nI (i + 2)).toNatClampNeg)
  refine lv_aload_n F.1 F.2.1 dL_law_486 rfl (lv_at hl 1 rfl) ?_
  refine lv_aload_n F.1 F.2.1 dL_law_487 rfl (lv_at hl 0 rfl) ?_
  refine lv_iload_n F.1 F.2.1 dL_law_488 rfl (lv_at hl 3 rfl) ?_
  refine lv_iconst (v := nI 1) F.1 F.2.1 dL_law_489 (by decide) ?_
  refine qr_iadd F (z := nI (i + 1)) (nI_add i 1).symm dL_law_490 ?_
  refine va_sld F.1 F.2.1 hX hbl hbA hS (vp_in_nI (show i + 1 < NL by omega) (by omega)) dL_law_491 ?_
  refine lv_aload_n F.1 F.2.1 dL_law_492 rfl (lv_at hl 0 rfl) ?_
  refine lv_iload_n F.1 F.2.1 dL_law_493 rfl (lv_at hl 3 rfl) ?_
  refine lv_iconst (v := nI 2) F.1 F.2.1 dL_law_494 (by decide) ?_
  refine qr_iadd F (z := nI (i + 2)) (nI_add i 2).symm dL_law_495 ?_
  refine va_sld F.1 F.2.1 hX hbl hbA hS (vp_in_nI (show i + 2 < NL by omega) (by omega)) dL_law_496 ?_
  refine qr_cVi (rest := []) F G hP hS (qc_X2_ahead l G.2.1 hv kA) (qw_rcR hv.1) gL_law_X2_ahead rfl ⟨rfl, rfl⟩ e_X2_ahead ⟨(Nat.le_of_ble_eq_true rfl), (Nat.le_of_ble_eq_true rfl)⟩ rfl hl.1 rfl (Nat.le_of_ble_eq_true rfl) ⟨(Nat.le_of_ble_eq_true rfl), (Nat.le_of_ble_eq_true rfl)⟩ dL_law_497 (fun H locs hP hS => ?_)
  refine lv_aload_n F.1 F.2.1 dL_law_500 rfl (lv_at hl 2 rfl) ?_
  refine lv_aload_n F.1 F.2.1 dL_law_501 rfl (lv_at hl 0 rfl) ?_
  refine lv_iload_n F.1 F.2.1 dL_law_502 rfl (lv_at hl 3 rfl) ?_
  refine lv_iconst (v := nI 1) F.1 F.2.1 dL_law_503 (by decide) ?_
  refine qr_iadd F (z := nI (i + 1)) (nI_add i 1).symm dL_law_504 ?_
  refine va_sld F.1 F.2.1 hX hbl hbA hS (vp_in_nI (show i + 1 < NL by omega) (by omega)) dL_law_505 ?_
  refine lv_aload_n F.1 F.2.1 dL_law_506 rfl (lv_at hl 0 rfl) ?_
  refine lv_iload_n F.1 F.2.1 dL_law_507 rfl (lv_at hl 3 rfl) ?_
  refine lv_iconst (v := nI 2) F.1 F.2.1 dL_law_508 (by decide) ?_
  refine qr_iadd F (z := nI (i + 2)) (nI_add i 2).symm dL_law_509 ?_
  refine va_sld F.1 F.2.1 hX hbl hbA hS (vp_in_nI (show i + 2 < NL by omega) (by omega)) dL_law_510 ?_
  refine qr_cVi (rest := [.int r]) F G hP hS (qc_X3_ahead l G.2.1 (X := M) (h := h) rfl hv9 kB) (qw_rcM hv9) gL_law_X3_ahead rfl ⟨rfl, rfl⟩ e_X3_ahead ⟨(Nat.le_of_ble_eq_true rfl), (Nat.le_of_ble_eq_true rfl)⟩ rfl hl.1 rfl (Nat.le_of_ble_eq_true rfl) ⟨(Nat.le_of_ble_eq_true rfl), (Nat.le_of_ble_eq_true rfl)⟩ dL_law_511 (fun H locs hP hS => ?_)
  refine lv_icmp_eq (tgt := 578) F.1 F.2.1 dL_law_514 (by decide) (fun _ => ?_) (fun c1 => absurd rfl c1)
  exact kk M h H locs I hP hS
set_option maxRecDepth 100000 in
set_option maxHeartbeats 4000000 in
theorem ql_missesWith (F : CallFix p m c cL_law 4 s #[Value.ref b] wsL_law RL) (G : qw_G L (ql_A s) s) (hX : va_X b NL xs s s.heap) (hbl : b < s.heap.size) (hbA : ¬ ql_A s b) (hv : qw_R L) (hv9 : qw_9 L) (h3 : i + 3 ≤ NL) (hNL : NL ≤ 1536) (I : qv_I M h (M 9)) (hP : qw_P L M h H) (hS : va_S (ql_A s) s.heap H locs) (hl : lv_has ls 4 (ql_l b L i))
    (kk : ∀ (M : wM) (h : Nat → Nat) (H : Heap) (locs : List Loc), qv_I M h (M 9) → qw_P L M h H → va_S (ql_A s) s.heap H locs → W p l e room_1 s m #[Value.ref b] below meth c H locs 211 16138 Q (F0 m 578 ls [])) : W p l e room_1 s m #[Value.ref b] below meth c H locs 211 16138 Q (F0 m 519 ls []) := by
  obtain ⟨r, M', h', t', kA, kB, I', e9⟩ := qk_missesWith I (xs (nI (i + 1)).toNatClampNeg)
  refine lv_aload_n F.1 F.2.1 dL_law_519 rfl (lv_at hl 1 rfl) ?_
  refine lv_aload_n F.1 F.2.1 dL_law_520 rfl (lv_at hl 0 rfl) ?_
  refine lv_iload_n F.1 F.2.1 dL_law_521 rfl (lv_at hl 3 rfl) ?_
  refine lv_iconst (v := nI 1) F.1 F.2.1 dL_law_522 (by decide) ?_
  refine qr_iadd F (z := nI (i + 1)) (nI_add i 1).symm dL_law_523 ?_
  refine va_sld F.1 F.2.1 hX hbl hbA hS (vp_in_nI (show i + 1 < NL by omega) (by omega)) dL_law_524 ?_
  refine qr_cVi (rest := []) F G hP hS (qc_X2_missesWith l G.2.1 hv kA) (qw_rcR hv.1) gL_law_X2_missesWith rfl ⟨rfl, rfl⟩ e_X2_missesWith ⟨(Nat.le_of_ble_eq_true rfl), (Nat.le_of_ble_eq_true rfl)⟩ rfl hl.1 rfl (Nat.le_of_ble_eq_true rfl) ⟨(Nat.le_of_ble_eq_true rfl), (Nat.le_of_ble_eq_true rfl)⟩ dL_law_525 (fun H locs hP hS => ?_)
  refine lv_aload_n F.1 F.2.1 dL_law_528 rfl (lv_at hl 2 rfl) ?_
  refine lv_aload_n F.1 F.2.1 dL_law_529 rfl (lv_at hl 0 rfl) ?_
  refine lv_iload_n F.1 F.2.1 dL_law_530 rfl (lv_at hl 3 rfl) ?_
  refine lv_iconst (v := nI 1) F.1 F.2.1 dL_law_531 (by decide) ?_
  refine qr_iadd F (z := nI (i + 1)) (nI_add i 1).symm dL_law_532 ?_
  refine va_sld F.1 F.2.1 hX hbl hbA hS (vp_in_nI (show i + 1 < NL by omega) (by omega)) dL_law_533 ?_
  refine qr_cVi (rest := [.int r]) F G hP hS (qc_X3_missesWith l G.2.1 (X := M') (X9 := qw_u1 M' 9 t') (h := h') e9 rfl hv9 kB) (qw_rcM hv9) gL_law_X3_missesWith rfl ⟨rfl, rfl⟩ e_X3_missesWith ⟨(Nat.le_of_ble_eq_true rfl), (Nat.le_of_ble_eq_true rfl)⟩ rfl hl.1 rfl (Nat.le_of_ble_eq_true rfl) ⟨(Nat.le_of_ble_eq_true rfl), (Nat.le_of_ble_eq_true rfl)⟩ dL_law_534 (fun H locs hP hS => ?_)
  refine lv_icmp_eq (tgt := 578) F.1 F.2.1 dL_law_537 (by decide) (fun _ => ?_) (fun c1 => absurd rfl c1)
  exact kk (qw_u1 M' 9 t') h' H locs (by rw [qw_u1_s]; exact qv_I_cg (fun k hk => qw_u1_n _ _ (by omega)) I') hP hS
set_option maxRecDepth 100000 in
set_option maxHeartbeats 4000000 in
theorem ql_bestSize (F : CallFix p m c cL_law 4 s #[Value.ref b] wsL_law RL) (G : qw_G L (ql_A s) s) (hX : va_X b NL xs s s.heap) (hbl : b < s.heap.size) (hbA : ¬ ql_A s b) (hv : qw_R L) (hv9 : qw_9 L) (h3 : i + 3 ≤ NL) (hNL : NL ≤ 1536) (I : qv_I M h (M 9)) (hP : qw_P L M h H) (hS : va_S (ql_A s) s.heap H locs) (hl : lv_has ls 4 (ql_l b L i))
    (kk : ∀ (M : wM) (h : Nat → Nat) (H : Heap) (locs : List Loc), qv_I M h (M 9) → qw_P L M h H → va_S (ql_A s) s.heap H locs → W p l e room_1 s m #[Value.ref b] below meth c H locs 211 16138 Q (F0 m 578 ls [])) : W p l e room_1 s m #[Value.ref b] below meth c H locs 211 16138 Q (F0 m 542 ls []) := by
  obtain ⟨r, M', h', t', kA, kB, I', e9⟩ := qk_bestSize I 
  refine lv_aload_n F.1 F.2.1 dL_law_542 rfl (lv_at hl 1 rfl) ?_
  refine qr_cVi (rest := []) F G hP hS (qc_X2_bestSize l G.2.1 hv kA) (qw_rcR hv.1) gL_law_X2_bestSize rfl ⟨rfl, rfl⟩ e_X2_bestSize ⟨(Nat.le_of_ble_eq_true rfl), (Nat.le_of_ble_eq_true rfl)⟩ rfl hl.1 rfl (Nat.le_of_ble_eq_true rfl) ⟨(Nat.le_of_ble_eq_true rfl), (Nat.le_of_ble_eq_true rfl)⟩ dL_law_543 (fun H locs hP hS => ?_)
  refine lv_aload_n F.1 F.2.1 dL_law_546 rfl (lv_at hl 2 rfl) ?_
  refine qr_cVi (rest := [.int r]) F G hP hS (qc_X3_bestSize l G.2.1 (X := M') (X9 := qw_u1 M' 9 t') (h := h') e9 rfl hv9 kB) (qw_rcM hv9) gL_law_X3_bestSize rfl ⟨rfl, rfl⟩ e_X3_bestSize ⟨(Nat.le_of_ble_eq_true rfl), (Nat.le_of_ble_eq_true rfl)⟩ rfl hl.1 rfl (Nat.le_of_ble_eq_true rfl) ⟨(Nat.le_of_ble_eq_true rfl), (Nat.le_of_ble_eq_true rfl)⟩ dL_law_547 (fun H locs hP hS => ?_)
  refine lv_icmp_eq (tgt := 578) F.1 F.2.1 dL_law_550 (by decide) (fun _ => ?_) (fun c1 => absurd rfl c1)
  exact kk (qw_u1 M' 9 t') h' H locs (by rw [qw_u1_s]; exact qv_I_cg (fun k hk => qw_u1_n _ _ (by omega)) I') hP hS
set_option maxRecDepth 100000 in
set_option maxHeartbeats 4000000 in
theorem ql_callsUntil (F : CallFix p m c cL_law 4 s #[Value.ref b] wsL_law RL) (G : qw_G L (ql_A s) s) (hX : va_X b NL xs s s.heap) (hbl : b < s.heap.size) (hbA : ¬ ql_A s b) (hv : qw_R L) (hv9 : qw_9 L) (h3 : i + 3 ≤ NL) (hNL : NL ≤ 1536) (I : qv_I M h (M 9)) (hP : qw_P L M h H) (hS : va_S (ql_A s) s.heap H locs) (hl : lv_has ls 4 (ql_l b L i))
    (kk : ∀ (M : wM) (h : Nat → Nat) (H : Heap) (locs : List Loc), qv_I M h (M 9) → qw_P L M h H → va_S (ql_A s) s.heap H locs → W p l e room_1 s m #[Value.ref b] below meth c H locs 211 16138 Q (F0 m 578 ls [])) : W p l e room_1 s m #[Value.ref b] below meth c H locs 211 16138 Q (F0 m 555 ls []) := by
  obtain ⟨r, kA, kB⟩ := qk_callsUntil I (xs (nI (i + 1)).toNatClampNeg)
  refine lv_aload_n F.1 F.2.1 dL_law_555 rfl (lv_at hl 1 rfl) ?_
  refine lv_aload_n F.1 F.2.1 dL_law_556 rfl (lv_at hl 0 rfl) ?_
  refine lv_iload_n F.1 F.2.1 dL_law_557 rfl (lv_at hl 3 rfl) ?_
  refine lv_iconst (v := nI 1) F.1 F.2.1 dL_law_558 (by decide) ?_
  refine qr_iadd F (z := nI (i + 1)) (nI_add i 1).symm dL_law_559 ?_
  refine va_sld F.1 F.2.1 hX hbl hbA hS (vp_in_nI (show i + 1 < NL by omega) (by omega)) dL_law_560 ?_
  refine qr_cVi (rest := []) F G hP hS (qc_X2_callsUntil l G.2.1 hv kA) (qw_rcR hv.1) gL_law_X2_callsUntil rfl ⟨rfl, rfl⟩ e_X2_callsUntil ⟨(Nat.le_of_ble_eq_true rfl), (Nat.le_of_ble_eq_true rfl)⟩ rfl hl.1 rfl (Nat.le_of_ble_eq_true rfl) ⟨(Nat.le_of_ble_eq_true rfl), (Nat.le_of_ble_eq_true rfl)⟩ dL_law_561 (fun H locs hP hS => ?_)
  refine lv_aload_n F.1 F.2.1 dL_law_564 rfl (lv_at hl 2 rfl) ?_
  refine lv_aload_n F.1 F.2.1 dL_law_565 rfl (lv_at hl 0 rfl) ?_
  refine lv_iload_n F.1 F.2.1 dL_law_566 rfl (lv_at hl 3 rfl) ?_
  refine lv_iconst (v := nI 1) F.1 F.2.1 dL_law_567 (by decide) ?_
  refine qr_iadd F (z := nI (i + 1)) (nI_add i 1).symm dL_law_568 ?_
  refine va_sld F.1 F.2.1 hX hbl hbA hS (vp_in_nI (show i + 1 < NL by omega) (by omega)) dL_law_569 ?_
  refine qr_cVi (rest := [.int r]) F G hP hS (qc_X3_callsUntil l G.2.1 (X := M) (h := h) rfl hv9 kB) (qw_rcM hv9) gL_law_X3_callsUntil rfl ⟨rfl, rfl⟩ e_X3_callsUntil ⟨(Nat.le_of_ble_eq_true rfl), (Nat.le_of_ble_eq_true rfl)⟩ rfl hl.1 rfl (Nat.le_of_ble_eq_true rfl) ⟨(Nat.le_of_ble_eq_true rfl), (Nat.le_of_ble_eq_true rfl)⟩ dL_law_570 (fun H locs hP hS => ?_)
  refine lv_icmp_eq (tgt := 578) F.1 F.2.1 dL_law_573 (by decide) (fun _ => ?_) (fun c1 => absurd rfl c1)
  exact kk M h H locs I hP hS
set_option maxRecDepth 100000 in
set_option maxHeartbeats 4000000 in
/-- THE LAW'S LOOP -/
theorem ql_loop (F : CallFix p m c cL_law 4 s #[Value.ref b] wsL_law RL) (G : qw_G L (ql_A s) s) (hX : va_X b NL xs s s.heap) (hbl : b < s.heap.size) (hbA : ¬ ql_A s b) (hv : qw_R L) (hv9 : qw_9 L) (hNL : NL ≤ 1536)
    (kend : ∀ (H : Heap) (locs : List Loc) (ls : Array Slot), va_S (ql_A s) s.heap H locs → W p l e room_1 s m #[Value.ref b] below meth c H locs 211 16138 Q (F0 m 584 ls [])) : ∀ (n i : Nat) (M : wM) (h : Nat → Nat) (H : Heap) (locs : List Loc) (ls : Array Slot), i ≤ 1539 → 1540 ≤ i + n → qv_I M h (M 9) → qw_P L M h H → va_S (ql_A s) s.heap H locs → lv_has ls 4 (ql_l b L i) → W p l e room_1 s m #[Value.ref b] below meth c H locs 211 16138 Q (F0 m 18 ls []) := by
  intro n
  induction n with
  | zero =>
    intro i M h H locs ls h1 h2
    exact absurd h2 (by omega)
  | succ n ih =>
    intro i M h H locs ls h1 h2 I hP hS hl
    refine lv_iload_n F.1 F.2.1 dL_law_18 rfl (lv_at hl 3 rfl) ?_
    refine lv_aload_n F.1 F.2.1 dL_law_19 rfl (lv_at hl 0 rfl) ?_
    refine va_slen F.1 F.2.1 hX hbl hbA hS dL_law_20 ?_
    refine lv_iconst (v := nI 3) F.1 F.2.1 dL_law_21 (by decide) ?_
    refine qr_isub F (z := nI NL - nI 3) rfl dL_law_22 ?_
    refine lv_icmp_gt (tgt := 584) F.1 F.2.1 dL_law_23 (by decide) (fun c1 => kend H locs ls hS) (fun c1 => ?_)
    have h3 : i + 3 ≤ NL := by
      rcases Nat.lt_or_ge NL 3 with g | g
      · refine absurd ?_ c1
        rw [qa_lt_iff, qa_ti (by omega)]
        rcases (show NL = 0 ∨ NL = 1 ∨ NL = 2 by omega) with rfl | rfl | rfl
        · have e1 : (nI 0 - nI 3).toInt = -3 := by decide
          omega
        · have e1 : (nI 1 - nI 3).toInt = -2 := by decide
          omega
        · have e1 : (nI 2 - nI 3).toInt = -1 := by decide
          omega
      · rw [qa_sub g, qa_lt (by omega) (by omega)] at c1
        omega
    have next : ∀ (M : wM) (h : Nat → Nat) (H : Heap) (locs : List Loc), qv_I M h (M 9) → qw_P L M h H → va_S (ql_A s) s.heap H locs → W p l e room_1 s m #[Value.ref b] below meth c H locs 211 16138 Q (F0 m 578 ls []) := by
      intro M h H locs I hP hS
      refine lv_iinc (v := nI (i + 3)) (lv' := [(3, .int (nI (i + 3))), (0, .ref b), (1, .ref (qw_ad L 8 0)), (2, .ref (qw_ad L 9 0))]) F.1 F.2.1 dL_law_578 hl (k := 3) rfl ((show nI i + Int32.ofInt 3 = nI i + nI 3 from rfl).trans (nI_add i 3)) (by decide) rfl (fun ls hl => ?_)
      refine lv_goto (tgt := 18) F.1 F.2.1 dL_law_581 (by decide) ?_
      exact ih (i + 3) M h H locs ls (by omega) (by omega) I hP hS (lv_sub hl [1, 2, 3, 0] rfl)
    refine lv_aload_n F.1 F.2.1 dL_law_26 rfl (lv_at hl 0 rfl) ?_
    refine lv_iload_n F.1 F.2.1 dL_law_27 rfl (lv_at hl 3 rfl) ?_
    refine va_sld F.1 F.2.1 hX hbl hbA hS (vp_in_nI (show i < NL by omega) (by omega)) dL_law_28 ?_
    refine lv_bipush (v := nI 31) F.1 F.2.1 dL_law_29 (by decide) ?_
    refine lv_iand F.1 F.2.1 dL_law_31 ?_
    refine lv_topi (fun sw esw => ?_)
    clear esw
    by_cases c100 : sw = nI 0
    · subst c100
      refine lv_tableIn (tgt := 128) F.1 F.2.1 dL_law_32 (x := (nI 0)) (by decide) (by decide) rfl (by decide) ?_
      exact ql_call F G hX hbl hbA hv hv9 h3 hNL I hP hS hl next
    by_cases c101 : sw = nI 1
    · subst c101
      refine lv_tableIn (tgt := 161) F.1 F.2.1 dL_law_32 (x := (nI 1)) (by decide) (by decide) rfl (by decide) ?_
      exact ql_tail F G hX hbl hbA hv hv9 h3 hNL I hP hS hl next
    by_cases c102 : sw = nI 2
    · subst c102
      refine lv_tableIn (tgt := 184) F.1 F.2.1 dL_law_32 (x := (nI 2)) (by decide) (by decide) rfl (by decide) ?_
      exact ql_ret F G hX hbl hbA hv hv9 h3 hNL I hP hS hl next
    by_cases c103 : sw = nI 3
    · subst c103
      refine lv_tableIn (tgt := 197) F.1 F.2.1 dL_law_32 (x := (nI 3)) (by decide) (by decide) rfl (by decide) ?_
      exact ql_raise F G hX hbl hbA hv hv9 h3 hNL I hP hS hl next
    by_cases c104 : sw = nI 4
    · subst c104
      refine lv_tableIn (tgt := 220) F.1 F.2.1 dL_law_32 (x := (nI 4)) (by decide) (by decide) rfl (by decide) ?_
      exact ql_setRepair F G hX hbl hbA hv hv9 h3 hNL I hP hS hl next
    by_cases c105 : sw = nI 5
    · subst c105
      refine lv_tableIn (tgt := 243) F.1 F.2.1 dL_law_32 (x := (nI 5)) (by decide) (by decide) rfl (by decide) ?_
      exact ql_begin F G hX hbl hbA hv hv9 h3 hNL I hP hS hl next
    by_cases c106 : sw = nI 6
    · subst c106
      refine lv_tableIn (tgt := 266) F.1 F.2.1 dL_law_32 (x := (nI 6)) (by decide) (by decide) rfl (by decide) ?_
      exact ql_undo F G hX hbl hbA hv hv9 h3 hNL I hP hS hl next
    by_cases c107 : sw = nI 7
    · subst c107
      refine lv_tableIn (tgt := 279) F.1 F.2.1 dL_law_32 (x := (nI 7)) (by decide) (by decide) rfl (by decide) ?_
      exact ql_append F G hX hbl hbA hv hv9 h3 hNL I hP hS hl next
    by_cases c108 : sw = nI 8
    · subst c108
      refine lv_tableIn (tgt := 302) F.1 F.2.1 dL_law_32 (x := (nI 8)) (by decide) (by decide) rfl (by decide) ?_
      exact ql_clearText F G hX hbl hbA hv hv9 h3 hNL I hP hS hl next
    by_cases c109 : sw = nI 9
    · subst c109
      refine lv_tableIn (tgt := 315) F.1 F.2.1 dL_law_32 (x := (nI 9)) (by decide) (by decide) rfl (by decide) ?_
      exact ql_run F G hX hbl hbA hv hv9 h3 hNL I hP hS hl next
    by_cases c110 : sw = nI 10
    · subst c110
      refine lv_tableIn (tgt := 328) F.1 F.2.1 dL_law_32 (x := (nI 10)) (by decide) (by decide) rfl (by decide) ?_
      exact ql_count F G hX hbl hbA hv hv9 h3 hNL I hP hS hl next
    by_cases c111 : sw = nI 11
    · subst c111
      refine lv_tableIn (tgt := 351) F.1 F.2.1 dL_law_32 (x := (nI 11)) (by decide) (by decide) rfl (by decide) ?_
      exact ql_frame F G hX hbl hbA hv hv9 h3 hNL I hP hS hl next
    by_cases c112 : sw = nI 12
    · subst c112
      refine lv_tableIn (tgt := 384) F.1 F.2.1 dL_law_32 (x := (nI 12)) (by decide) (by decide) rfl (by decide) ?_
      exact ql_slot F G hX hbl hbA hv hv9 h3 hNL I hP hS hl next
    by_cases c113 : sw = nI 13
    · subst c113
      refine lv_tableIn (tgt := 417) F.1 F.2.1 dL_law_32 (x := (nI 13)) (by decide) (by decide) rfl (by decide) ?_
      exact ql_confession F G hX hbl hbA hv hv9 h3 hNL I hP hS hl next
    by_cases c114 : sw = nI 14
    · subst c114
      refine lv_tableIn (tgt := 450) F.1 F.2.1 dL_law_32 (x := (nI 14)) (by decide) (by decide) rfl (by decide) ?_
      exact ql_named F G hX hbl hbA hv hv9 h3 hNL I hP hS hl next
    by_cases c115 : sw = nI 15
    · subst c115
      refine lv_tableIn (tgt := 473) F.1 F.2.1 dL_law_32 (x := (nI 15)) (by decide) (by decide) rfl (by decide) ?_
      exact ql_worst F G hX hbl hbA hv hv9 h3 hNL I hP hS hl next
    by_cases c116 : sw = nI 16
    · subst c116
      refine lv_tableIn (tgt := 486) F.1 F.2.1 dL_law_32 (x := (nI 16)) (by decide) (by decide) rfl (by decide) ?_
      exact ql_ahead F G hX hbl hbA hv hv9 h3 hNL I hP hS hl next
    by_cases c117 : sw = nI 17
    · subst c117
      refine lv_tableIn (tgt := 519) F.1 F.2.1 dL_law_32 (x := (nI 17)) (by decide) (by decide) rfl (by decide) ?_
      exact ql_missesWith F G hX hbl hbA hv hv9 h3 hNL I hP hS hl next
    by_cases c118 : sw = nI 18
    · subst c118
      refine lv_tableIn (tgt := 542) F.1 F.2.1 dL_law_32 (x := (nI 18)) (by decide) (by decide) rfl (by decide) ?_
      exact ql_bestSize F G hX hbl hbA hv hv9 h3 hNL I hP hS hl next
    by_cases c119 : sw = nI 19
    · subst c119
      refine lv_tableIn (tgt := 555) F.1 F.2.1 dL_law_32 (x := (nI 19)) (by decide) (by decide) rfl (by decide) ?_
      exact ql_callsUntil F G hX hbl hbA hv hv9 h3 hNL I hP hS hl next
    refine qr_swD F (tgt := 578) (n := 19) dL_law_32 rfl (by decide) (fun j hj => ?_) (by decide) (next M h H locs I hP hS)
    rcases (show j = 0 ∨ j = 1 ∨ j = 2 ∨ j = 3 ∨ j = 4 ∨ j = 5 ∨ j = 6 ∨ j = 7 ∨ j = 8 ∨ j = 9 ∨ j = 10 ∨ j = 11 ∨ j = 12 ∨ j = 13 ∨ j = 14 ∨ j = 15 ∨ j = 16 ∨ j = 17 ∨ j = 18 ∨ j = 19 by omega) with rfl | rfl | rfl | rfl | rfl | rfl | rfl | rfl | rfl | rfl | rfl | rfl | rfl | rfl | rfl | rfl | rfl | rfl | rfl | rfl
    · exact c100
    · exact c101
    · exact c102
    · exact c103
    · exact c104
    · exact c105
    · exact c106
    · exact c107
    · exact c108
    · exact c109
    · exact c110
    · exact c111
    · exact c112
    · exact c113
    · exact c114
    · exact c115
    · exact c116
    · exact c117
    · exact c118
    · exact c119
end QL
