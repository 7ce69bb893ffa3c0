def qw_Pre (L : wL) (X : wM) (hp : Nat → Nat) : State → Prop := fun U => qw_P L X hp U.heap ∧ va_K L.1 vwCl (qw_T L) U
def qw_MI (l : Launch) (y : MethodName) (ws : List Cond) (rm : Room) (L : wL) (av : List Value) (X : wM) (hp : Nat → Nat) (r : Int32) (X' : wM) (hp' : Nat → Nat) : Prop :=
  Met l y ws rm (va_Pc av (qw_Pre L X hp)) (va_Qi (fun (r' : Int32) (_ : Unit) => r' = r) (fun _ t => qw_P L X' hp' t.heap) (qw_A L)) 0 0 (qw_A L)
def qw_MV (l : Launch) (y : MethodName) (ws : List Cond) (rm : Room) (L : wL) (av : List Value) (X : wM) (hp : Nat → Nat) (X' : wM) (hp' : Nat → Nat) : Prop :=
  Met l y ws rm (va_Pc av (qw_Pre L X hp)) (va_Qv (fun (_ : Unit) => True) (fun _ t => qw_P L X' hp' t.heap) (qw_A L)) 0 0 (qw_A L)
def qw_RI (p : Program) (l : Launch) (e : Env) (R : Room) (s : State) (mi : MethodId) (args : Array Value) (below : List Frame) (meth : Method) (co : Code) (cc : ByteArray) (ty : FieldType) (Q : State → Prop) (L : wL) (r : Int32) (X' : wM) (hp' : Nat → Nat) : Prop :=
  ∀ (H : Heap) (locs : List Loc) (pc : Nat) (ls : Array Slot), qw_P L X' hp' H → va_S (qw_A L) s.heap H locs → narrow ty (.int r) = .int r → decode cc pc = .ok (.ireturn, 1) → W p l e R s mi args below meth co H locs 0 0 Q (F0 mi pc ls [.int r])
def qw_RV (p : Program) (l : Launch) (e : Env) (R : Room) (s : State) (mi : MethodId) (args : Array Value) (below : List Frame) (meth : Method) (co : Code) (cc : ByteArray) (Q : State → Prop) (L : wL) (X' : wM) (hp' : Nat → Nat) : Prop :=
  ∀ (H : Heap) (locs : List Loc) (pc : Nat) (ls : Array Slot), qw_P L X' hp' H → va_S (qw_A L) s.heap H locs → decode cc pc = .ok (.return_, 1) → W p l e R s mi args below meth co H locs 0 0 Q (F0 mi pc ls [])
theorem qw_MI_of {l : Launch} {y : MethodName} {ws ws' : List Cond} {rm : Room} {cc : ByteArray} {maxL : Nat} {ty : FieldType} {L : wL} {av : List Value} {X X' : wM} {hp hp' : Nat → Nat} {r : Int32} (hy : plainName y.cls = true) (hw : ws = Cond.code y cc maxL (some ty) :: ws') (hJ : qw_J L) (hlen : (lg_sl av).length ≤ maxL)
    (body : ∀ (p : Program) (e : Env) (s : State) (mi : MethodId) (below : List Frame) (meth : Method) (co : Code) (Q : State → Prop) (ls : Array Slot), CallFix p mi co cc maxL s av.toArray ws y.cls → qw_G L (qw_A L) s → qw_P L X hp s.heap → qw_RI p l e rm s mi av.toArray below meth co cc ty Q L r X' hp' → lv_has ls maxL (lv_args 0 av) → W p l e rm s mi av.toArray below meth co s.heap [] 0 0 Q (F0 mi 0 ls [])) : qw_MI l y ws rm L av X hp r X' hp' := by
  refine Met.ofW (cc := cc) (maxL := maxL) (ret := some ty) hy hw ?_
  intro p e s m args below meth c s₁ B hml hv
  obtain ⟨rfl, hP, hK⟩ := hv
  have hts := atoms_spec (ws := ws) B.pre
  have hown : s.vm.findClass y.cls = some m.cls := findClass_of_methodNamed B.named
  have hl := lv_entry av (n := maxL) hlen
  rw [lg_entry_eq]
  generalize (lg_sl av ++ List.replicate (maxL - (lg_sl av).length) Slot.unset).toArray = ls at hl ⊢
  refine body p e s m below meth c _ ls ⟨B.exec, B.bytes, hml, hown, hts⟩ ⟨hK, hJ, fun k c h => ⟨k, c, h, rfl⟩⟩ hP ?_ hl
  intro H locs pc ls hP' hS' hn hdg
  have hlocks := B.notSynchronized
  exact W.zret B.exec B.bytes B.returns hn (fun t ht hW => ⟨⟨r, (), rfl, rfl, (show qw_P L X' hp' t.heap by rw [ht]; exact hP')⟩, hS'.F ht⟩) hS'.2.2 hdg
theorem qw_MV_of {l : Launch} {y : MethodName} {ws ws' : List Cond} {rm : Room} {cc : ByteArray} {maxL : Nat} {L : wL} {av : List Value} {X X' : wM} {hp hp' : Nat → Nat} (hy : plainName y.cls = true) (hw : ws = Cond.code y cc maxL none :: ws') (hJ : qw_J L) (hlen : (lg_sl av).length ≤ maxL)
    (body : ∀ (p : Program) (e : Env) (s : State) (mi : MethodId) (below : List Frame) (meth : Method) (co : Code) (Q : State → Prop) (ls : Array Slot), CallFix p mi co cc maxL s av.toArray ws y.cls → qw_G L (qw_A L) s → qw_P L X hp s.heap → qw_RV p l e rm s mi av.toArray below meth co cc Q L X' hp' → lv_has ls maxL (lv_args 0 av) → W p l e rm s mi av.toArray below meth co s.heap [] 0 0 Q (F0 mi 0 ls [])) : qw_MV l y ws rm L av X hp X' hp' := by
  refine Met.ofW (cc := cc) (maxL := maxL) (ret := none) hy hw ?_
  intro p e s m args below meth c s₁ B hml hv
  obtain ⟨rfl, hP, hK⟩ := hv
  have hts := atoms_spec (ws := ws) B.pre
  have hown : s.vm.findClass y.cls = some m.cls := findClass_of_methodNamed B.named
  have hl := lv_entry av (n := maxL) hlen
  rw [lg_entry_eq]
  generalize (lg_sl av ++ List.replicate (maxL - (lg_sl av).length) Slot.unset).toArray = ls at hl ⊢
  refine body p e s m below meth c _ ls ⟨B.exec, B.bytes, hml, hown, hts⟩ ⟨hK, hJ, fun k c h => ⟨k, c, h, rfl⟩⟩ hP ?_ hl
  intro H locs pc ls hP' hS' hdg
  have hlocks := B.notSynchronized
  exact W.vret B.exec B.bytes B.returns (fun t ht hW => ⟨⟨(), rfl, trivial, (show qw_P L X' hp' t.heap by rw [ht]; exact hP')⟩, hS'.F ht⟩) hS'.2.2 hdg
/-- the receiver at the cell (k, c) is of the class C -/
def qw_rc (C : String) (L : wL) (X : wM) (hp : Nat → Nat) (k c : Nat) : Prop := ∃ (ci : Nat) (q : vw_C) (fs : List Value), qw_in L k c ∧ qw_ct L X hp k c = .inr (ci, fs) ∧ vwCl[ci]? = some q ∧ q.1 = C
theorem qw_rcS {L : wL} {X : wM} {hp : Nat → Nat} {k : Nat} (hk : qw_k L k) : qw_rc RX0 L X hp k 0 := ⟨0, _, _, hk.2 0 (by decide), qw_ctS hk.1 rfl, rfl, rfl⟩
theorem qw_rcX {L : wL} {X : wM} {hp : Nat → Nat} (hv : qw_8 L) : qw_rc RX1 L X hp 8 2 := ⟨1, _, _, hv 2 (by decide), qw_ctX rfl, rfl, rfl⟩
theorem qw_rcR {L : wL} {X : wM} {hp : Nat → Nat} (hv : qw_8 L) : qw_rc RX2 L X hp 8 0 := ⟨2, _, _, hv 0 (by decide), qw_ctR rfl, rfl, rfl⟩
theorem qw_Pre_blind (L : wL) (X : wM) (hp : Nat → Nat) (av : List Value) : FrameBlind (va_Pc av (qw_Pre L X hp)) := fun a U g mk q => ⟨q.1, q.2.1, va_K.moved (u := U) (U := U.calling g mk a) (Vm.Alike.refl U.vm) q.2.2⟩
theorem qw_Pre_at {L : wL} {A : Nat → Prop} {s : State} {X : wM} {hp : Nat → Nat} {H : Heap} (G : qw_G L A s) (hP : qw_P L X hp H) (av : List Value) : ∀ U : State, U.heap = H → s.WarmedH U.vm → va_Pc av (qw_Pre L X hp) av.toArray U := fun U hU hW => ⟨rfl, by rw [hU]; exact hP, va_K.moved hW.alike G.1⟩
theorem qw_recv {L : wL} {A : Nat → Prop} {s : State} {X : wM} {hp : Nat → Nat} {H : Heap} {C : String} {k c : Nat} (G : qw_G L A s) (hP : qw_P L X hp H) (h : qw_rc C L X hp k c) : ∃ cell : Cell, H[qw_ad L k c]? = some cell ∧ cell.vm.isStatics = false ∧ s.vm.findClass C = some cell.cls := by
  obtain ⟨ci, q, fs, hv, hc, h1, rfl⟩ := h
  obtain ⟨n9, h9⟩ := qw_ix hv
  exact va_recv G.1 hP h1 (qw_get h9 hc)
abbrev qw_hd (y : MethodName) (C : String) (n : Nat) : Prop := y.cls = C ∧ y.cls ≠ "java/lang/invoke/MethodHandle" ∧ y.cls ≠ "java/lang/invoke/VarHandle" ∧ (parseMethodDescriptor y.desc).map (fun d => d.parameters.length) = some n
section QC
variable {p : Program} {l : Launch} {e : Env} {R : Room} {s : State} {mi : MethodId} {args : Array Value} {below : List Frame} {meth : Method} {co : Code} {H : Heap} {locs : List Loc} {cells slots : Nat} {Q : State → Prop}
variable {cc : ByteArray} {pc nL : Nat} {ls : Array Slot} {rest st0 : List Value} {A : Nat → Prop} {H0 : Heap} {L : wL} {X X' : wM} {hp hp' : Nat → Nat} {Ts : List Cond} {own C : String} {index : Nat} {k c : Nat} {As : List Value} {y : MethodName} {ws ws' : List Cond} {rm : Room} {bytes : ByteArray} {maxL n : Nat} {ret : Option FieldType} {r : Int32}
theorem qr_cVi (F : CallFix p mi co cc nL s args Ts own) (G : qw_G L A s) (hP : qw_P L X hp H) (hS : va_S A H0 H locs) (hM : qw_MI l y ws rm L (.ref (qw_ad L k c) :: As) X hp r X' hp') (hr : qw_rc C L X hp k c) (hT : GoodIn Ts (wsV own index C y ws)) (hw : ws = Cond.code y bytes maxL ret :: ws') (hrm : rm.cells = 0 ∧ rm.slots = 0) (hd : qw_hd y C n) (hR : rm.frames + 1 ≤ R.frames ∧ 8 + (maxL + 11) + rm.locals ≤ R.locals) (hn : As.length = n) (hsz : ls.size = nL) (hst : st0 = As.reverse ++ .ref (qw_ad L k c) :: rest) (hcat : (rest.map fun v => v.category).sum ≤ 8) (hcs : cells ≤ R.cells ∧ slots ≤ R.slots) (hdg : decode cc pc = .ok (.invokevirtual index, 3))
    (kk : ∀ (H : Heap) (locs : List Loc), qw_P L X' hp' H → va_S A H0 H locs → W p l e R s mi args below meth co H locs cells slots Q (F0 mi (pc + 3) ls (.int r :: rest))) : W p l e R s mi args below meth co H locs cells slots Q (F0 mi pc ls st0) := by
  have hsub : ∀ q : Nat, qw_A L q → A q := fun q h => by
    obtain ⟨k, c, h1, rfl⟩ := h
    exact G.2.2 k c h1
  subst hst
  refine va_calli (va_runV (As := As) (rest := rest) F hM (cwV n F.2.2.2.2 hT hw hrm.1 hrm.2 hd hR) ⟨qw_Pre_blind L X hp _, qw_recv G hP hr, qw_Pre_at G hP _⟩ rfl hn hsz rfl (lv_room (pc := 0) (ls := #[]) (m := mi) (rest := []) hcat) hdg hcs) hS (fun q _ h => hsub q h) hsub (fun r1 u t H1 locs1 ht hvm hw1 hB hz1 hk1 hS1 => ?_)
  subst hw1
  rw [ht] at hB
  exact kk H1 locs1 hB hS1
theorem qr_cVv (F : CallFix p mi co cc nL s args Ts own) (G : qw_G L A s) (hP : qw_P L X hp H) (hS : va_S A H0 H locs) (hM : qw_MV l y ws rm L (.ref (qw_ad L k c) :: As) X hp X' hp') (hr : qw_rc C L X hp k c) (hT : GoodIn Ts (wsV own index C y ws)) (hw : ws = Cond.code y bytes maxL ret :: ws') (hrm : rm.cells = 0 ∧ rm.slots = 0) (hd : qw_hd y C n) (hR : rm.frames + 1 ≤ R.frames ∧ 8 + (maxL + 11) + rm.locals ≤ R.locals) (hn : As.length = n) (hsz : ls.size = nL) (hst : st0 = As.reverse ++ .ref (qw_ad L k c) :: rest) (hcat : (rest.map fun v => v.category).sum ≤ 8) (hcs : cells ≤ R.cells ∧ slots ≤ R.slots) (hdg : decode cc pc = .ok (.invokevirtual index, 3))
    (kk : ∀ (H : Heap) (locs : List Loc), qw_P L X' hp' H → va_S A H0 H locs → W p l e R s mi args below meth co H locs cells slots Q (F0 mi (pc + 3) ls rest)) : W p l e R s mi args below meth co H locs cells slots Q (F0 mi pc ls st0) := by
  have hsub : ∀ q : Nat, qw_A L q → A q := fun q h => by
    obtain ⟨k, c, h1, rfl⟩ := h
    exact G.2.2 k c h1
  subst hst
  refine va_callv (va_runV (As := As) (rest := rest) F hM (cwV n F.2.2.2.2 hT hw hrm.1 hrm.2 hd hR) ⟨qw_Pre_blind L X hp _, qw_recv G hP hr, qw_Pre_at G hP _⟩ rfl hn hsz rfl (lv_room (pc := 0) (ls := #[]) (m := mi) (rest := []) hcat) hdg hcs) hS (fun q _ h => hsub q h) hsub (fun u t H1 locs1 ht hvm _ hB hz1 hk1 hS1 => ?_)
  rw [ht] at hB
  exact kk H1 locs1 hB hS1
theorem qr_cSi (F : CallFix p mi co cc nL s args Ts own) (G : qw_G L A s) (hP : qw_P L X hp H) (hS : va_S A H0 H locs) (hM : qw_MI l y ws rm L As X hp r X' hp') (hT : GoodIn Ts (va_wsS own index y ws)) (hw : ws = Cond.code y bytes maxL ret :: ws') (hrm : rm.cells = 0 ∧ rm.slots = 0) (hd : qw_hd y C n) (hR : rm.frames + 1 ≤ R.frames ∧ 8 + (maxL + 11) + rm.locals ≤ R.locals) (hn : As.length = n) (hsz : ls.size = nL) (hst : st0 = As.reverse ++ rest) (hcat : (rest.map fun v => v.category).sum ≤ 8) (hcs : cells ≤ R.cells ∧ slots ≤ R.slots) (hdg : decode cc pc = .ok (.invokestatic index, 3))
    (kk : ∀ (H : Heap) (locs : List Loc), qw_P L X' hp' H → va_S A H0 H locs → W p l e R s mi args below meth co H locs cells slots Q (F0 mi (pc + 3) ls (.int r :: rest))) : W p l e R s mi args below meth co H locs cells slots Q (F0 mi pc ls st0) := by
  have hsub : ∀ q : Nat, qw_A L q → A q := fun q h => by
    obtain ⟨k, c, h1, rfl⟩ := h
    exact G.2.2 k c h1
  subst hst
  refine va_calli (va_runS (As := As) (rest := rest) F hM (va_cwS n F.2.2.2.2 hT hw hrm.1 hrm.2 hd.2 hR) ⟨qw_Pre_blind L X hp _, qw_Pre_at G hP _⟩ rfl hn hsz rfl (lv_room (pc := 0) (ls := #[]) (m := mi) (rest := []) hcat) hdg hcs) hS (fun q _ h => hsub q h) hsub (fun r1 u t H1 locs1 ht hvm hw1 hB hz1 hk1 hS1 => ?_)
  subst hw1
  rw [ht] at hB
  exact kk H1 locs1 hB hS1
theorem qr_cSv (F : CallFix p mi co cc nL s args Ts own) (G : qw_G L A s) (hP : qw_P L X hp H) (hS : va_S A H0 H locs) (hM : qw_MV l y ws rm L As X hp X' hp') (hT : GoodIn Ts (va_wsS own index y ws)) (hw : ws = Cond.code y bytes maxL ret :: ws') (hrm : rm.cells = 0 ∧ rm.slots = 0) (hd : qw_hd y C n) (hR : rm.frames + 1 ≤ R.frames ∧ 8 + (maxL + 11) + rm.locals ≤ R.locals) (hn : As.length = n) (hsz : ls.size = nL) (hst : st0 = As.reverse ++ rest) (hcat : (rest.map fun v => v.category).sum ≤ 8) (hcs : cells ≤ R.cells ∧ slots ≤ R.slots) (hdg : decode cc pc = .ok (.invokestatic index, 3))
    (kk : ∀ (H : Heap) (locs : List Loc), qw_P L X' hp' H → va_S A H0 H locs → W p l e R s mi args below meth co H locs cells slots Q (F0 mi (pc + 3) ls rest)) : W p l e R s mi args below meth co H locs cells slots Q (F0 mi pc ls st0) := by
  have hsub : ∀ q : Nat, qw_A L q → A q := fun q h => by
    obtain ⟨k, c, h1, rfl⟩ := h
    exact G.2.2 k c h1
  subst hst
  refine va_callv (va_runS (As := As) (rest := rest) F hM (va_cwS n F.2.2.2.2 hT hw hrm.1 hrm.2 hd.2 hR) ⟨qw_Pre_blind L X hp _, qw_Pre_at G hP _⟩ rfl hn hsz rfl (lv_room (pc := 0) (ls := #[]) (m := mi) (rest := []) hcat) hdg hcs) hS (fun q _ h => hsub q h) hsub (fun u t H1 locs1 ht hvm _ hB hz1 hk1 hS1 => ?_)
  rw [ht] at hB
  exact kk H1 locs1 hB hS1
theorem qr_max (F : CallFix p mi co cc nL s args Ts own) (hl : Cond.methodLink own index Lib.Math.max.name ∈ Ts) (hstat : Cond.static Lib.Math.max.name ∈ Ts) (hini : Cond.initialized "java/lang/Math" ∈ Ts) (hcode : Cond.code Lib.Math.max.name Lib.Math.max.code 2 (some .int) ∈ Ts) (hsz : ls.size = nL) (hframes : 1 ≤ R.frames) (hlocals : (rest.map fun v => v.category).sum + 13 ≤ R.locals) (hcs : cells ≤ R.cells ∧ slots ≤ R.slots) {x y z : Int32} (ez : z = if x < y then y else x) (hdg : decode cc pc = .ok (.invokestatic index, 3))
    (kk : W p l e R s mi args below meth co H locs cells slots Q (F0 mi (pc + 3) ls (.int z :: rest))) : W p l e R s mi args below meth co H locs cells slots Q (F0 mi pc ls (.int y :: .int x :: rest)) := by
  subst ez
  exact va_mmax F.1 F.2.1 (F.2.2.1.trans hsz.symm) F.2.2.2.1 (F.2.2.2.2 _ hl) (F.2.2.2.2 _ hstat) (F.2.2.2.2 _ hini) (F.2.2.2.2 _ hcode) hframes hlocals hcs.1 hcs.2 hdg kk
theorem qr_min (F : CallFix p mi co cc nL s args Ts own) (hl : Cond.methodLink own index Lib.Math.min.name ∈ Ts) (hstat : Cond.static Lib.Math.min.name ∈ Ts) (hini : Cond.initialized "java/lang/Math" ∈ Ts) (hcode : Cond.code Lib.Math.min.name Lib.Math.min.code 2 (some .int) ∈ Ts) (hsz : ls.size = nL) (hframes : 1 ≤ R.frames) (hlocals : (rest.map fun v => v.category).sum + 13 ≤ R.locals) (hcs : cells ≤ R.cells ∧ slots ≤ R.slots) {x y z : Int32} (ez : z = if y < x then y else x) (hdg : decode cc pc = .ok (.invokestatic index, 3))
    (kk : W p l e R s mi args below meth co H locs cells slots Q (F0 mi (pc + 3) ls (.int z :: rest))) : W p l e R s mi args below meth co H locs cells slots Q (F0 mi pc ls (.int y :: .int x :: rest)) := by
  subst ez
  exact va_mmin F.1 F.2.1 (F.2.2.1.trans hsz.symm) F.2.2.2.1 (F.2.2.2.2 _ hl) (F.2.2.2.2 _ hstat) (F.2.2.2.2 _ hini) (F.2.2.2.2 _ hcode) hframes hlocals hcs.1 hcs.2 hdg kk
/-- numbers, named -/
theorem qr_iadd (F : CallFix p mi co cc nL s args Ts own) {x y z : Int32} (ez : z = x + y) (hdg : decode cc pc = .ok (.iadd, 1)) (kk : W p l e R s mi args below meth co H locs cells slots Q (F0 mi (pc + 1) ls (.int z :: rest))) : W p l e R s mi args below meth co H locs cells slots Q (F0 mi pc ls (.int y :: .int x :: rest)) := lv_iadd F.1 F.2.1 hdg (ez ▸ kk)
theorem qr_isub (F : CallFix p mi co cc nL s args Ts own) {x y z : Int32} (ez : z = x - y) (hdg : decode cc pc = .ok (.isub, 1)) (kk : W p l e R s mi args below meth co H locs cells slots Q (F0 mi (pc + 1) ls (.int z :: rest))) : W p l e R s mi args below meth co H locs cells slots Q (F0 mi pc ls (.int y :: .int x :: rest)) := lv_isub F.1 F.2.1 hdg (ez ▸ kk)
theorem qr_imul (F : CallFix p mi co cc nL s args Ts own) {x y z : Int32} (ez : z = x * y) (hdg : decode cc pc = .ok (.imul, 1)) (kk : W p l e R s mi args below meth co H locs cells slots Q (F0 mi (pc + 1) ls (.int z :: rest))) : W p l e R s mi args below meth co H locs cells slots Q (F0 mi pc ls (.int y :: .int x :: rest)) := lv_imul F.1 F.2.1 hdg (ez ▸ kk)
theorem qr_irem (F : CallFix p mi co cc nL s args Ts own) {x y z : Int32} (hy : ¬ y = 0) (ez : z = x - x / y * y) (hdg : decode cc pc = .ok (.irem, 1)) (kk : W p l e R s mi args below meth co H locs cells slots Q (F0 mi (pc + 1) ls (.int z :: rest))) : W p l e R s mi args below meth co H locs cells slots Q (F0 mi pc ls (.int y :: .int x :: rest)) := lv_irem F.1 F.2.1 hdg hy (ez ▸ kk)
/-- a switch by a table, out of its rows -/
theorem qr_swD (F : CallFix p mi co cc nL s args Ts own) {dflt hi : Int} {offs : Array Int} {len : Nat} {x : Int32} {tgt n : Nat} (hdg : decode cc pc = .ok (.tableswitch dflt 0 hi offs, len)) (hhi : hi = n) (hn : n < 1000) (h : ∀ j : Nat, j ≤ n → ¬ x = nI j) (ht : (pc : Int) + dflt = (tgt : Int)) (kk : W p l e R s mi args below meth co H locs cells slots Q (F0 mi tgt ls rest)) : W p l e R s mi args below meth co H locs cells slots Q (F0 mi pc ls (.int x :: rest)) := by
  refine lv_tableOut F.1 F.2.1 hdg ?_ ht kk
  subst hhi
  by_cases h1 : x.toInt < 0
  · exact Or.inl h1
  · by_cases h2 : (n : Int) < x.toInt
    · exact Or.inr h2
    · refine absurd ?_ (h x.toInt.toNat (by omega))
      apply Int32.toInt_inj.mp
      rw [nI_toInt (by omega)]
      omega
end QC
/-! a function of the walk, step by step -/
def qn {α β : Type} (x : α) (k : α → Option β) : Option β := k x
theorem qn_x {α β : Type} {x : α} {k : α → Option β} {r : β} (h : qn x k = some r) : ∃ z, z = x ∧ k z = some r := ⟨x, rfl, h⟩
noncomputable def qg {β : Type} (p : Prop) (k : Option β) : Option β := @ite _ p (Classical.propDecidable p) k none
theorem qg_x {β : Type} {p : Prop} {k : Option β} {r : β} (h : qg p k = some r) : p ∧ k = some r := by
  unfold qg at h
  by_cases hp : p
  · exact ⟨hp, by rw [if_pos hp] at h; exact h⟩
  · rw [if_neg hp] at h
    cases h
theorem qg_t {β : Type} {p : Prop} {k : Option β} (hp : p) : qg p k = k := by
  unfold qg
  exact if_pos hp
def qb1 {α β : Type} (o : Option α) (k : α → Option β) : Option β := match o with
  | none => none
  | some a => k a
theorem qb1_x {α β : Type} {o : Option α} {k : α → Option β} {r : β} (h : qb1 o k = some r) : ∃ a, o = some a ∧ k a = some r := by
  cases o with
  | none => cases h
  | some a => exact ⟨a, rfl, h⟩
def qb2 {α γ β : Type} (o : Option (α × γ)) (k : α → γ → Option β) : Option β := match o with
  | none => none
  | some a => k a.1 a.2
theorem qb2_x {α γ β : Type} {o : Option (α × γ)} {k : α → γ → Option β} {r : β} (h : qb2 o k = some r) : ∃ a b, o = some (a, b) ∧ k a b = some r := by
  cases o with
  | none => cases h
  | some a => exact ⟨a.1, a.2, rfl, h⟩
def qb3 {α γ δ β : Type} (o : Option (α × γ × δ)) (k : α → γ → δ → Option β) : Option β := match o with
  | none => none
  | some a => k a.1 a.2.1 a.2.2
theorem qb3_x {α γ δ β : Type} {o : Option (α × γ × δ)} {k : α → γ → δ → Option β} {r : β} (h : qb3 o k = some r) : ∃ a b c, o = some (a, b, c) ∧ k a b c = some r := by
  cases o with
  | none => cases h
  | some a => exact ⟨a.1, a.2.1, a.2.2, rfl, h⟩
theorem qb1_s {α β : Type} {o : Option α} {k : α → Option β} {a : α} (h : o = some a) : qb1 o k = k a := by
  subst h
  rfl
theorem qb2_s {α γ β : Type} {o : Option (α × γ)} {k : α → γ → Option β} {a : α} {b : γ} (h : o = some (a, b)) : qb2 o k = k a b := by
  subst h
  rfl
theorem qb3_s {α γ δ β : Type} {o : Option (α × γ × δ)} {k : α → γ → δ → Option β} {a : α} {b : γ} {c : δ} (h : o = some (a, b, c)) : qb3 o k = k a b c := by
  subst h
  rfl
theorem qs1 {α : Type} {a b : α} (h : some a = some b) : a = b := Option.some.inj h
theorem qs2 {α β : Type} {a c : α} {b d : β} (h : some (a, b) = some (c, d)) : a = c ∧ b = d := by
  cases h
  exact ⟨rfl, rfl⟩
theorem qs3 {α β γ : Type} {a c : α} {b d : β} {x y : γ} (h : some (a, b, x) = some (c, d, y)) : a = c ∧ b = d ∧ x = y := by
  cases h
  exact ⟨rfl, rfl, rfl⟩
theorem qw_fx {M : wM} {k : Nat} {m m' m2 : wm} (h : m2 = m') : qw_u1 (qw_u1 M k m) k m' = qw_u1 M k m2 := by rw [h, qw_u11]
theorem qi_t {α : Type} {c : Prop} {_ : Decidable c} {a b r : α} (h : c) (hf : (if c then a else b) = r) : a = r := by
  rw [if_pos h] at hf
  exact hf
theorem qi_f {α : Type} {c : Prop} {_ : Decidable c} {a b r : α} (h : ¬ c) (hf : (if c then a else b) = r) : b = r := by
  rw [if_neg h] at hf
  exact hf
theorem qw_lt {i : Int32} {n : Nat} (h : vp_in i n) : i.toNatClampNeg < n := Nat.not_le.mp fun q => h (Or.inr q)
theorem qw_nz {z : Int32} (h : z = 0 ∨ z = 1) : narrow .boolean (.int z) = .int z := by rcases h with rfl | rfl <;> rfl
theorem qw_ii1 (x : Int32) : x + Int32.ofInt 1 = x + nI 1 := congrArg (fun y => x + y) (by decide)
theorem qw_iim (x : Int32) : x + Int32.ofInt (-1) = x + (-1) := congrArg (fun y => x + y) (by decide)
/-- the turns that a loop may take -/
def qfu : Nat := 6000
