section
-- ===== PART A: goes FIRST, ahead of the names: the tables' words, and 'selects' of the private methods out of them =====
/-- a private method of a class that the tables say can be made, by its rows of tables_1 -/
def lw_okq (q : MethodName × Nat) : Prop := (q.1.cls ≠ "java/lang/invoke/MethodHandle" ∧ q.1.cls ≠ "java/lang/invoke/VarHandle") ∧ Cond.instantiable q.1.cls q.2 ∈ tables_1 ∧ Cond.privateMethod q.1 ∈ tables_1 ∧ Cond.instanceMethod q.1 ∈ tables_1
theorem lw_p0 : lw_okq (⟨"ReturnPile", "takeAsAction", "(III)I"⟩, 6) := ⟨⟨by decide +kernel, by decide +kernel⟩, List.mem_of_getElem? (i := 9) (by decide +kernel), List.mem_of_getElem? (i := 132) (by decide +kernel), List.mem_of_getElem? (i := 133) (by decide +kernel)⟩
theorem lw_p1 : lw_okq (⟨"ReturnPile$State", "errorOf", "(III)I"⟩, 14) := ⟨⟨by decide +kernel, by decide +kernel⟩, List.mem_of_getElem? (i := 17) (by decide +kernel), List.mem_of_getElem? (i := 150) (by decide +kernel), List.mem_of_getElem? (i := 151) (by decide +kernel)⟩
theorem lw_p2 : lw_okq (⟨"ReturnPile$State", "addFrame", "(II)I"⟩, 14) := ⟨⟨by decide +kernel, by decide +kernel⟩, List.mem_of_getElem? (i := 17) (by decide +kernel), List.mem_of_getElem? (i := 160) (by decide +kernel), List.mem_of_getElem? (i := 161) (by decide +kernel)⟩
theorem lw_p3 : lw_okq (⟨"ReturnPile$State", "overrunFramesOfTop", "(I)V"⟩, 14) := ⟨⟨by decide +kernel, by decide +kernel⟩, List.mem_of_getElem? (i := 17) (by decide +kernel), List.mem_of_getElem? (i := 164) (by decide +kernel), List.mem_of_getElem? (i := 165) (by decide +kernel)⟩
theorem lw_p4 : lw_okq (⟨"ReturnPile$State", "replaceFunction", "(I)I"⟩, 14) := ⟨⟨by decide +kernel, by decide +kernel⟩, List.mem_of_getElem? (i := 17) (by decide +kernel), List.mem_of_getElem? (i := 175) (by decide +kernel), List.mem_of_getElem? (i := 176) (by decide +kernel)⟩
theorem lw_p5 : lw_okq (⟨"ReturnPile$State", "removeFrame", "()I"⟩, 14) := ⟨⟨by decide +kernel, by decide +kernel⟩, List.mem_of_getElem? (i := 17) (by decide +kernel), List.mem_of_getElem? (i := 179) (by decide +kernel), List.mem_of_getElem? (i := 180) (by decide +kernel)⟩
theorem lw_p6 : lw_okq (⟨"ReturnPile$State", "outcomeOf", "(II)I"⟩, 14) := ⟨⟨by decide +kernel, by decide +kernel⟩, List.mem_of_getElem? (i := 17) (by decide +kernel), List.mem_of_getElem? (i := 183) (by decide +kernel), List.mem_of_getElem? (i := 184) (by decide +kernel)⟩
theorem lw_p7 : lw_okq (⟨"ReturnPile$State", "confess", "(I)V"⟩, 14) := ⟨⟨by decide +kernel, by decide +kernel⟩, List.mem_of_getElem? (i := 17) (by decide +kernel), List.mem_of_getElem? (i := 187) (by decide +kernel), List.mem_of_getElem? (i := 188) (by decide +kernel)⟩
theorem lw_p8 : lw_okq (⟨"ReturnPile$State", "slotBefore", "(I)I"⟩, 14) := ⟨⟨by decide +kernel, by decide +kernel⟩, List.mem_of_getElem? (i := 17) (by decide +kernel), List.mem_of_getElem? (i := 194) (by decide +kernel), List.mem_of_getElem? (i := 195) (by decide +kernel)⟩
theorem lw_p9 : lw_okq (⟨"ReturnPile$State", "removeFrames", "(I)I"⟩, 14) := ⟨⟨by decide +kernel, by decide +kernel⟩, List.mem_of_getElem? (i := 17) (by decide +kernel), List.mem_of_getElem? (i := 198) (by decide +kernel), List.mem_of_getElem? (i := 199) (by decide +kernel)⟩
theorem lw_p10 : lw_okq (⟨"ReturnPile$State", "remember", "(III)V"⟩, 14) := ⟨⟨by decide +kernel, by decide +kernel⟩, List.mem_of_getElem? (i := 17) (by decide +kernel), List.mem_of_getElem? (i := 202) (by decide +kernel), List.mem_of_getElem? (i := 203) (by decide +kernel)⟩
theorem lw_p11 : lw_okq (⟨"ReturnPile", "record", "(LReturnPile$State;)V"⟩, 6) := ⟨⟨by decide +kernel, by decide +kernel⟩, List.mem_of_getElem? (i := 9) (by decide +kernel), List.mem_of_getElem? (i := 206) (by decide +kernel), List.mem_of_getElem? (i := 207) (by decide +kernel)⟩
theorem lw_p12 : lw_okq (⟨"ReturnPile", "dropOldest", "()V"⟩, 6) := ⟨⟨by decide +kernel, by decide +kernel⟩, List.mem_of_getElem? (i := 9) (by decide +kernel), List.mem_of_getElem? (i := 210) (by decide +kernel), List.mem_of_getElem? (i := 211) (by decide +kernel)⟩
theorem lw_p13 : lw_okq (⟨"ReturnPile", "takeStepsOfText", "()I"⟩, 6) := ⟨⟨by decide +kernel, by decide +kernel⟩, List.mem_of_getElem? (i := 9) (by decide +kernel), List.mem_of_getElem? (i := 258) (by decide +kernel), List.mem_of_getElem? (i := 259) (by decide +kernel)⟩
theorem lw_p14 : lw_okq (⟨"ReturnPile", "takeStepOfText", "()Z"⟩, 6) := ⟨⟨by decide +kernel, by decide +kernel⟩, List.mem_of_getElem? (i := 9) (by decide +kernel), List.mem_of_getElem? (i := 270) (by decide +kernel), List.mem_of_getElem? (i := 271) (by decide +kernel)⟩
theorem lw_p15 : lw_okq (⟨"ReturnPile", "missesInTrial", "(I)I"⟩, 6) := ⟨⟨by decide +kernel, by decide +kernel⟩, List.mem_of_getElem? (i := 9) (by decide +kernel), List.mem_of_getElem? (i := 334) (by decide +kernel), List.mem_of_getElem? (i := 335) (by decide +kernel)⟩
def lw_privs_1 : List (MethodName × Nat) := [(⟨"ReturnPile", "takeAsAction", "(III)I"⟩, 6), (⟨"ReturnPile$State", "errorOf", "(III)I"⟩, 14), (⟨"ReturnPile$State", "addFrame", "(II)I"⟩, 14), (⟨"ReturnPile$State", "overrunFramesOfTop", "(I)V"⟩, 14), (⟨"ReturnPile$State", "replaceFunction", "(I)I"⟩, 14), (⟨"ReturnPile$State", "removeFrame", "()I"⟩, 14), (⟨"ReturnPile$State", "outcomeOf", "(II)I"⟩, 14), (⟨"ReturnPile$State", "confess", "(I)V"⟩, 14), (⟨"ReturnPile$State", "slotBefore", "(I)I"⟩, 14), (⟨"ReturnPile$State", "removeFrames", "(I)I"⟩, 14), (⟨"ReturnPile$State", "remember", "(III)V"⟩, 14), (⟨"ReturnPile", "record", "(LReturnPile$State;)V"⟩, 6), (⟨"ReturnPile", "dropOldest", "()V"⟩, 6), (⟨"ReturnPile", "takeStepsOfText", "()I"⟩, 6), (⟨"ReturnPile", "takeStepOfText", "()Z"⟩, 6), (⟨"ReturnPile", "missesInTrial", "(I)I"⟩, 6)]
theorem lw_r1 : ∀ q ∈ lw_privs_1, lw_okq q := List.forall_mem_cons.mpr ⟨lw_p0, List.forall_mem_cons.mpr ⟨lw_p1, List.forall_mem_cons.mpr ⟨lw_p2, List.forall_mem_cons.mpr ⟨lw_p3, List.forall_mem_cons.mpr ⟨lw_p4, List.forall_mem_cons.mpr ⟨lw_p5, List.forall_mem_cons.mpr ⟨lw_p6, List.forall_mem_cons.mpr ⟨lw_p7, List.forall_mem_cons.mpr ⟨lw_p8, List.forall_mem_cons.mpr ⟨lw_p9, List.forall_mem_cons.mpr ⟨lw_p10, List.forall_mem_cons.mpr ⟨lw_p11, List.forall_mem_cons.mpr ⟨lw_p12, List.forall_mem_cons.mpr ⟨lw_p13, List.forall_mem_cons.mpr ⟨lw_p14, List.forall_mem_cons.mpr ⟨lw_p15, fun _ h => absurd h List.not_mem_nil⟩⟩⟩⟩⟩⟩⟩⟩⟩⟩⟩⟩⟩⟩⟩⟩
theorem lw_p16 : lw_okq (⟨"ReturnPileModel", "begins", "(I)V"⟩, 11) := ⟨⟨by decide +kernel, by decide +kernel⟩, List.mem_of_getElem? (i := 351) (by decide +kernel), List.mem_of_getElem? (i := 357) (by decide +kernel), List.mem_of_getElem? (i := 358) (by decide +kernel)⟩
theorem lw_p17 : lw_okq (⟨"ReturnPileModel", "acts", "()V"⟩, 11) := ⟨⟨by decide +kernel, by decide +kernel⟩, List.mem_of_getElem? (i := 351) (by decide +kernel), List.mem_of_getElem? (i := 402) (by decide +kernel), List.mem_of_getElem? (i := 403) (by decide +kernel)⟩
theorem lw_p18 : lw_okq (⟨"ReturnPileModel", "ofFrame", "(II)I"⟩, 11) := ⟨⟨by decide +kernel, by decide +kernel⟩, List.mem_of_getElem? (i := 351) (by decide +kernel), List.mem_of_getElem? (i := 406) (by decide +kernel), List.mem_of_getElem? (i := 407) (by decide +kernel)⟩
theorem lw_p19 : lw_okq (⟨"ReturnPileModel", "notes", "(II)V"⟩, 11) := ⟨⟨by decide +kernel, by decide +kernel⟩, List.mem_of_getElem? (i := 351) (by decide +kernel), List.mem_of_getElem? (i := 410) (by decide +kernel), List.mem_of_getElem? (i := 411) (by decide +kernel)⟩
theorem lw_p20 : lw_okq (⟨"ReturnPileModel", "returns", "()I"⟩, 11) := ⟨⟨by decide +kernel, by decide +kernel⟩, List.mem_of_getElem? (i := 351) (by decide +kernel), List.mem_of_getElem? (i := 422) (by decide +kernel), List.mem_of_getElem? (i := 423) (by decide +kernel)⟩
theorem lw_p21 : lw_okq (⟨"ReturnPileModel", "ofSlot", "(II)I"⟩, 11) := ⟨⟨by decide +kernel, by decide +kernel⟩, List.mem_of_getElem? (i := 351) (by decide +kernel), List.mem_of_getElem? (i := 426) (by decide +kernel), List.mem_of_getElem? (i := 427) (by decide +kernel)⟩
theorem lw_p22 : lw_okq (⟨"ReturnPileModel", "tells", "(III)V"⟩, 11) := ⟨⟨by decide +kernel, by decide +kernel⟩, List.mem_of_getElem? (i := 351) (by decide +kernel), List.mem_of_getElem? (i := 430) (by decide +kernel), List.mem_of_getElem? (i := 431) (by decide +kernel)⟩
theorem lw_p23 : lw_okq (⟨"ReturnPileModel", "skips", "()V"⟩, 11) := ⟨⟨by decide +kernel, by decide +kernel⟩, List.mem_of_getElem? (i := 351) (by decide +kernel), List.mem_of_getElem? (i := 465) (by decide +kernel), List.mem_of_getElem? (i := 466) (by decide +kernel)⟩
theorem lw_p24 : lw_okq (⟨"ReturnPileModel", "runsOne", "()I"⟩, 11) := ⟨⟨by decide +kernel, by decide +kernel⟩, List.mem_of_getElem? (i := 351) (by decide +kernel), List.mem_of_getElem? (i := 469) (by decide +kernel), List.mem_of_getElem? (i := 470) (by decide +kernel)⟩
theorem lw_p25 : lw_okq (⟨"ReturnPileModel", "number", "()Z"⟩, 11) := ⟨⟨by decide +kernel, by decide +kernel⟩, List.mem_of_getElem? (i := 351) (by decide +kernel), List.mem_of_getElem? (i := 473) (by decide +kernel), List.mem_of_getElem? (i := 474) (by decide +kernel)⟩
theorem lw_p26 : lw_okq (⟨"ReturnPileModel", "isDigit", "(I)Z"⟩, 11) := ⟨⟨by decide +kernel, by decide +kernel⟩, List.mem_of_getElem? (i := 351) (by decide +kernel), List.mem_of_getElem? (i := 477) (by decide +kernel), List.mem_of_getElem? (i := 478) (by decide +kernel)⟩
theorem lw_p27 : lw_okq (⟨"ReturnPileModel", "exchanges", "()V"⟩, 11) := ⟨⟨by decide +kernel, by decide +kernel⟩, List.mem_of_getElem? (i := 351) (by decide +kernel), List.mem_of_getElem? (i := 485) (by decide +kernel), List.mem_of_getElem? (i := 486) (by decide +kernel)⟩
theorem lw_p28 : lw_okq (⟨"ReturnPileModel", "overrun", "()I"⟩, 11) := ⟨⟨by decide +kernel, by decide +kernel⟩, List.mem_of_getElem? (i := 351) (by decide +kernel), List.mem_of_getElem? (i := 493) (by decide +kernel), List.mem_of_getElem? (i := 494) (by decide +kernel)⟩
theorem lw_p29 : lw_okq (⟨"ReturnPileModel", "isFrame", "(I)Z"⟩, 11) := ⟨⟨by decide +kernel, by decide +kernel⟩, List.mem_of_getElem? (i := 351) (by decide +kernel), List.mem_of_getElem? (i := 501) (by decide +kernel), List.mem_of_getElem? (i := 502) (by decide +kernel)⟩
theorem lw_p30 : lw_okq (⟨"ReturnPileModel", "misses", "(I)I"⟩, 11) := ⟨⟨by decide +kernel, by decide +kernel⟩, List.mem_of_getElem? (i := 351) (by decide +kernel), List.mem_of_getElem? (i := 529) (by decide +kernel), List.mem_of_getElem? (i := 530) (by decide +kernel)⟩
def lw_privs_2 : List (MethodName × Nat) := [(⟨"ReturnPileModel", "begins", "(I)V"⟩, 11), (⟨"ReturnPileModel", "acts", "()V"⟩, 11), (⟨"ReturnPileModel", "ofFrame", "(II)I"⟩, 11), (⟨"ReturnPileModel", "notes", "(II)V"⟩, 11), (⟨"ReturnPileModel", "returns", "()I"⟩, 11), (⟨"ReturnPileModel", "ofSlot", "(II)I"⟩, 11), (⟨"ReturnPileModel", "tells", "(III)V"⟩, 11), (⟨"ReturnPileModel", "skips", "()V"⟩, 11), (⟨"ReturnPileModel", "runsOne", "()I"⟩, 11), (⟨"ReturnPileModel", "number", "()Z"⟩, 11), (⟨"ReturnPileModel", "isDigit", "(I)Z"⟩, 11), (⟨"ReturnPileModel", "exchanges", "()V"⟩, 11), (⟨"ReturnPileModel", "overrun", "()I"⟩, 11), (⟨"ReturnPileModel", "isFrame", "(I)Z"⟩, 11), (⟨"ReturnPileModel", "misses", "(I)I"⟩, 11)]
theorem lw_r2 : ∀ q ∈ lw_privs_2, lw_okq q := List.forall_mem_cons.mpr ⟨lw_p16, List.forall_mem_cons.mpr ⟨lw_p17, List.forall_mem_cons.mpr ⟨lw_p18, List.forall_mem_cons.mpr ⟨lw_p19, List.forall_mem_cons.mpr ⟨lw_p20, List.forall_mem_cons.mpr ⟨lw_p21, List.forall_mem_cons.mpr ⟨lw_p22, List.forall_mem_cons.mpr ⟨lw_p23, List.forall_mem_cons.mpr ⟨lw_p24, List.forall_mem_cons.mpr ⟨lw_p25, List.forall_mem_cons.mpr ⟨lw_p26, List.forall_mem_cons.mpr ⟨lw_p27, List.forall_mem_cons.mpr ⟨lw_p28, List.forall_mem_cons.mpr ⟨lw_p29, List.forall_mem_cons.mpr ⟨lw_p30, fun _ h => absurd h List.not_mem_nil⟩⟩⟩⟩⟩⟩⟩⟩⟩⟩⟩⟩⟩⟩⟩
def lw_privs : List (MethodName × Nat) := lw_privs_1 ++ (lw_privs_2)
def lw_tbl : List Cond := k2_sels lw_privs ++ tables_1
theorem lw_privs_ok : ∀ q ∈ lw_privs, lw_okq q := by
  show ∀ q ∈ lw_privs_1 ++ (lw_privs_2), lw_okq q
  exact List.forall_mem_append.mpr ⟨lw_r1, lw_r2⟩
-- ===== end of PART A; then your names; then what follows =====
end
section
/-! ===== BEGIN words of one list among another's, by their places ===== -/
theorem goodIn_r {big : List Cond} (ws : List Cond) (ps : List Nat) (hp : ws = ps.filterMap (fun i => big[i]?)) (h : ws.all goodWord = true) : GoodIn big ws := by
  intro w hw
  have h1 := List.all_eq_true.mp h w hw
  rw [hp] at hw
  obtain ⟨i, -, hi⟩ := List.mem_filterMap.mp hw
  have hm : w ∈ big := by first | exact List.mem_of_getElem? hi | exact List.getElem?_mem hi
  exact ⟨hm, good_of_word h1⟩
theorem goodIn_app {big a b : List Cond} (ha : GoodIn big a) (hb : GoodIn big b) : GoodIn big (a ++ b) := fun w h => (List.mem_append.mp h).elim (ha w) (hb w)
theorem goodIn_ca {big a b : List Cond} {c : Cond} (ha : GoodIn big (c :: a)) (hb : GoodIn big b) : GoodIn big (c :: (a ++ b)) := fun w h => (List.mem_cons.mp h).elim (fun e => ha w (List.mem_cons.mpr (Or.inl e))) (fun h => (List.mem_append.mp h).elim (fun h => ha w (List.mem_cons.mpr (Or.inr h))) (hb w))
theorem goodIn_sub {big ws : List Cond} (hm : ∀ w ∈ ws, w ∈ big) (h : ws.all goodWord = true) : GoodIn big ws := fun w hw => ⟨hm w hw, good_of_word (List.all_eq_true.mp h w hw)⟩
/-! ===== END ===== -/

/-! ===== BEGIN printed: names, fields, word lists, decode rows ===== -/
def RX0 : String := "ReturnPile$State"
def TX0 : u_T := fun k => match k with
  | 0 => ("ReturnPile$State", "repair", "I", false)
  | 1 => ("ReturnPile$State", "size", "I", false)
  | 2 => ("ReturnPile$State", "top", "I", false)
  | 3 => ("ReturnPile$State", "height", "I", false)
  | 4 => ("ReturnPile$State", "greatestHeight", "I", false)
  | 5 => ("ReturnPile$State", "stepCount", "I", false)
  | 6 => ("ReturnPile$State", "confessionCount", "I", false)
  | 7 => ("ReturnPile$State", "stepsOf", "[I", true)
  | 8 => ("ReturnPile$State", "outcomes", "[I", true)
  | 9 => ("ReturnPile$State", "timesNamed", "[I", true)
  | 10 => ("ReturnPile$State", "frames", "[[I", true)
  | 11 => ("ReturnPile$State", "slots", "[[I", true)
  | 12 => ("ReturnPile$State", "steps", "[[I", true)
  | _ => ("ReturnPile$State", "confessions", "[[I", true)
def tyX0 : Nat → FieldType := fun k => match k with
  | 0 => .int
  | 1 => .int
  | 2 => .int
  | 3 => .int
  | 4 => .int
  | 5 => .int
  | 6 => .int
  | 7 => .array .int
  | 8 => .array .int
  | 9 => .array .int
  | 10 => .array (.array .int)
  | 11 => .array (.array .int)
  | 12 => .array (.array .int)
  | _ => .array (.array .int)
abbrev wsX00 : List Cond := u_ws RX0 TX0 14
theorem nmX0 : ∀ a, a < 14 → ∀ b, b < 14 → a ≠ b → (TX0 a).2.1 ≠ (TX0 b).2.1 := by decide +kernel
theorem tyX0_ok : ∀ k, k < 14 → parseFieldDescriptor (TX0 k).2.2.1 = some (tyX0 k) := by decide +kernel
abbrev cX0_init : ByteArray := prog_2_method_1_code
def yX0_init : MethodName := ⟨RX0, "<init>", "()V"⟩
abbrev cX0_beginAnew : ByteArray := prog_2_method_2_code
def yX0_beginAnew : MethodName := ⟨RX0, "beginAnew", "(I)V"⟩
abbrev cX0_copyFrom : ByteArray := prog_2_method_3_code
def yX0_copyFrom : MethodName := ⟨RX0, "copyFrom", "(LReturnPile$State;)V"⟩
abbrev cX0_copyRows : ByteArray := prog_2_method_4_code
def yX0_copyRows : MethodName := ⟨RX0, "copyRows", "([[I[[II)V"⟩
abbrev cX0_take : ByteArray := prog_2_method_5_code
def yX0_take : MethodName := ⟨RX0, "take", "(III)I"⟩
abbrev cX0_remember : ByteArray := prog_2_method_6_code
def yX0_remember : MethodName := ⟨RX0, "remember", "(III)V"⟩
abbrev cX0_errorOf : ByteArray := prog_2_method_7_code
def yX0_errorOf : MethodName := ⟨RX0, "errorOf", "(III)I"⟩
abbrev cX0_isNumberFor : ByteArray := prog_2_method_8_code
def yX0_isNumberFor : MethodName := ⟨RX0, "isNumberFor", "(II)Z"⟩
abbrev cX0_framesNeeded : ByteArray := prog_2_method_9_code
def yX0_framesNeeded : MethodName := ⟨RX0, "framesNeeded", "(II)I"⟩
abbrev cX0_addFrame : ByteArray := prog_2_method_10_code
def yX0_addFrame : MethodName := ⟨RX0, "addFrame", "(II)I"⟩
abbrev cX0_overrunFramesOfTop : ByteArray := prog_2_method_11_code
def yX0_overrunFramesOfTop : MethodName := ⟨RX0, "overrunFramesOfTop", "(I)V"⟩
abbrev cX0_replaceFunction : ByteArray := prog_2_method_12_code
def yX0_replaceFunction : MethodName := ⟨RX0, "replaceFunction", "(I)I"⟩
abbrev cX0_removeFrame : ByteArray := prog_2_method_13_code
def yX0_removeFrame : MethodName := ⟨RX0, "removeFrame", "()I"⟩
abbrev cX0_removeFrames : ByteArray := prog_2_method_14_code
def yX0_removeFrames : MethodName := ⟨RX0, "removeFrames", "(I)I"⟩
abbrev cX0_slotBefore : ByteArray := prog_2_method_15_code
def yX0_slotBefore : MethodName := ⟨RX0, "slotBefore", "(I)I"⟩
abbrev cX0_outcomeOf : ByteArray := prog_2_method_16_code
def yX0_outcomeOf : MethodName := ⟨RX0, "outcomeOf", "(II)I"⟩
abbrev cX0_confess : ByteArray := prog_2_method_17_code
def yX0_confess : MethodName := ⟨RX0, "confess", "(I)V"⟩
abbrev cX0_isOverrun : ByteArray := prog_2_method_18_code
def yX0_isOverrun : MethodName := ⟨RX0, "isOverrun", "(I)Z"⟩
abbrev cX0_overrunFrames : ByteArray := prog_2_method_19_code
def yX0_overrunFrames : MethodName := ⟨RX0, "overrunFrames", "()I"⟩
abbrev cX0_hitsAhead : ByteArray := prog_2_method_20_code
def yX0_hitsAhead : MethodName := ⟨RX0, "hitsAhead", "(I)I"⟩
abbrev cX0_misses : ByteArray := prog_2_method_21_code
def yX0_misses : MethodName := ⟨RX0, "misses", "()I"⟩
def RX1 : String := "ReturnPile$Text"
def TX1 : u_T := fun k => match k with
  | 0 => ("ReturnPile$Text", "characters", "[I", true)
  | 1 => ("ReturnPile$Text", "length", "I", false)
  | _ => ("ReturnPile$Text", "place", "I", false)
def tyX1 : Nat → FieldType := fun k => match k with
  | 0 => .array .int
  | 1 => .int
  | _ => .int
abbrev wsX10 : List Cond := u_ws RX1 TX1 3
theorem nmX1 : ∀ a, a < 3 → ∀ b, b < 3 → a ≠ b → (TX1 a).2.1 ≠ (TX1 b).2.1 := by decide +kernel
theorem tyX1_ok : ∀ k, k < 3 → parseFieldDescriptor (TX1 k).2.2.1 = some (tyX1 k) := by decide +kernel
abbrev cX1_init : ByteArray := prog_3_method_1_code
def yX1_init : MethodName := ⟨RX1, "<init>", "()V"⟩
abbrev cX1_add : ByteArray := prog_3_method_2_code
def yX1_add : MethodName := ⟨RX1, "add", "(I)V"⟩
abbrev cX1_isAtEnd : ByteArray := prog_3_method_3_code
def yX1_isAtEnd : MethodName := ⟨RX1, "isAtEnd", "()Z"⟩
abbrev cX1_sign : ByteArray := prog_3_method_4_code
def yX1_sign : MethodName := ⟨RX1, "sign", "()I"⟩
abbrev cX1_skipSpaces : ByteArray := prog_3_method_5_code
def yX1_skipSpaces : MethodName := ⟨RX1, "skipSpaces", "()V"⟩
abbrev cX1_readSign : ByteArray := prog_3_method_6_code
def yX1_readSign : MethodName := ⟨RX1, "readSign", "(I)Z"⟩
abbrev cX1_readNumber : ByteArray := prog_3_method_7_code
def yX1_readNumber : MethodName := ⟨RX1, "readNumber", "()I"⟩
abbrev cX1_isDigit : ByteArray := prog_3_method_8_code
def yX1_isDigit : MethodName := ⟨RX1, "isDigit", "(I)Z"⟩
def RX2 : String := "ReturnPile"
def TX2 : u_T := fun k => match k with
  | 0 => ("ReturnPile", "now", "LReturnPile$State;", true)
  | 1 => ("ReturnPile", "before", "LReturnPile$State;", true)
  | 2 => ("ReturnPile", "trial", "LReturnPile$State;", true)
  | 3 => ("ReturnPile", "history", "[LReturnPile$State;", true)
  | 4 => ("ReturnPile", "historyLength", "I", false)
  | _ => ("ReturnPile", "text", "LReturnPile$Text;", true)
def tyX2 : Nat → FieldType := fun k => match k with
  | 0 => .object "ReturnPile$State"
  | 1 => .object "ReturnPile$State"
  | 2 => .object "ReturnPile$State"
  | 3 => .array (.object "ReturnPile$State")
  | 4 => .int
  | _ => .object "ReturnPile$Text"
abbrev wsX20 : List Cond := u_ws RX2 TX2 6
theorem nmX2 : ∀ a, a < 6 → ∀ b, b < 6 → a ≠ b → (TX2 a).2.1 ≠ (TX2 b).2.1 := by decide +kernel
theorem tyX2_ok : ∀ k, k < 6 → parseFieldDescriptor (TX2 k).2.2.1 = some (tyX2 k) := by decide +kernel
abbrev cX2_init : ByteArray := prog_1_method_1_code
def yX2_init : MethodName := ⟨RX2, "<init>", "()V"⟩
abbrev cX2_call : ByteArray := prog_1_method_2_code
def yX2_call : MethodName := ⟨RX2, "call", "(II)I"⟩
abbrev cX2_tail : ByteArray := prog_1_method_3_code
def yX2_tail : MethodName := ⟨RX2, "tail", "(I)I"⟩
abbrev cX2_ret : ByteArray := prog_1_method_4_code
def yX2_ret : MethodName := ⟨RX2, "ret", "()I"⟩
abbrev cX2_raise : ByteArray := prog_1_method_5_code
def yX2_raise : MethodName := ⟨RX2, "raise", "(I)I"⟩
abbrev cX2_setRepair : ByteArray := prog_1_method_6_code
def yX2_setRepair : MethodName := ⟨RX2, "setRepair", "(I)I"⟩
abbrev cX2_begin : ByteArray := prog_1_method_7_code
def yX2_begin : MethodName := ⟨RX2, "begin", "(I)I"⟩
abbrev cX2_undo : ByteArray := prog_1_method_8_code
def yX2_undo : MethodName := ⟨RX2, "undo", "()I"⟩
abbrev cX2_append : ByteArray := prog_1_method_9_code
def yX2_append : MethodName := ⟨RX2, "append", "(I)I"⟩
abbrev cX2_clearText : ByteArray := prog_1_method_10_code
def yX2_clearText : MethodName := ⟨RX2, "clearText", "()I"⟩
abbrev cX2_run : ByteArray := prog_1_method_11_code
def yX2_run : MethodName := ⟨RX2, "run", "()I"⟩
abbrev cX2_count : ByteArray := prog_1_method_12_code
def yX2_count : MethodName := ⟨RX2, "count", "(I)I"⟩
abbrev cX2_frame : ByteArray := prog_1_method_13_code
def yX2_frame : MethodName := ⟨RX2, "frame", "(II)I"⟩
abbrev cX2_slot : ByteArray := prog_1_method_14_code
def yX2_slot : MethodName := ⟨RX2, "slot", "(II)I"⟩
abbrev cX2_confession : ByteArray := prog_1_method_15_code
def yX2_confession : MethodName := ⟨RX2, "confession", "(II)I"⟩
abbrev cX2_named : ByteArray := prog_1_method_16_code
def yX2_named : MethodName := ⟨RX2, "named", "(I)I"⟩
abbrev cX2_worst : ByteArray := prog_1_method_17_code
def yX2_worst : MethodName := ⟨RX2, "worst", "()I"⟩
abbrev cX2_ahead : ByteArray := prog_1_method_18_code
def yX2_ahead : MethodName := ⟨RX2, "ahead", "(II)I"⟩
abbrev cX2_missesWith : ByteArray := prog_1_method_19_code
def yX2_missesWith : MethodName := ⟨RX2, "missesWith", "(I)I"⟩
abbrev cX2_bestSize : ByteArray := prog_1_method_20_code
def yX2_bestSize : MethodName := ⟨RX2, "bestSize", "()I"⟩
abbrev cX2_callsUntil : ByteArray := prog_1_method_21_code
def yX2_callsUntil : MethodName := ⟨RX2, "callsUntil", "(I)I"⟩
abbrev cX2_isSize : ByteArray := prog_1_method_22_code
def yX2_isSize : MethodName := ⟨RX2, "isSize", "(I)Z"⟩
abbrev cX2_takeAsAction : ByteArray := prog_1_method_23_code
def yX2_takeAsAction : MethodName := ⟨RX2, "takeAsAction", "(III)I"⟩
abbrev cX2_record : ByteArray := prog_1_method_24_code
def yX2_record : MethodName := ⟨RX2, "record", "(LReturnPile$State;)V"⟩
abbrev cX2_dropOldest : ByteArray := prog_1_method_25_code
def yX2_dropOldest : MethodName := ⟨RX2, "dropOldest", "()V"⟩
abbrev cX2_missesInTrial : ByteArray := prog_1_method_26_code
def yX2_missesInTrial : MethodName := ⟨RX2, "missesInTrial", "(I)I"⟩
abbrev cX2_takeStepsOfText : ByteArray := prog_1_method_27_code
def yX2_takeStepsOfText : MethodName := ⟨RX2, "takeStepsOfText", "()I"⟩
abbrev cX2_takeStepOfText : ByteArray := prog_1_method_28_code
def yX2_takeStepOfText : MethodName := ⟨RX2, "takeStepOfText", "()Z"⟩
abbrev cX2_kindOf : ByteArray := prog_1_method_29_code
def yX2_kindOf : MethodName := ⟨RX2, "kindOf", "(I)I"⟩
def RX3 : String := "ReturnPileModel"
def TX3 : u_T := fun k => match k with
  | 0 => ("ReturnPileModel", "s", "[I", true)
  | 1 => ("ReturnPileModel", "past", "[I", true)
  | 2 => ("ReturnPileModel", "held", "[I", true)
  | 3 => ("ReturnPileModel", "pasts", "I", false)
  | 4 => ("ReturnPileModel", "runs", "Z", false)
  | 5 => ("ReturnPileModel", "text", "[I", true)
  | 6 => ("ReturnPileModel", "typed", "I", false)
  | 7 => ("ReturnPileModel", "at", "I", false)
  | 8 => ("ReturnPileModel", "read", "I", false)
  | 9 => ("ReturnPileModel", "pile", "[I", true)
  | _ => ("ReturnPileModel", "goals", "[I", true)
def tyX3 : Nat → FieldType := fun k => match k with
  | 0 => .array .int
  | 1 => .array .int
  | 2 => .array .int
  | 3 => .int
  | 4 => .boolean
  | 5 => .array .int
  | 6 => .int
  | 7 => .int
  | 8 => .int
  | 9 => .array .int
  | _ => .array .int
abbrev wsX30 : List Cond := u_ws RX3 TX3 11
theorem nmX3 : ∀ a, a < 11 → ∀ b, b < 11 → a ≠ b → (TX3 a).2.1 ≠ (TX3 b).2.1 := by decide +kernel
theorem tyX3_ok : ∀ k, k < 11 → parseFieldDescriptor (TX3 k).2.2.1 = some (tyX3 k) := by decide +kernel
abbrev cX3_init : ByteArray := prog_5_method_1_code
def yX3_init : MethodName := ⟨RX3, "<init>", "()V"⟩
abbrev cX3_in : ByteArray := prog_5_method_3_code
def yX3_in : MethodName := ⟨RX3, "in", "(III)Z"⟩
abbrev cX3_acts : ByteArray := prog_5_method_4_code
def yX3_acts : MethodName := ⟨RX3, "acts", "()V"⟩
abbrev cX3_begins : ByteArray := prog_5_method_5_code
def yX3_begins : MethodName := ⟨RX3, "begins", "(I)V"⟩
abbrev cX3_ofFrame : ByteArray := prog_5_method_6_code
def yX3_ofFrame : MethodName := ⟨RX3, "ofFrame", "(II)I"⟩
abbrev cX3_ofSlot : ByteArray := prog_5_method_7_code
def yX3_ofSlot : MethodName := ⟨RX3, "ofSlot", "(II)I"⟩
abbrev cX3_notes : ByteArray := prog_5_method_8_code
def yX3_notes : MethodName := ⟨RX3, "notes", "(II)V"⟩
abbrev cX3_call : ByteArray := prog_5_method_9_code
def yX3_call : MethodName := ⟨RX3, "call", "(II)I"⟩
abbrev cX3_tail : ByteArray := prog_5_method_10_code
def yX3_tail : MethodName := ⟨RX3, "tail", "(I)I"⟩
abbrev cX3_tells : ByteArray := prog_5_method_11_code
def yX3_tells : MethodName := ⟨RX3, "tells", "(III)V"⟩
abbrev cX3_returns : ByteArray := prog_5_method_12_code
def yX3_returns : MethodName := ⟨RX3, "returns", "()I"⟩
abbrev cX3_back : ByteArray := prog_5_method_13_code
def yX3_back : MethodName := ⟨RX3, "back", "(III)I"⟩
abbrev cX3_ret : ByteArray := prog_5_method_14_code
def yX3_ret : MethodName := ⟨RX3, "ret", "()I"⟩
abbrev cX3_raise : ByteArray := prog_5_method_15_code
def yX3_raise : MethodName := ⟨RX3, "raise", "(I)I"⟩
abbrev cX3_setRepair : ByteArray := prog_5_method_16_code
def yX3_setRepair : MethodName := ⟨RX3, "setRepair", "(I)I"⟩
abbrev cX3_begin : ByteArray := prog_5_method_17_code
def yX3_begin : MethodName := ⟨RX3, "begin", "(I)I"⟩
abbrev cX3_undo : ByteArray := prog_5_method_18_code
def yX3_undo : MethodName := ⟨RX3, "undo", "()I"⟩
abbrev cX3_append : ByteArray := prog_5_method_19_code
def yX3_append : MethodName := ⟨RX3, "append", "(I)I"⟩
abbrev cX3_clearText : ByteArray := prog_5_method_20_code
def yX3_clearText : MethodName := ⟨RX3, "clearText", "()I"⟩
abbrev cX3_skips : ByteArray := prog_5_method_21_code
def yX3_skips : MethodName := ⟨RX3, "skips", "()V"⟩
abbrev cX3_isDigit : ByteArray := prog_5_method_22_code
def yX3_isDigit : MethodName := ⟨RX3, "isDigit", "(I)Z"⟩
abbrev cX3_number : ByteArray := prog_5_method_23_code
def yX3_number : MethodName := ⟨RX3, "number", "()Z"⟩
abbrev cX3_runsOne : ByteArray := prog_5_method_24_code
def yX3_runsOne : MethodName := ⟨RX3, "runsOne", "()I"⟩
abbrev cX3_exchanges : ByteArray := prog_5_method_25_code
def yX3_exchanges : MethodName := ⟨RX3, "exchanges", "()V"⟩
abbrev cX3_run : ByteArray := prog_5_method_26_code
def yX3_run : MethodName := ⟨RX3, "run", "()I"⟩
abbrev cX3_overrun : ByteArray := prog_5_method_27_code
def yX3_overrun : MethodName := ⟨RX3, "overrun", "()I"⟩
abbrev cX3_count : ByteArray := prog_5_method_28_code
def yX3_count : MethodName := ⟨RX3, "count", "(I)I"⟩
abbrev cX3_isFrame : ByteArray := prog_5_method_29_code
def yX3_isFrame : MethodName := ⟨RX3, "isFrame", "(I)Z"⟩
abbrev cX3_frame : ByteArray := prog_5_method_30_code
def yX3_frame : MethodName := ⟨RX3, "frame", "(II)I"⟩
abbrev cX3_slot : ByteArray := prog_5_method_31_code
def yX3_slot : MethodName := ⟨RX3, "slot", "(II)I"⟩
abbrev cX3_confession : ByteArray := prog_5_method_32_code
def yX3_confession : MethodName := ⟨RX3, "confession", "(II)I"⟩
abbrev cX3_named : ByteArray := prog_5_method_33_code
def yX3_named : MethodName := ⟨RX3, "named", "(I)I"⟩
abbrev cX3_worst : ByteArray := prog_5_method_34_code
def yX3_worst : MethodName := ⟨RX3, "worst", "()I"⟩
abbrev cX3_ahead : ByteArray := prog_5_method_35_code
def yX3_ahead : MethodName := ⟨RX3, "ahead", "(II)I"⟩
abbrev cX3_misses : ByteArray := prog_5_method_36_code
def yX3_misses : MethodName := ⟨RX3, "misses", "(I)I"⟩
abbrev cX3_missesWith : ByteArray := prog_5_method_37_code
def yX3_missesWith : MethodName := ⟨RX3, "missesWith", "(I)I"⟩
abbrev cX3_bestSize : ByteArray := prog_5_method_38_code
def yX3_bestSize : MethodName := ⟨RX3, "bestSize", "()I"⟩
abbrev cX3_callsUntil : ByteArray := prog_5_method_39_code
def yX3_callsUntil : MethodName := ⟨RX3, "callsUntil", "(I)I"⟩
def RJ9 : String := "java/lang/Math"
def TJ9 : u_T := fun k => match k with
  | _ => ("", "", "", false)
def tyJ9 : Nat → FieldType := fun k => match k with
  | _ => .int
abbrev wsJ90 : List Cond := u_ws RJ9 TJ9 0
theorem nmJ9 : ∀ a, a < 0 → ∀ b, b < 0 → a ≠ b → (TJ9 a).2.1 ≠ (TJ9 b).2.1 := by decide +kernel
theorem tyJ9_ok : ∀ k, k < 0 → parseFieldDescriptor (TJ9 k).2.2.1 = some (tyJ9 k) := by decide +kernel
abbrev cJ9_max_7cf53 : ByteArray := prog_6_method_65_code
def yJ9_max_7cf53 : MethodName := ⟨RJ9, "max", "(II)I"⟩
abbrev cJ9_min_7cf53 : ByteArray := prog_6_method_69_code
def yJ9_min_7cf53 : MethodName := ⟨RJ9, "min", "(II)I"⟩
def RJ10 : String := "java/lang/System"
def TJ10 : u_T := fun k => match k with
  | _ => ("", "", "", false)
def tyJ10 : Nat → FieldType := fun k => match k with
  | _ => .int
abbrev wsJ100 : List Cond := u_ws RJ10 TJ10 0
theorem nmJ10 : ∀ a, a < 0 → ∀ b, b < 0 → a ≠ b → (TJ10 a).2.1 ≠ (TJ10 b).2.1 := by decide +kernel
theorem tyJ10_ok : ∀ k, k < 0 → parseFieldDescriptor (TJ10 k).2.2.1 = some (tyJ10 k) := by decide +kernel
def RJ7 : String := "java/util/Arrays"
def TJ7 : u_T := fun k => match k with
  | _ => ("", "", "", false)
def tyJ7 : Nat → FieldType := fun k => match k with
  | _ => .int
abbrev wsJ70 : List Cond := u_ws RJ7 TJ7 0
theorem nmJ7 : ∀ a, a < 0 → ∀ b, b < 0 → a ≠ b → (TJ7 a).2.1 ≠ (TJ7 b).2.1 := by decide +kernel
theorem tyJ7_ok : ∀ k, k < 0 → parseFieldDescriptor (TJ7 k).2.2.1 = some (tyJ7 k) := by decide +kernel
abbrev cJ7_fill_53178 : ByteArray := prog_8_method_103_code
def yJ7_fill_53178 : MethodName := ⟨RJ7, "fill", "([II)V"⟩
def RL : String := "ReturnPileLaw"
abbrev cL_law : ByteArray := code
def yL_law : MethodName := ⟨RL, "law", "([I)Z"⟩
def wsJ7_fill_53178 : List Cond := .code yJ7_fill_53178 cJ7_fill_53178 4 none :: ([])
def wsX0_beginAnew : List Cond := .code yX0_beginAnew cX0_beginAnew 2 none :: ([.fieldLink RX0 39 "ReturnPile$State" "size" "I", .fieldLink RX0 43 "ReturnPile$State" "top" "I", .fieldLink RX0 46 "ReturnPile$State" "height" "I", .fieldLink RX0 49 "ReturnPile$State" "greatestHeight" "I", .fieldLink RX0 52 "ReturnPile$State" "stepCount" "I", .fieldLink RX0 55 "ReturnPile$State" "confessionCount" "I", .fieldLink RX0 9 "ReturnPile$State" "stepsOf" "[I", .fieldLink RX0 15 "ReturnPile$State" "outcomes" "[I", .fieldLink RX0 18 "ReturnPile$State" "timesNamed" "[I", .fieldLink RX0 26 "ReturnPile$State" "slots" "[[I", .methodLink RX0 58 yJ7_fill_53178, .static yJ7_fill_53178, .initialized RJ7, .code yJ7_fill_53178 cJ7_fill_53178 4 none] ++ wsX00)
def wsX0_init_r1 : List Cond := [Cond.methodLink RX0 3 objectInit, Cond.instanceMethod objectInit, Cond.code objectInit ⟨#[0xb1]⟩ 1 none, Cond.arrayClass .int, Cond.fieldLink RX0 9 "ReturnPile$State" "stepsOf" "[I", Cond.fieldLink RX0 15 "ReturnPile$State" "outcomes" "[I", Cond.fieldLink RX0 18 "ReturnPile$State" "timesNamed" "[I", Cond.classLink RX0 21 "[[I", Cond.fieldLink RX0 23 "ReturnPile$State" "frames" "[[I", Cond.fieldLink RX0 26 "ReturnPile$State" "slots" "[[I", Cond.fieldLink RX0 29 "ReturnPile$State" "steps" "[[I", Cond.fieldLink RX0 32 "ReturnPile$State" "confessions" "[[I", Cond.methodLink RX0 35 yX0_beginAnew, Cond.instanceMethod yX0_beginAnew, Cond.selects RX0 yX0_beginAnew yX0_beginAnew, Cond.initialized RX0, Cond.code yX0_beginAnew cX0_beginAnew 2 none, Cond.fieldLink RX0 39 "ReturnPile$State" "size" "I", Cond.fieldLink RX0 43 "ReturnPile$State" "top" "I", Cond.fieldLink RX0 46 "ReturnPile$State" "height" "I", Cond.fieldLink RX0 49 "ReturnPile$State" "greatestHeight" "I", Cond.fieldLink RX0 52 "ReturnPile$State" "stepCount" "I", Cond.fieldLink RX0 55 "ReturnPile$State" "confessionCount" "I", Cond.methodLink RX0 58 yJ7_fill_53178]
def wsX0_init_r2 : List Cond := [Cond.static yJ7_fill_53178, Cond.initialized RJ7, Cond.code yJ7_fill_53178 cJ7_fill_53178 4 none]
def wsX0_init : List Cond := .code yX0_init cX0_init 1 none :: ((wsX0_init_r1 ++ wsX0_init_r2) ++ wsX00)
def wsX0_copyRows : List Cond := .code yX0_copyRows cX0_copyRows 4 none :: ([.methodLink RX0 67 arraycopyName, .native arraycopyName, .static arraycopyName, .initialized "java/lang/System"])
def wsX0_copyFrom : List Cond := .code yX0_copyFrom cX0_copyFrom 2 none :: ([.fieldLink RX0 64 "ReturnPile$State" "repair" "I", .fieldLink RX0 39 "ReturnPile$State" "size" "I", .fieldLink RX0 43 "ReturnPile$State" "top" "I", .fieldLink RX0 46 "ReturnPile$State" "height" "I", .fieldLink RX0 49 "ReturnPile$State" "greatestHeight" "I", .fieldLink RX0 52 "ReturnPile$State" "stepCount" "I", .fieldLink RX0 55 "ReturnPile$State" "confessionCount" "I", .fieldLink RX0 9 "ReturnPile$State" "stepsOf" "[I", .methodLink RX0 67 arraycopyName, .native arraycopyName, .static arraycopyName, .initialized "java/lang/System", .fieldLink RX0 15 "ReturnPile$State" "outcomes" "[I", .fieldLink RX0 18 "ReturnPile$State" "timesNamed" "[I", .fieldLink RX0 23 "ReturnPile$State" "frames" "[[I", .fieldLink RX0 26 "ReturnPile$State" "slots" "[[I", .fieldLink RX0 29 "ReturnPile$State" "steps" "[[I", .fieldLink RX0 32 "ReturnPile$State" "confessions" "[[I", .methodLink RX0 73 yX0_copyRows, .static yX0_copyRows, .initialized RX0, .code yX0_copyRows cX0_copyRows 4 none] ++ wsX00)
def wsX0_isNumberFor : List Cond := .code yX0_isNumberFor cX0_isNumberFor 2 (some .boolean) :: ([])
def wsX0_framesNeeded : List Cond := .code yX0_framesNeeded cX0_framesNeeded 2 (some .int) :: ([])
def wsX0_errorOf : List Cond := .code yX0_errorOf cX0_errorOf 4 (some .int) :: ([.fieldLink RX0 46 "ReturnPile$State" "height" "I", .fieldLink RX0 52 "ReturnPile$State" "stepCount" "I", .methodLink RX0 100 yX0_isNumberFor, .static yX0_isNumberFor, .initialized RX0, .code yX0_isNumberFor cX0_isNumberFor 2 (some .boolean), .methodLink RX0 104 yX0_framesNeeded, .static yX0_framesNeeded, .code yX0_framesNeeded cX0_framesNeeded 2 (some .int)] ++ wsX00)
def wsX0_isOverrun : List Cond := .code yX0_isOverrun cX0_isOverrun 2 (some .boolean) :: ([.fieldLink RX0 23 "ReturnPile$State" "frames" "[[I"] ++ wsX00)
def wsX0_overrunFramesOfTop : List Cond := .code yX0_overrunFramesOfTop cX0_overrunFramesOfTop 3 none :: ([.fieldLink RX0 46 "ReturnPile$State" "height" "I", .fieldLink RX0 23 "ReturnPile$State" "frames" "[[I", .fieldLink RX0 43 "ReturnPile$State" "top" "I", .methodLink RX0 115 yX0_isOverrun, .instanceMethod yX0_isOverrun, .selects RX0 yX0_isOverrun yX0_isOverrun, .initialized RX0, .code yX0_isOverrun cX0_isOverrun 2 (some .boolean)] ++ wsX00)
def wsX0_addFrame : List Cond := .code yX0_addFrame cX0_addFrame 4 (some .int) :: ([.fieldLink RX0 9 "ReturnPile$State" "stepsOf" "[I", .fieldLink RX0 43 "ReturnPile$State" "top" "I", .fieldLink RX0 39 "ReturnPile$State" "size" "I", .fieldLink RX0 26 "ReturnPile$State" "slots" "[[I", .fieldLink RX0 23 "ReturnPile$State" "frames" "[[I", .fieldLink RX0 46 "ReturnPile$State" "height" "I", .fieldLink RX0 49 "ReturnPile$State" "greatestHeight" "I", .methodLink RX0 110 Lib.Math.max.name, .static Lib.Math.max.name, .initialized "java/lang/Math", .code Lib.Math.max.name Lib.Math.max.code 2 (some .int), .methodLink RX0 107 yX0_overrunFramesOfTop, .instanceMethod yX0_overrunFramesOfTop, .selects RX0 yX0_overrunFramesOfTop yX0_overrunFramesOfTop, .initialized RX0, .code yX0_overrunFramesOfTop cX0_overrunFramesOfTop 3 none, .methodLink RX0 115 yX0_isOverrun, .instanceMethod yX0_isOverrun, .selects RX0 yX0_isOverrun yX0_isOverrun, .code yX0_isOverrun cX0_isOverrun 2 (some .boolean)] ++ wsX00)
def wsX0_replaceFunction : List Cond := .code yX0_replaceFunction cX0_replaceFunction 3 (some .int) :: ([.fieldLink RX0 23 "ReturnPile$State" "frames" "[[I", .fieldLink RX0 46 "ReturnPile$State" "height" "I"] ++ wsX00)
def wsX0_outcomeOf : List Cond := .code yX0_outcomeOf cX0_outcomeOf 3 (some .int) :: ([.fieldLink RX0 26 "ReturnPile$State" "slots" "[[I", .fieldLink RX0 23 "ReturnPile$State" "frames" "[[I", .methodLink RX0 115 yX0_isOverrun, .instanceMethod yX0_isOverrun, .selects RX0 yX0_isOverrun yX0_isOverrun, .initialized RX0, .code yX0_isOverrun cX0_isOverrun 2 (some .boolean)] ++ wsX00)
def wsX0_confess : List Cond := .code yX0_confess cX0_confess 6 none :: ([.fieldLink RX0 46 "ReturnPile$State" "height" "I", .fieldLink RX0 23 "ReturnPile$State" "frames" "[[I", .fieldLink RX0 26 "ReturnPile$State" "slots" "[[I", .fieldLink RX0 43 "ReturnPile$State" "top" "I", .fieldLink RX0 32 "ReturnPile$State" "confessions" "[[I", .methodLink RX0 67 arraycopyName, .native arraycopyName, .static arraycopyName, .initialized "java/lang/System", .fieldLink RX0 52 "ReturnPile$State" "stepCount" "I", .fieldLink RX0 55 "ReturnPile$State" "confessionCount" "I", .methodLink RX0 128 Lib.Math.min.name, .static Lib.Math.min.name, .initialized "java/lang/Math", .code Lib.Math.min.name Lib.Math.min.code 2 (some .int), .fieldLink RX0 18 "ReturnPile$State" "timesNamed" "[I"] ++ wsX00)
def wsX0_slotBefore : List Cond := .code yX0_slotBefore cX0_slotBefore 2 (some .int) :: ([.fieldLink RX0 39 "ReturnPile$State" "size" "I"] ++ wsX00)
def wsX0_removeFrame_r1 : List Cond := [Cond.fieldLink RX0 46 "ReturnPile$State" "height" "I", Cond.fieldLink RX0 43 "ReturnPile$State" "top" "I", Cond.fieldLink RX0 15 "ReturnPile$State" "outcomes" "[I", Cond.methodLink RX0 119 yX0_outcomeOf, Cond.instanceMethod yX0_outcomeOf, Cond.selects RX0 yX0_outcomeOf yX0_outcomeOf, Cond.initialized RX0, Cond.code yX0_outcomeOf cX0_outcomeOf 3 (some .int), Cond.fieldLink RX0 26 "ReturnPile$State" "slots" "[[I", Cond.fieldLink RX0 23 "ReturnPile$State" "frames" "[[I", Cond.methodLink RX0 115 yX0_isOverrun, Cond.instanceMethod yX0_isOverrun, Cond.selects RX0 yX0_isOverrun yX0_isOverrun, Cond.code yX0_isOverrun cX0_isOverrun 2 (some .boolean), Cond.methodLink RX0 122 yX0_confess, Cond.instanceMethod yX0_confess, Cond.selects RX0 yX0_confess yX0_confess, Cond.code yX0_confess cX0_confess 6 none, Cond.fieldLink RX0 32 "ReturnPile$State" "confessions" "[[I", Cond.methodLink RX0 67 arraycopyName, Cond.native arraycopyName, Cond.static arraycopyName, Cond.initialized "java/lang/System", Cond.fieldLink RX0 52 "ReturnPile$State" "stepCount" "I"]
def wsX0_removeFrame_r2 : List Cond := [Cond.fieldLink RX0 55 "ReturnPile$State" "confessionCount" "I", Cond.methodLink RX0 128 Lib.Math.min.name, Cond.static Lib.Math.min.name, Cond.initialized "java/lang/Math", Cond.code Lib.Math.min.name Lib.Math.min.code 2 (some .int), Cond.fieldLink RX0 18 "ReturnPile$State" "timesNamed" "[I", Cond.methodLink RX0 125 yX0_slotBefore, Cond.instanceMethod yX0_slotBefore, Cond.selects RX0 yX0_slotBefore yX0_slotBefore, Cond.code yX0_slotBefore cX0_slotBefore 2 (some .int), Cond.fieldLink RX0 39 "ReturnPile$State" "size" "I"]
def wsX0_removeFrame : List Cond := .code yX0_removeFrame cX0_removeFrame 2 (some .int) :: ((wsX0_removeFrame_r1 ++ wsX0_removeFrame_r2) ++ wsX00)
def wsX0_removeFrames : List Cond := .code yX0_removeFrames cX0_removeFrames 3 (some .int) :: ([.fieldLink RX0 46 "ReturnPile$State" "height" "I", .fieldLink RX0 64 "ReturnPile$State" "repair" "I", .fieldLink RX0 43 "ReturnPile$State" "top" "I", .methodLink RX0 125 yX0_slotBefore, .instanceMethod yX0_slotBefore, .selects RX0 yX0_slotBefore yX0_slotBefore, .initialized RX0, .code yX0_slotBefore cX0_slotBefore 2 (some .int), .fieldLink RX0 39 "ReturnPile$State" "size" "I"] ++ wsX00)
def wsX0_remember : List Cond := .code yX0_remember cX0_remember 4 none :: ([.fieldLink RX0 29 "ReturnPile$State" "steps" "[[I", .fieldLink RX0 52 "ReturnPile$State" "stepCount" "I", .fieldLink RX0 9 "ReturnPile$State" "stepsOf" "[I"] ++ wsX00)
def wsX0_take_r1 : List Cond := [Cond.methodLink RX0 77 yX0_errorOf, Cond.instanceMethod yX0_errorOf, Cond.selects RX0 yX0_errorOf yX0_errorOf, Cond.initialized RX0, Cond.code yX0_errorOf cX0_errorOf 4 (some .int), Cond.fieldLink RX0 46 "ReturnPile$State" "height" "I", Cond.fieldLink RX0 52 "ReturnPile$State" "stepCount" "I", Cond.methodLink RX0 100 yX0_isNumberFor, Cond.static yX0_isNumberFor, Cond.code yX0_isNumberFor cX0_isNumberFor 2 (some .boolean), Cond.methodLink RX0 104 yX0_framesNeeded, Cond.static yX0_framesNeeded, Cond.code yX0_framesNeeded cX0_framesNeeded 2 (some .int), Cond.methodLink RX0 81 yX0_addFrame, Cond.instanceMethod yX0_addFrame, Cond.selects RX0 yX0_addFrame yX0_addFrame, Cond.code yX0_addFrame cX0_addFrame 4 (some .int), Cond.fieldLink RX0 9 "ReturnPile$State" "stepsOf" "[I", Cond.fieldLink RX0 43 "ReturnPile$State" "top" "I", Cond.fieldLink RX0 39 "ReturnPile$State" "size" "I", Cond.fieldLink RX0 26 "ReturnPile$State" "slots" "[[I", Cond.fieldLink RX0 23 "ReturnPile$State" "frames" "[[I", Cond.fieldLink RX0 49 "ReturnPile$State" "greatestHeight" "I", Cond.methodLink RX0 110 Lib.Math.max.name]
def wsX0_take_r2 : List Cond := [Cond.static Lib.Math.max.name, Cond.initialized "java/lang/Math", Cond.code Lib.Math.max.name Lib.Math.max.code 2 (some .int), Cond.methodLink RX0 107 yX0_overrunFramesOfTop, Cond.instanceMethod yX0_overrunFramesOfTop, Cond.selects RX0 yX0_overrunFramesOfTop yX0_overrunFramesOfTop, Cond.code yX0_overrunFramesOfTop cX0_overrunFramesOfTop 3 none, Cond.methodLink RX0 115 yX0_isOverrun, Cond.instanceMethod yX0_isOverrun, Cond.selects RX0 yX0_isOverrun yX0_isOverrun, Cond.code yX0_isOverrun cX0_isOverrun 2 (some .boolean), Cond.methodLink RX0 85 yX0_replaceFunction, Cond.instanceMethod yX0_replaceFunction, Cond.selects RX0 yX0_replaceFunction yX0_replaceFunction, Cond.code yX0_replaceFunction cX0_replaceFunction 3 (some .int), Cond.methodLink RX0 89 yX0_removeFrame, Cond.instanceMethod yX0_removeFrame, Cond.selects RX0 yX0_removeFrame yX0_removeFrame, Cond.code yX0_removeFrame cX0_removeFrame 2 (some .int), Cond.fieldLink RX0 15 "ReturnPile$State" "outcomes" "[I", Cond.methodLink RX0 119 yX0_outcomeOf, Cond.instanceMethod yX0_outcomeOf, Cond.selects RX0 yX0_outcomeOf yX0_outcomeOf, Cond.code yX0_outcomeOf cX0_outcomeOf 3 (some .int)]
def wsX0_take_r3 : List Cond := [Cond.methodLink RX0 122 yX0_confess, Cond.instanceMethod yX0_confess, Cond.selects RX0 yX0_confess yX0_confess, Cond.code yX0_confess cX0_confess 6 none, Cond.fieldLink RX0 32 "ReturnPile$State" "confessions" "[[I", Cond.methodLink RX0 67 arraycopyName, Cond.native arraycopyName, Cond.static arraycopyName, Cond.initialized "java/lang/System", Cond.fieldLink RX0 55 "ReturnPile$State" "confessionCount" "I", Cond.methodLink RX0 128 Lib.Math.min.name, Cond.static Lib.Math.min.name, Cond.code Lib.Math.min.name Lib.Math.min.code 2 (some .int), Cond.fieldLink RX0 18 "ReturnPile$State" "timesNamed" "[I", Cond.methodLink RX0 125 yX0_slotBefore, Cond.instanceMethod yX0_slotBefore, Cond.selects RX0 yX0_slotBefore yX0_slotBefore, Cond.code yX0_slotBefore cX0_slotBefore 2 (some .int), Cond.methodLink RX0 93 yX0_removeFrames, Cond.instanceMethod yX0_removeFrames, Cond.selects RX0 yX0_removeFrames yX0_removeFrames, Cond.code yX0_removeFrames cX0_removeFrames 3 (some .int), Cond.fieldLink RX0 64 "ReturnPile$State" "repair" "I", Cond.methodLink RX0 96 yX0_remember]
def wsX0_take_r4 : List Cond := [Cond.instanceMethod yX0_remember, Cond.selects RX0 yX0_remember yX0_remember, Cond.code yX0_remember cX0_remember 4 none, Cond.fieldLink RX0 29 "ReturnPile$State" "steps" "[[I"]
def wsX0_take : List Cond := .code yX0_take cX0_take 6 (some .int) :: ((wsX0_take_r1 ++ (wsX0_take_r2 ++ (wsX0_take_r3 ++ wsX0_take_r4))) ++ wsX00)
def wsX0_overrunFrames : List Cond := .code yX0_overrunFrames cX0_overrunFrames 3 (some .int) :: ([.fieldLink RX0 46 "ReturnPile$State" "height" "I", .methodLink RX0 115 yX0_isOverrun, .instanceMethod yX0_isOverrun, .selects RX0 yX0_isOverrun yX0_isOverrun, .initialized RX0, .code yX0_isOverrun cX0_isOverrun 2 (some .boolean), .fieldLink RX0 23 "ReturnPile$State" "frames" "[[I"] ++ wsX00)
def wsX0_hitsAhead : List Cond := .code yX0_hitsAhead cX0_hitsAhead 6 (some .int) :: ([.fieldLink RX0 43 "ReturnPile$State" "top" "I", .fieldLink RX0 46 "ReturnPile$State" "height" "I", .methodLink RX0 119 yX0_outcomeOf, .instanceMethod yX0_outcomeOf, .selects RX0 yX0_outcomeOf yX0_outcomeOf, .initialized RX0, .code yX0_outcomeOf cX0_outcomeOf 3 (some .int), .fieldLink RX0 26 "ReturnPile$State" "slots" "[[I", .fieldLink RX0 23 "ReturnPile$State" "frames" "[[I", .methodLink RX0 115 yX0_isOverrun, .instanceMethod yX0_isOverrun, .selects RX0 yX0_isOverrun yX0_isOverrun, .code yX0_isOverrun cX0_isOverrun 2 (some .boolean), .methodLink RX0 125 yX0_slotBefore, .instanceMethod yX0_slotBefore, .selects RX0 yX0_slotBefore yX0_slotBefore, .code yX0_slotBefore cX0_slotBefore 2 (some .int), .fieldLink RX0 39 "ReturnPile$State" "size" "I"] ++ wsX00)
def wsX0_misses : List Cond := .code yX0_misses cX0_misses 1 (some .int) :: ([.fieldLink RX0 15 "ReturnPile$State" "outcomes" "[I"] ++ wsX00)
def wsX1_init : List Cond := .code yX1_init cX1_init 1 none :: ([.methodLink RX1 3 objectInit, .instanceMethod objectInit, .code objectInit ⟨#[0xb1]⟩ 1 none, .arrayClass .int, .fieldLink RX1 9 "ReturnPile$Text" "characters" "[I"] ++ wsX10)
def wsX1_add : List Cond := .code yX1_add cX1_add 2 none :: ([.fieldLink RX1 9 "ReturnPile$Text" "characters" "[I", .fieldLink RX1 15 "ReturnPile$Text" "length" "I"] ++ wsX10)
def wsX1_isAtEnd : List Cond := .code yX1_isAtEnd cX1_isAtEnd 1 (some .boolean) :: ([.fieldLink RX1 19 "ReturnPile$Text" "place" "I", .fieldLink RX1 15 "ReturnPile$Text" "length" "I"] ++ wsX10)
def wsX1_sign : List Cond := .code yX1_sign cX1_sign 1 (some .int) :: ([.fieldLink RX1 19 "ReturnPile$Text" "place" "I", .fieldLink RX1 15 "ReturnPile$Text" "length" "I", .fieldLink RX1 9 "ReturnPile$Text" "characters" "[I"] ++ wsX10)
def wsX1_skipSpaces : List Cond := .code yX1_skipSpaces cX1_skipSpaces 1 none :: ([.fieldLink RX1 19 "ReturnPile$Text" "place" "I", .fieldLink RX1 15 "ReturnPile$Text" "length" "I", .fieldLink RX1 9 "ReturnPile$Text" "characters" "[I"] ++ wsX10)
def wsX1_readSign : List Cond := .code yX1_readSign cX1_readSign 2 (some .boolean) :: ([.fieldLink RX1 19 "ReturnPile$Text" "place" "I", .methodLink RX1 22 yX1_skipSpaces, .instanceMethod yX1_skipSpaces, .selects RX1 yX1_skipSpaces yX1_skipSpaces, .initialized RX1, .code yX1_skipSpaces cX1_skipSpaces 1 none, .fieldLink RX1 15 "ReturnPile$Text" "length" "I", .fieldLink RX1 9 "ReturnPile$Text" "characters" "[I", .methodLink RX1 25 yX1_sign, .instanceMethod yX1_sign, .selects RX1 yX1_sign yX1_sign, .code yX1_sign cX1_sign 1 (some .int)] ++ wsX10)
def wsX1_isDigit : List Cond := .code yX1_isDigit cX1_isDigit 1 (some .boolean) :: ([])
def wsX1_readNumber : List Cond := .code yX1_readNumber cX1_readNumber 5 (some .int) :: ([.fieldLink RX1 19 "ReturnPile$Text" "place" "I", .fieldLink RX1 15 "ReturnPile$Text" "length" "I", .fieldLink RX1 9 "ReturnPile$Text" "characters" "[I", .methodLink RX1 22 yX1_skipSpaces, .instanceMethod yX1_skipSpaces, .selects RX1 yX1_skipSpaces yX1_skipSpaces, .initialized RX1, .code yX1_skipSpaces cX1_skipSpaces 1 none, .methodLink RX1 29 yX1_isDigit, .static yX1_isDigit, .code yX1_isDigit cX1_isDigit 1 (some .boolean)] ++ wsX10)
def wsX2_init_r1 : List Cond := [Cond.methodLink RX2 1 objectInit, Cond.instanceMethod objectInit, Cond.code objectInit ⟨#[0xb1]⟩ 1 none, Cond.classLink RX2 7 RX0, Cond.instantiable RX0 14, Cond.initialized RX0, Cond.fieldLink RX2 10 "ReturnPile" "now" "LReturnPile$State;", Cond.fieldLink RX2 16 "ReturnPile" "before" "LReturnPile$State;", Cond.fieldLink RX2 19 "ReturnPile" "trial" "LReturnPile$State;", Cond.fieldLink RX2 22 "ReturnPile" "history" "[LReturnPile$State;", Cond.classLink RX2 26 RX1, Cond.instantiable RX1 3, Cond.initialized RX1, Cond.fieldLink RX2 29 "ReturnPile" "text" "LReturnPile$Text;", Cond.methodLink RX2 9 yX0_init, Cond.instanceMethod yX0_init, Cond.code yX0_init cX0_init 1 none, Cond.methodLink RX0 3 objectInit, Cond.arrayClass .int, Cond.fieldLink RX0 9 "ReturnPile$State" "stepsOf" "[I", Cond.fieldLink RX0 15 "ReturnPile$State" "outcomes" "[I", Cond.fieldLink RX0 18 "ReturnPile$State" "timesNamed" "[I", Cond.classLink RX0 21 "[[I", Cond.fieldLink RX0 23 "ReturnPile$State" "frames" "[[I"]
def wsX2_init_r2 : List Cond := [Cond.fieldLink RX0 26 "ReturnPile$State" "slots" "[[I", Cond.fieldLink RX0 29 "ReturnPile$State" "steps" "[[I", Cond.fieldLink RX0 32 "ReturnPile$State" "confessions" "[[I", Cond.methodLink RX0 35 yX0_beginAnew, Cond.instanceMethod yX0_beginAnew, Cond.selects RX0 yX0_beginAnew yX0_beginAnew, Cond.code yX0_beginAnew cX0_beginAnew 2 none, Cond.fieldLink RX0 39 "ReturnPile$State" "size" "I", Cond.fieldLink RX0 43 "ReturnPile$State" "top" "I", Cond.fieldLink RX0 46 "ReturnPile$State" "height" "I", Cond.fieldLink RX0 49 "ReturnPile$State" "greatestHeight" "I", Cond.fieldLink RX0 52 "ReturnPile$State" "stepCount" "I", Cond.fieldLink RX0 55 "ReturnPile$State" "confessionCount" "I", Cond.methodLink RX0 58 yJ7_fill_53178, Cond.static yJ7_fill_53178, Cond.initialized RJ7, Cond.code yJ7_fill_53178 cJ7_fill_53178 4 none, Cond.instanceMethod yX1_init, Cond.code yX1_init cX1_init 1 none, Cond.methodLink RX1 3 objectInit, Cond.fieldLink RX1 9 "ReturnPile$Text" "characters" "[I"]
def wsX2_init : List Cond := .code yX2_init cX2_init 2 none :: ((wsX2_init_r1 ++ wsX2_init_r2) ++ wsX00 ++ wsX20 ++ wsX10)
def wsX2_dropOldest : List Cond := .code yX2_dropOldest cX2_dropOldest 3 none :: ([.fieldLink RX2 22 "ReturnPile" "history" "[LReturnPile$State;", .fieldLink RX2 56 "ReturnPile" "historyLength" "I"] ++ wsX20)
def wsX2_record_r1 : List Cond := [Cond.fieldLink RX2 56 "ReturnPile" "historyLength" "I", Cond.fieldLink RX2 22 "ReturnPile" "history" "[LReturnPile$State;", Cond.methodLink RX2 126 yX2_dropOldest, Cond.instanceMethod yX2_dropOldest, Cond.selects RX2 yX2_dropOldest yX2_dropOldest, Cond.initialized RX2, Cond.code yX2_dropOldest cX2_dropOldest 3 none, Cond.methodLink RX2 59 yX0_copyFrom, Cond.instanceMethod yX0_copyFrom, Cond.selects RX0 yX0_copyFrom yX0_copyFrom, Cond.initialized RX0, Cond.code yX0_copyFrom cX0_copyFrom 2 none, Cond.fieldLink RX0 64 "ReturnPile$State" "repair" "I", Cond.fieldLink RX0 39 "ReturnPile$State" "size" "I", Cond.fieldLink RX0 43 "ReturnPile$State" "top" "I", Cond.fieldLink RX0 46 "ReturnPile$State" "height" "I", Cond.fieldLink RX0 49 "ReturnPile$State" "greatestHeight" "I", Cond.fieldLink RX0 52 "ReturnPile$State" "stepCount" "I", Cond.fieldLink RX0 55 "ReturnPile$State" "confessionCount" "I", Cond.fieldLink RX0 9 "ReturnPile$State" "stepsOf" "[I", Cond.methodLink RX0 67 arraycopyName, Cond.native arraycopyName, Cond.static arraycopyName, Cond.initialized "java/lang/System"]
def wsX2_record_r2 : List Cond := [Cond.fieldLink RX0 15 "ReturnPile$State" "outcomes" "[I", Cond.fieldLink RX0 18 "ReturnPile$State" "timesNamed" "[I", Cond.fieldLink RX0 23 "ReturnPile$State" "frames" "[[I", Cond.fieldLink RX0 26 "ReturnPile$State" "slots" "[[I", Cond.fieldLink RX0 29 "ReturnPile$State" "steps" "[[I", Cond.fieldLink RX0 32 "ReturnPile$State" "confessions" "[[I", Cond.methodLink RX0 73 yX0_copyRows, Cond.static yX0_copyRows, Cond.code yX0_copyRows cX0_copyRows 4 none]
def wsX2_record : List Cond := .code yX2_record cX2_record 2 none :: ((wsX2_record_r1 ++ wsX2_record_r2) ++ wsX20 ++ wsX00)
def wsX2_takeAsAction_r1 : List Cond := [Cond.fieldLink RX2 16 "ReturnPile" "before" "LReturnPile$State;", Cond.fieldLink RX2 10 "ReturnPile" "now" "LReturnPile$State;", Cond.methodLink RX2 59 yX0_copyFrom, Cond.instanceMethod yX0_copyFrom, Cond.selects RX0 yX0_copyFrom yX0_copyFrom, Cond.initialized RX0, Cond.code yX0_copyFrom cX0_copyFrom 2 none, Cond.fieldLink RX0 64 "ReturnPile$State" "repair" "I", Cond.fieldLink RX0 39 "ReturnPile$State" "size" "I", Cond.fieldLink RX0 43 "ReturnPile$State" "top" "I", Cond.fieldLink RX0 46 "ReturnPile$State" "height" "I", Cond.fieldLink RX0 49 "ReturnPile$State" "greatestHeight" "I", Cond.fieldLink RX0 52 "ReturnPile$State" "stepCount" "I", Cond.fieldLink RX0 55 "ReturnPile$State" "confessionCount" "I", Cond.fieldLink RX0 9 "ReturnPile$State" "stepsOf" "[I", Cond.methodLink RX0 67 arraycopyName, Cond.native arraycopyName, Cond.static arraycopyName, Cond.initialized "java/lang/System", Cond.fieldLink RX0 15 "ReturnPile$State" "outcomes" "[I", Cond.fieldLink RX0 18 "ReturnPile$State" "timesNamed" "[I", Cond.fieldLink RX0 23 "ReturnPile$State" "frames" "[[I", Cond.fieldLink RX0 26 "ReturnPile$State" "slots" "[[I", Cond.fieldLink RX0 29 "ReturnPile$State" "steps" "[[I"]
def wsX2_takeAsAction_r2 : List Cond := [Cond.fieldLink RX0 32 "ReturnPile$State" "confessions" "[[I", Cond.methodLink RX0 73 yX0_copyRows, Cond.static yX0_copyRows, Cond.code yX0_copyRows cX0_copyRows 4 none, Cond.methodLink RX2 123 yX0_take, Cond.instanceMethod yX0_take, Cond.selects RX0 yX0_take yX0_take, Cond.code yX0_take cX0_take 6 (some .int), Cond.methodLink RX0 77 yX0_errorOf, Cond.instanceMethod yX0_errorOf, Cond.selects RX0 yX0_errorOf yX0_errorOf, Cond.code yX0_errorOf cX0_errorOf 4 (some .int), Cond.methodLink RX0 100 yX0_isNumberFor, Cond.static yX0_isNumberFor, Cond.code yX0_isNumberFor cX0_isNumberFor 2 (some .boolean), Cond.methodLink RX0 104 yX0_framesNeeded, Cond.static yX0_framesNeeded, Cond.code yX0_framesNeeded cX0_framesNeeded 2 (some .int), Cond.methodLink RX0 81 yX0_addFrame, Cond.instanceMethod yX0_addFrame, Cond.selects RX0 yX0_addFrame yX0_addFrame, Cond.code yX0_addFrame cX0_addFrame 4 (some .int), Cond.methodLink RX0 110 Lib.Math.max.name, Cond.static Lib.Math.max.name]
def wsX2_takeAsAction_r3 : List Cond := [Cond.initialized "java/lang/Math", Cond.code Lib.Math.max.name Lib.Math.max.code 2 (some .int), Cond.methodLink RX0 107 yX0_overrunFramesOfTop, Cond.instanceMethod yX0_overrunFramesOfTop, Cond.selects RX0 yX0_overrunFramesOfTop yX0_overrunFramesOfTop, Cond.code yX0_overrunFramesOfTop cX0_overrunFramesOfTop 3 none, Cond.methodLink RX0 115 yX0_isOverrun, Cond.instanceMethod yX0_isOverrun, Cond.selects RX0 yX0_isOverrun yX0_isOverrun, Cond.code yX0_isOverrun cX0_isOverrun 2 (some .boolean), Cond.methodLink RX0 85 yX0_replaceFunction, Cond.instanceMethod yX0_replaceFunction, Cond.selects RX0 yX0_replaceFunction yX0_replaceFunction, Cond.code yX0_replaceFunction cX0_replaceFunction 3 (some .int), Cond.methodLink RX0 89 yX0_removeFrame, Cond.instanceMethod yX0_removeFrame, Cond.selects RX0 yX0_removeFrame yX0_removeFrame, Cond.code yX0_removeFrame cX0_removeFrame 2 (some .int), Cond.methodLink RX0 119 yX0_outcomeOf, Cond.instanceMethod yX0_outcomeOf, Cond.selects RX0 yX0_outcomeOf yX0_outcomeOf, Cond.code yX0_outcomeOf cX0_outcomeOf 3 (some .int), Cond.methodLink RX0 122 yX0_confess, Cond.instanceMethod yX0_confess]
def wsX2_takeAsAction_r4 : List Cond := [Cond.selects RX0 yX0_confess yX0_confess, Cond.code yX0_confess cX0_confess 6 none, Cond.methodLink RX0 128 Lib.Math.min.name, Cond.static Lib.Math.min.name, Cond.code Lib.Math.min.name Lib.Math.min.code 2 (some .int), Cond.methodLink RX0 125 yX0_slotBefore, Cond.instanceMethod yX0_slotBefore, Cond.selects RX0 yX0_slotBefore yX0_slotBefore, Cond.code yX0_slotBefore cX0_slotBefore 2 (some .int), Cond.methodLink RX0 93 yX0_removeFrames, Cond.instanceMethod yX0_removeFrames, Cond.selects RX0 yX0_removeFrames yX0_removeFrames, Cond.code yX0_removeFrames cX0_removeFrames 3 (some .int), Cond.methodLink RX0 96 yX0_remember, Cond.instanceMethod yX0_remember, Cond.selects RX0 yX0_remember yX0_remember, Cond.code yX0_remember cX0_remember 4 none, Cond.methodLink RX2 37 yX2_record, Cond.instanceMethod yX2_record, Cond.selects RX2 yX2_record yX2_record, Cond.initialized RX2, Cond.code yX2_record cX2_record 2 none, Cond.fieldLink RX2 56 "ReturnPile" "historyLength" "I", Cond.fieldLink RX2 22 "ReturnPile" "history" "[LReturnPile$State;"]
def wsX2_takeAsAction_r5 : List Cond := [Cond.methodLink RX2 126 yX2_dropOldest, Cond.instanceMethod yX2_dropOldest, Cond.selects RX2 yX2_dropOldest yX2_dropOldest, Cond.code yX2_dropOldest cX2_dropOldest 3 none]
def wsX2_takeAsAction : List Cond := .code yX2_takeAsAction cX2_takeAsAction 5 (some .int) :: ((wsX2_takeAsAction_r1 ++ (wsX2_takeAsAction_r2 ++ (wsX2_takeAsAction_r3 ++ (wsX2_takeAsAction_r4 ++ wsX2_takeAsAction_r5)))) ++ wsX20 ++ wsX00)
def wsX2_call_r1 : List Cond := [Cond.methodLink RX2 33 yX2_takeAsAction, Cond.instanceMethod yX2_takeAsAction, Cond.selects RX2 yX2_takeAsAction yX2_takeAsAction, Cond.initialized RX2, Cond.code yX2_takeAsAction cX2_takeAsAction 5 (some .int), Cond.fieldLink RX2 16 "ReturnPile" "before" "LReturnPile$State;", Cond.fieldLink RX2 10 "ReturnPile" "now" "LReturnPile$State;", Cond.methodLink RX2 59 yX0_copyFrom, Cond.instanceMethod yX0_copyFrom, Cond.selects RX0 yX0_copyFrom yX0_copyFrom, Cond.initialized RX0, Cond.code yX0_copyFrom cX0_copyFrom 2 none, Cond.fieldLink RX0 64 "ReturnPile$State" "repair" "I", Cond.fieldLink RX0 39 "ReturnPile$State" "size" "I", Cond.fieldLink RX0 43 "ReturnPile$State" "top" "I", Cond.fieldLink RX0 46 "ReturnPile$State" "height" "I", Cond.fieldLink RX0 49 "ReturnPile$State" "greatestHeight" "I", Cond.fieldLink RX0 52 "ReturnPile$State" "stepCount" "I", Cond.fieldLink RX0 55 "ReturnPile$State" "confessionCount" "I", Cond.fieldLink RX0 9 "ReturnPile$State" "stepsOf" "[I", Cond.methodLink RX0 67 arraycopyName, Cond.native arraycopyName, Cond.static arraycopyName, Cond.initialized "java/lang/System"]
def wsX2_call_r2 : List Cond := [Cond.fieldLink RX0 15 "ReturnPile$State" "outcomes" "[I", Cond.fieldLink RX0 18 "ReturnPile$State" "timesNamed" "[I", Cond.fieldLink RX0 23 "ReturnPile$State" "frames" "[[I", Cond.fieldLink RX0 26 "ReturnPile$State" "slots" "[[I", Cond.fieldLink RX0 29 "ReturnPile$State" "steps" "[[I", Cond.fieldLink RX0 32 "ReturnPile$State" "confessions" "[[I", Cond.methodLink RX0 73 yX0_copyRows, Cond.static yX0_copyRows, Cond.code yX0_copyRows cX0_copyRows 4 none, Cond.methodLink RX2 123 yX0_take, Cond.instanceMethod yX0_take, Cond.selects RX0 yX0_take yX0_take, Cond.code yX0_take cX0_take 6 (some .int), Cond.methodLink RX0 77 yX0_errorOf, Cond.instanceMethod yX0_errorOf, Cond.selects RX0 yX0_errorOf yX0_errorOf, Cond.code yX0_errorOf cX0_errorOf 4 (some .int), Cond.methodLink RX0 100 yX0_isNumberFor, Cond.static yX0_isNumberFor, Cond.code yX0_isNumberFor cX0_isNumberFor 2 (some .boolean), Cond.methodLink RX0 104 yX0_framesNeeded, Cond.static yX0_framesNeeded, Cond.code yX0_framesNeeded cX0_framesNeeded 2 (some .int), Cond.methodLink RX0 81 yX0_addFrame]
def wsX2_call_r3 : List Cond := [Cond.instanceMethod yX0_addFrame, Cond.selects RX0 yX0_addFrame yX0_addFrame, Cond.code yX0_addFrame cX0_addFrame 4 (some .int), Cond.methodLink RX0 110 Lib.Math.max.name, Cond.static Lib.Math.max.name, Cond.initialized "java/lang/Math", Cond.code Lib.Math.max.name Lib.Math.max.code 2 (some .int), Cond.methodLink RX0 107 yX0_overrunFramesOfTop, Cond.instanceMethod yX0_overrunFramesOfTop, Cond.selects RX0 yX0_overrunFramesOfTop yX0_overrunFramesOfTop, Cond.code yX0_overrunFramesOfTop cX0_overrunFramesOfTop 3 none, Cond.methodLink RX0 115 yX0_isOverrun, Cond.instanceMethod yX0_isOverrun, Cond.selects RX0 yX0_isOverrun yX0_isOverrun, Cond.code yX0_isOverrun cX0_isOverrun 2 (some .boolean), Cond.methodLink RX0 85 yX0_replaceFunction, Cond.instanceMethod yX0_replaceFunction, Cond.selects RX0 yX0_replaceFunction yX0_replaceFunction, Cond.code yX0_replaceFunction cX0_replaceFunction 3 (some .int), Cond.methodLink RX0 89 yX0_removeFrame, Cond.instanceMethod yX0_removeFrame, Cond.selects RX0 yX0_removeFrame yX0_removeFrame, Cond.code yX0_removeFrame cX0_removeFrame 2 (some .int), Cond.methodLink RX0 119 yX0_outcomeOf]
def wsX2_call_r4 : List Cond := [Cond.instanceMethod yX0_outcomeOf, Cond.selects RX0 yX0_outcomeOf yX0_outcomeOf, Cond.code yX0_outcomeOf cX0_outcomeOf 3 (some .int), Cond.methodLink RX0 122 yX0_confess, Cond.instanceMethod yX0_confess, Cond.selects RX0 yX0_confess yX0_confess, Cond.code yX0_confess cX0_confess 6 none, Cond.methodLink RX0 128 Lib.Math.min.name, Cond.static Lib.Math.min.name, Cond.code Lib.Math.min.name Lib.Math.min.code 2 (some .int), Cond.methodLink RX0 125 yX0_slotBefore, Cond.instanceMethod yX0_slotBefore, Cond.selects RX0 yX0_slotBefore yX0_slotBefore, Cond.code yX0_slotBefore cX0_slotBefore 2 (some .int), Cond.methodLink RX0 93 yX0_removeFrames, Cond.instanceMethod yX0_removeFrames, Cond.selects RX0 yX0_removeFrames yX0_removeFrames, Cond.code yX0_removeFrames cX0_removeFrames 3 (some .int), Cond.methodLink RX0 96 yX0_remember, Cond.instanceMethod yX0_remember, Cond.selects RX0 yX0_remember yX0_remember, Cond.code yX0_remember cX0_remember 4 none, Cond.methodLink RX2 37 yX2_record, Cond.instanceMethod yX2_record]
def wsX2_call_r5 : List Cond := [Cond.selects RX2 yX2_record yX2_record, Cond.code yX2_record cX2_record 2 none, Cond.fieldLink RX2 56 "ReturnPile" "historyLength" "I", Cond.fieldLink RX2 22 "ReturnPile" "history" "[LReturnPile$State;", Cond.methodLink RX2 126 yX2_dropOldest, Cond.instanceMethod yX2_dropOldest, Cond.selects RX2 yX2_dropOldest yX2_dropOldest, Cond.code yX2_dropOldest cX2_dropOldest 3 none]
def wsX2_call : List Cond := .code yX2_call cX2_call 3 (some .int) :: ((wsX2_call_r1 ++ (wsX2_call_r2 ++ (wsX2_call_r3 ++ (wsX2_call_r4 ++ wsX2_call_r5)))) ++ wsX20 ++ wsX00)
def wsX2_tail_r1 : List Cond := [Cond.methodLink RX2 33 yX2_takeAsAction, Cond.instanceMethod yX2_takeAsAction, Cond.selects RX2 yX2_takeAsAction yX2_takeAsAction, Cond.initialized RX2, Cond.code yX2_takeAsAction cX2_takeAsAction 5 (some .int), Cond.fieldLink RX2 16 "ReturnPile" "before" "LReturnPile$State;", Cond.fieldLink RX2 10 "ReturnPile" "now" "LReturnPile$State;", Cond.methodLink RX2 59 yX0_copyFrom, Cond.instanceMethod yX0_copyFrom, Cond.selects RX0 yX0_copyFrom yX0_copyFrom, Cond.initialized RX0, Cond.code yX0_copyFrom cX0_copyFrom 2 none, Cond.fieldLink RX0 64 "ReturnPile$State" "repair" "I", Cond.fieldLink RX0 39 "ReturnPile$State" "size" "I", Cond.fieldLink RX0 43 "ReturnPile$State" "top" "I", Cond.fieldLink RX0 46 "ReturnPile$State" "height" "I", Cond.fieldLink RX0 49 "ReturnPile$State" "greatestHeight" "I", Cond.fieldLink RX0 52 "ReturnPile$State" "stepCount" "I", Cond.fieldLink RX0 55 "ReturnPile$State" "confessionCount" "I", Cond.fieldLink RX0 9 "ReturnPile$State" "stepsOf" "[I", Cond.methodLink RX0 67 arraycopyName, Cond.native arraycopyName, Cond.static arraycopyName, Cond.initialized "java/lang/System"]
def wsX2_tail_r2 : List Cond := [Cond.fieldLink RX0 15 "ReturnPile$State" "outcomes" "[I", Cond.fieldLink RX0 18 "ReturnPile$State" "timesNamed" "[I", Cond.fieldLink RX0 23 "ReturnPile$State" "frames" "[[I", Cond.fieldLink RX0 26 "ReturnPile$State" "slots" "[[I", Cond.fieldLink RX0 29 "ReturnPile$State" "steps" "[[I", Cond.fieldLink RX0 32 "ReturnPile$State" "confessions" "[[I", Cond.methodLink RX0 73 yX0_copyRows, Cond.static yX0_copyRows, Cond.code yX0_copyRows cX0_copyRows 4 none, Cond.methodLink RX2 123 yX0_take, Cond.instanceMethod yX0_take, Cond.selects RX0 yX0_take yX0_take, Cond.code yX0_take cX0_take 6 (some .int), Cond.methodLink RX0 77 yX0_errorOf, Cond.instanceMethod yX0_errorOf, Cond.selects RX0 yX0_errorOf yX0_errorOf, Cond.code yX0_errorOf cX0_errorOf 4 (some .int), Cond.methodLink RX0 100 yX0_isNumberFor, Cond.static yX0_isNumberFor, Cond.code yX0_isNumberFor cX0_isNumberFor 2 (some .boolean), Cond.methodLink RX0 104 yX0_framesNeeded, Cond.static yX0_framesNeeded, Cond.code yX0_framesNeeded cX0_framesNeeded 2 (some .int), Cond.methodLink RX0 81 yX0_addFrame]
def wsX2_tail_r3 : List Cond := [Cond.instanceMethod yX0_addFrame, Cond.selects RX0 yX0_addFrame yX0_addFrame, Cond.code yX0_addFrame cX0_addFrame 4 (some .int), Cond.methodLink RX0 110 Lib.Math.max.name, Cond.static Lib.Math.max.name, Cond.initialized "java/lang/Math", Cond.code Lib.Math.max.name Lib.Math.max.code 2 (some .int), Cond.methodLink RX0 107 yX0_overrunFramesOfTop, Cond.instanceMethod yX0_overrunFramesOfTop, Cond.selects RX0 yX0_overrunFramesOfTop yX0_overrunFramesOfTop, Cond.code yX0_overrunFramesOfTop cX0_overrunFramesOfTop 3 none, Cond.methodLink RX0 115 yX0_isOverrun, Cond.instanceMethod yX0_isOverrun, Cond.selects RX0 yX0_isOverrun yX0_isOverrun, Cond.code yX0_isOverrun cX0_isOverrun 2 (some .boolean), Cond.methodLink RX0 85 yX0_replaceFunction, Cond.instanceMethod yX0_replaceFunction, Cond.selects RX0 yX0_replaceFunction yX0_replaceFunction, Cond.code yX0_replaceFunction cX0_replaceFunction 3 (some .int), Cond.methodLink RX0 89 yX0_removeFrame, Cond.instanceMethod yX0_removeFrame, Cond.selects RX0 yX0_removeFrame yX0_removeFrame, Cond.code yX0_removeFrame cX0_removeFrame 2 (some .int), Cond.methodLink RX0 119 yX0_outcomeOf]
def wsX2_tail_r4 : List Cond := [Cond.instanceMethod yX0_outcomeOf, Cond.selects RX0 yX0_outcomeOf yX0_outcomeOf, Cond.code yX0_outcomeOf cX0_outcomeOf 3 (some .int), Cond.methodLink RX0 122 yX0_confess, Cond.instanceMethod yX0_confess, Cond.selects RX0 yX0_confess yX0_confess, Cond.code yX0_confess cX0_confess 6 none, Cond.methodLink RX0 128 Lib.Math.min.name, Cond.static Lib.Math.min.name, Cond.code Lib.Math.min.name Lib.Math.min.code 2 (some .int), Cond.methodLink RX0 125 yX0_slotBefore, Cond.instanceMethod yX0_slotBefore, Cond.selects RX0 yX0_slotBefore yX0_slotBefore, Cond.code yX0_slotBefore cX0_slotBefore 2 (some .int), Cond.methodLink RX0 93 yX0_removeFrames, Cond.instanceMethod yX0_removeFrames, Cond.selects RX0 yX0_removeFrames yX0_removeFrames, Cond.code yX0_removeFrames cX0_removeFrames 3 (some .int), Cond.methodLink RX0 96 yX0_remember, Cond.instanceMethod yX0_remember, Cond.selects RX0 yX0_remember yX0_remember, Cond.code yX0_remember cX0_remember 4 none, Cond.methodLink RX2 37 yX2_record, Cond.instanceMethod yX2_record]
def wsX2_tail_r5 : List Cond := [Cond.selects RX2 yX2_record yX2_record, Cond.code yX2_record cX2_record 2 none, Cond.fieldLink RX2 56 "ReturnPile" "historyLength" "I", Cond.fieldLink RX2 22 "ReturnPile" "history" "[LReturnPile$State;", Cond.methodLink RX2 126 yX2_dropOldest, Cond.instanceMethod yX2_dropOldest, Cond.selects RX2 yX2_dropOldest yX2_dropOldest, Cond.code yX2_dropOldest cX2_dropOldest 3 none]
def wsX2_tail : List Cond := .code yX2_tail cX2_tail 2 (some .int) :: ((wsX2_tail_r1 ++ (wsX2_tail_r2 ++ (wsX2_tail_r3 ++ (wsX2_tail_r4 ++ wsX2_tail_r5)))) ++ wsX20 ++ wsX00)
def wsX2_ret_r1 : List Cond := [Cond.methodLink RX2 33 yX2_takeAsAction, Cond.instanceMethod yX2_takeAsAction, Cond.selects RX2 yX2_takeAsAction yX2_takeAsAction, Cond.initialized RX2, Cond.code yX2_takeAsAction cX2_takeAsAction 5 (some .int), Cond.fieldLink RX2 16 "ReturnPile" "before" "LReturnPile$State;", Cond.fieldLink RX2 10 "ReturnPile" "now" "LReturnPile$State;", Cond.methodLink RX2 59 yX0_copyFrom, Cond.instanceMethod yX0_copyFrom, Cond.selects RX0 yX0_copyFrom yX0_copyFrom, Cond.initialized RX0, Cond.code yX0_copyFrom cX0_copyFrom 2 none, Cond.fieldLink RX0 64 "ReturnPile$State" "repair" "I", Cond.fieldLink RX0 39 "ReturnPile$State" "size" "I", Cond.fieldLink RX0 43 "ReturnPile$State" "top" "I", Cond.fieldLink RX0 46 "ReturnPile$State" "height" "I", Cond.fieldLink RX0 49 "ReturnPile$State" "greatestHeight" "I", Cond.fieldLink RX0 52 "ReturnPile$State" "stepCount" "I", Cond.fieldLink RX0 55 "ReturnPile$State" "confessionCount" "I", Cond.fieldLink RX0 9 "ReturnPile$State" "stepsOf" "[I", Cond.methodLink RX0 67 arraycopyName, Cond.native arraycopyName, Cond.static arraycopyName, Cond.initialized "java/lang/System"]
def wsX2_ret_r2 : List Cond := [Cond.fieldLink RX0 15 "ReturnPile$State" "outcomes" "[I", Cond.fieldLink RX0 18 "ReturnPile$State" "timesNamed" "[I", Cond.fieldLink RX0 23 "ReturnPile$State" "frames" "[[I", Cond.fieldLink RX0 26 "ReturnPile$State" "slots" "[[I", Cond.fieldLink RX0 29 "ReturnPile$State" "steps" "[[I", Cond.fieldLink RX0 32 "ReturnPile$State" "confessions" "[[I", Cond.methodLink RX0 73 yX0_copyRows, Cond.static yX0_copyRows, Cond.code yX0_copyRows cX0_copyRows 4 none, Cond.methodLink RX2 123 yX0_take, Cond.instanceMethod yX0_take, Cond.selects RX0 yX0_take yX0_take, Cond.code yX0_take cX0_take 6 (some .int), Cond.methodLink RX0 77 yX0_errorOf, Cond.instanceMethod yX0_errorOf, Cond.selects RX0 yX0_errorOf yX0_errorOf, Cond.code yX0_errorOf cX0_errorOf 4 (some .int), Cond.methodLink RX0 100 yX0_isNumberFor, Cond.static yX0_isNumberFor, Cond.code yX0_isNumberFor cX0_isNumberFor 2 (some .boolean), Cond.methodLink RX0 104 yX0_framesNeeded, Cond.static yX0_framesNeeded, Cond.code yX0_framesNeeded cX0_framesNeeded 2 (some .int), Cond.methodLink RX0 81 yX0_addFrame]
def wsX2_ret_r3 : List Cond := [Cond.instanceMethod yX0_addFrame, Cond.selects RX0 yX0_addFrame yX0_addFrame, Cond.code yX0_addFrame cX0_addFrame 4 (some .int), Cond.methodLink RX0 110 Lib.Math.max.name, Cond.static Lib.Math.max.name, Cond.initialized "java/lang/Math", Cond.code Lib.Math.max.name Lib.Math.max.code 2 (some .int), Cond.methodLink RX0 107 yX0_overrunFramesOfTop, Cond.instanceMethod yX0_overrunFramesOfTop, Cond.selects RX0 yX0_overrunFramesOfTop yX0_overrunFramesOfTop, Cond.code yX0_overrunFramesOfTop cX0_overrunFramesOfTop 3 none, Cond.methodLink RX0 115 yX0_isOverrun, Cond.instanceMethod yX0_isOverrun, Cond.selects RX0 yX0_isOverrun yX0_isOverrun, Cond.code yX0_isOverrun cX0_isOverrun 2 (some .boolean), Cond.methodLink RX0 85 yX0_replaceFunction, Cond.instanceMethod yX0_replaceFunction, Cond.selects RX0 yX0_replaceFunction yX0_replaceFunction, Cond.code yX0_replaceFunction cX0_replaceFunction 3 (some .int), Cond.methodLink RX0 89 yX0_removeFrame, Cond.instanceMethod yX0_removeFrame, Cond.selects RX0 yX0_removeFrame yX0_removeFrame, Cond.code yX0_removeFrame cX0_removeFrame 2 (some .int), Cond.methodLink RX0 119 yX0_outcomeOf]
def wsX2_ret_r4 : List Cond := [Cond.instanceMethod yX0_outcomeOf, Cond.selects RX0 yX0_outcomeOf yX0_outcomeOf, Cond.code yX0_outcomeOf cX0_outcomeOf 3 (some .int), Cond.methodLink RX0 122 yX0_confess, Cond.instanceMethod yX0_confess, Cond.selects RX0 yX0_confess yX0_confess, Cond.code yX0_confess cX0_confess 6 none, Cond.methodLink RX0 128 Lib.Math.min.name, Cond.static Lib.Math.min.name, Cond.code Lib.Math.min.name Lib.Math.min.code 2 (some .int), Cond.methodLink RX0 125 yX0_slotBefore, Cond.instanceMethod yX0_slotBefore, Cond.selects RX0 yX0_slotBefore yX0_slotBefore, Cond.code yX0_slotBefore cX0_slotBefore 2 (some .int), Cond.methodLink RX0 93 yX0_removeFrames, Cond.instanceMethod yX0_removeFrames, Cond.selects RX0 yX0_removeFrames yX0_removeFrames, Cond.code yX0_removeFrames cX0_removeFrames 3 (some .int), Cond.methodLink RX0 96 yX0_remember, Cond.instanceMethod yX0_remember, Cond.selects RX0 yX0_remember yX0_remember, Cond.code yX0_remember cX0_remember 4 none, Cond.methodLink RX2 37 yX2_record, Cond.instanceMethod yX2_record]
def wsX2_ret_r5 : List Cond := [Cond.selects RX2 yX2_record yX2_record, Cond.code yX2_record cX2_record 2 none, Cond.fieldLink RX2 56 "ReturnPile" "historyLength" "I", Cond.fieldLink RX2 22 "ReturnPile" "history" "[LReturnPile$State;", Cond.methodLink RX2 126 yX2_dropOldest, Cond.instanceMethod yX2_dropOldest, Cond.selects RX2 yX2_dropOldest yX2_dropOldest, Cond.code yX2_dropOldest cX2_dropOldest 3 none]
def wsX2_ret : List Cond := .code yX2_ret cX2_ret 1 (some .int) :: ((wsX2_ret_r1 ++ (wsX2_ret_r2 ++ (wsX2_ret_r3 ++ (wsX2_ret_r4 ++ wsX2_ret_r5)))) ++ wsX20 ++ wsX00)
def wsX2_raise_r1 : List Cond := [Cond.methodLink RX2 33 yX2_takeAsAction, Cond.instanceMethod yX2_takeAsAction, Cond.selects RX2 yX2_takeAsAction yX2_takeAsAction, Cond.initialized RX2, Cond.code yX2_takeAsAction cX2_takeAsAction 5 (some .int), Cond.fieldLink RX2 16 "ReturnPile" "before" "LReturnPile$State;", Cond.fieldLink RX2 10 "ReturnPile" "now" "LReturnPile$State;", Cond.methodLink RX2 59 yX0_copyFrom, Cond.instanceMethod yX0_copyFrom, Cond.selects RX0 yX0_copyFrom yX0_copyFrom, Cond.initialized RX0, Cond.code yX0_copyFrom cX0_copyFrom 2 none, Cond.fieldLink RX0 64 "ReturnPile$State" "repair" "I", Cond.fieldLink RX0 39 "ReturnPile$State" "size" "I", Cond.fieldLink RX0 43 "ReturnPile$State" "top" "I", Cond.fieldLink RX0 46 "ReturnPile$State" "height" "I", Cond.fieldLink RX0 49 "ReturnPile$State" "greatestHeight" "I", Cond.fieldLink RX0 52 "ReturnPile$State" "stepCount" "I", Cond.fieldLink RX0 55 "ReturnPile$State" "confessionCount" "I", Cond.fieldLink RX0 9 "ReturnPile$State" "stepsOf" "[I", Cond.methodLink RX0 67 arraycopyName, Cond.native arraycopyName, Cond.static arraycopyName, Cond.initialized "java/lang/System"]
def wsX2_raise_r2 : List Cond := [Cond.fieldLink RX0 15 "ReturnPile$State" "outcomes" "[I", Cond.fieldLink RX0 18 "ReturnPile$State" "timesNamed" "[I", Cond.fieldLink RX0 23 "ReturnPile$State" "frames" "[[I", Cond.fieldLink RX0 26 "ReturnPile$State" "slots" "[[I", Cond.fieldLink RX0 29 "ReturnPile$State" "steps" "[[I", Cond.fieldLink RX0 32 "ReturnPile$State" "confessions" "[[I", Cond.methodLink RX0 73 yX0_copyRows, Cond.static yX0_copyRows, Cond.code yX0_copyRows cX0_copyRows 4 none, Cond.methodLink RX2 123 yX0_take, Cond.instanceMethod yX0_take, Cond.selects RX0 yX0_take yX0_take, Cond.code yX0_take cX0_take 6 (some .int), Cond.methodLink RX0 77 yX0_errorOf, Cond.instanceMethod yX0_errorOf, Cond.selects RX0 yX0_errorOf yX0_errorOf, Cond.code yX0_errorOf cX0_errorOf 4 (some .int), Cond.methodLink RX0 100 yX0_isNumberFor, Cond.static yX0_isNumberFor, Cond.code yX0_isNumberFor cX0_isNumberFor 2 (some .boolean), Cond.methodLink RX0 104 yX0_framesNeeded, Cond.static yX0_framesNeeded, Cond.code yX0_framesNeeded cX0_framesNeeded 2 (some .int), Cond.methodLink RX0 81 yX0_addFrame]
def wsX2_raise_r3 : List Cond := [Cond.instanceMethod yX0_addFrame, Cond.selects RX0 yX0_addFrame yX0_addFrame, Cond.code yX0_addFrame cX0_addFrame 4 (some .int), Cond.methodLink RX0 110 Lib.Math.max.name, Cond.static Lib.Math.max.name, Cond.initialized "java/lang/Math", Cond.code Lib.Math.max.name Lib.Math.max.code 2 (some .int), Cond.methodLink RX0 107 yX0_overrunFramesOfTop, Cond.instanceMethod yX0_overrunFramesOfTop, Cond.selects RX0 yX0_overrunFramesOfTop yX0_overrunFramesOfTop, Cond.code yX0_overrunFramesOfTop cX0_overrunFramesOfTop 3 none, Cond.methodLink RX0 115 yX0_isOverrun, Cond.instanceMethod yX0_isOverrun, Cond.selects RX0 yX0_isOverrun yX0_isOverrun, Cond.code yX0_isOverrun cX0_isOverrun 2 (some .boolean), Cond.methodLink RX0 85 yX0_replaceFunction, Cond.instanceMethod yX0_replaceFunction, Cond.selects RX0 yX0_replaceFunction yX0_replaceFunction, Cond.code yX0_replaceFunction cX0_replaceFunction 3 (some .int), Cond.methodLink RX0 89 yX0_removeFrame, Cond.instanceMethod yX0_removeFrame, Cond.selects RX0 yX0_removeFrame yX0_removeFrame, Cond.code yX0_removeFrame cX0_removeFrame 2 (some .int), Cond.methodLink RX0 119 yX0_outcomeOf]
def wsX2_raise_r4 : List Cond := [Cond.instanceMethod yX0_outcomeOf, Cond.selects RX0 yX0_outcomeOf yX0_outcomeOf, Cond.code yX0_outcomeOf cX0_outcomeOf 3 (some .int), Cond.methodLink RX0 122 yX0_confess, Cond.instanceMethod yX0_confess, Cond.selects RX0 yX0_confess yX0_confess, Cond.code yX0_confess cX0_confess 6 none, Cond.methodLink RX0 128 Lib.Math.min.name, Cond.static Lib.Math.min.name, Cond.code Lib.Math.min.name Lib.Math.min.code 2 (some .int), Cond.methodLink RX0 125 yX0_slotBefore, Cond.instanceMethod yX0_slotBefore, Cond.selects RX0 yX0_slotBefore yX0_slotBefore, Cond.code yX0_slotBefore cX0_slotBefore 2 (some .int), Cond.methodLink RX0 93 yX0_removeFrames, Cond.instanceMethod yX0_removeFrames, Cond.selects RX0 yX0_removeFrames yX0_removeFrames, Cond.code yX0_removeFrames cX0_removeFrames 3 (some .int), Cond.methodLink RX0 96 yX0_remember, Cond.instanceMethod yX0_remember, Cond.selects RX0 yX0_remember yX0_remember, Cond.code yX0_remember cX0_remember 4 none, Cond.methodLink RX2 37 yX2_record, Cond.instanceMethod yX2_record]
def wsX2_raise_r5 : List Cond := [Cond.selects RX2 yX2_record yX2_record, Cond.code yX2_record cX2_record 2 none, Cond.fieldLink RX2 56 "ReturnPile" "historyLength" "I", Cond.fieldLink RX2 22 "ReturnPile" "history" "[LReturnPile$State;", Cond.methodLink RX2 126 yX2_dropOldest, Cond.instanceMethod yX2_dropOldest, Cond.selects RX2 yX2_dropOldest yX2_dropOldest, Cond.code yX2_dropOldest cX2_dropOldest 3 none]
def wsX2_raise : List Cond := .code yX2_raise cX2_raise 2 (some .int) :: ((wsX2_raise_r1 ++ (wsX2_raise_r2 ++ (wsX2_raise_r3 ++ (wsX2_raise_r4 ++ wsX2_raise_r5)))) ++ wsX20 ++ wsX00)
def wsX2_setRepair_r1 : List Cond := [Cond.fieldLink RX2 10 "ReturnPile" "now" "LReturnPile$State;", Cond.fieldLink RX2 41 "ReturnPile$State" "repair" "I", Cond.methodLink RX2 37 yX2_record, Cond.instanceMethod yX2_record, Cond.selects RX2 yX2_record yX2_record, Cond.initialized RX2, Cond.code yX2_record cX2_record 2 none, Cond.fieldLink RX2 56 "ReturnPile" "historyLength" "I", Cond.fieldLink RX2 22 "ReturnPile" "history" "[LReturnPile$State;", Cond.methodLink RX2 126 yX2_dropOldest, Cond.instanceMethod yX2_dropOldest, Cond.selects RX2 yX2_dropOldest yX2_dropOldest, Cond.code yX2_dropOldest cX2_dropOldest 3 none, Cond.methodLink RX2 59 yX0_copyFrom, Cond.instanceMethod yX0_copyFrom, Cond.selects RX0 yX0_copyFrom yX0_copyFrom, Cond.initialized RX0, Cond.code yX0_copyFrom cX0_copyFrom 2 none, Cond.fieldLink RX0 64 "ReturnPile$State" "repair" "I", Cond.fieldLink RX0 39 "ReturnPile$State" "size" "I", Cond.fieldLink RX0 43 "ReturnPile$State" "top" "I", Cond.fieldLink RX0 46 "ReturnPile$State" "height" "I", Cond.fieldLink RX0 49 "ReturnPile$State" "greatestHeight" "I", Cond.fieldLink RX0 52 "ReturnPile$State" "stepCount" "I"]
def wsX2_setRepair_r2 : List Cond := [Cond.fieldLink RX0 55 "ReturnPile$State" "confessionCount" "I", Cond.fieldLink RX0 9 "ReturnPile$State" "stepsOf" "[I", Cond.methodLink RX0 67 arraycopyName, Cond.native arraycopyName, Cond.static arraycopyName, Cond.initialized "java/lang/System", Cond.fieldLink RX0 15 "ReturnPile$State" "outcomes" "[I", Cond.fieldLink RX0 18 "ReturnPile$State" "timesNamed" "[I", Cond.fieldLink RX0 23 "ReturnPile$State" "frames" "[[I", Cond.fieldLink RX0 26 "ReturnPile$State" "slots" "[[I", Cond.fieldLink RX0 29 "ReturnPile$State" "steps" "[[I", Cond.fieldLink RX0 32 "ReturnPile$State" "confessions" "[[I", Cond.methodLink RX0 73 yX0_copyRows, Cond.static yX0_copyRows, Cond.code yX0_copyRows cX0_copyRows 4 none]
def wsX2_setRepair : List Cond := .code yX2_setRepair cX2_setRepair 3 (some .int) :: ((wsX2_setRepair_r1 ++ wsX2_setRepair_r2) ++ wsX20 ++ wsX00)
def wsX2_isSize : List Cond := .code yX2_isSize cX2_isSize 1 (some .boolean) :: ([])
def wsX2_begin_r1 : List Cond := [Cond.fieldLink RX2 10 "ReturnPile" "now" "LReturnPile$State;", Cond.fieldLink RX2 49 "ReturnPile$State" "size" "I", Cond.methodLink RX2 45 yX2_isSize, Cond.static yX2_isSize, Cond.initialized RX2, Cond.code yX2_isSize cX2_isSize 1 (some .boolean), Cond.methodLink RX2 37 yX2_record, Cond.instanceMethod yX2_record, Cond.selects RX2 yX2_record yX2_record, Cond.code yX2_record cX2_record 2 none, Cond.fieldLink RX2 56 "ReturnPile" "historyLength" "I", Cond.fieldLink RX2 22 "ReturnPile" "history" "[LReturnPile$State;", Cond.methodLink RX2 126 yX2_dropOldest, Cond.instanceMethod yX2_dropOldest, Cond.selects RX2 yX2_dropOldest yX2_dropOldest, Cond.code yX2_dropOldest cX2_dropOldest 3 none, Cond.methodLink RX2 59 yX0_copyFrom, Cond.instanceMethod yX0_copyFrom, Cond.selects RX0 yX0_copyFrom yX0_copyFrom, Cond.initialized RX0, Cond.code yX0_copyFrom cX0_copyFrom 2 none, Cond.fieldLink RX0 64 "ReturnPile$State" "repair" "I", Cond.fieldLink RX0 39 "ReturnPile$State" "size" "I", Cond.fieldLink RX0 43 "ReturnPile$State" "top" "I"]
def wsX2_begin_r2 : List Cond := [Cond.fieldLink RX0 46 "ReturnPile$State" "height" "I", Cond.fieldLink RX0 49 "ReturnPile$State" "greatestHeight" "I", Cond.fieldLink RX0 52 "ReturnPile$State" "stepCount" "I", Cond.fieldLink RX0 55 "ReturnPile$State" "confessionCount" "I", Cond.fieldLink RX0 9 "ReturnPile$State" "stepsOf" "[I", Cond.methodLink RX0 67 arraycopyName, Cond.native arraycopyName, Cond.static arraycopyName, Cond.initialized "java/lang/System", Cond.fieldLink RX0 15 "ReturnPile$State" "outcomes" "[I", Cond.fieldLink RX0 18 "ReturnPile$State" "timesNamed" "[I", Cond.fieldLink RX0 23 "ReturnPile$State" "frames" "[[I", Cond.fieldLink RX0 26 "ReturnPile$State" "slots" "[[I", Cond.fieldLink RX0 29 "ReturnPile$State" "steps" "[[I", Cond.fieldLink RX0 32 "ReturnPile$State" "confessions" "[[I", Cond.methodLink RX0 73 yX0_copyRows, Cond.static yX0_copyRows, Cond.code yX0_copyRows cX0_copyRows 4 none, Cond.methodLink RX2 52 yX0_beginAnew, Cond.instanceMethod yX0_beginAnew, Cond.selects RX0 yX0_beginAnew yX0_beginAnew, Cond.code yX0_beginAnew cX0_beginAnew 2 none, Cond.methodLink RX0 58 yJ7_fill_53178, Cond.static yJ7_fill_53178]
def wsX2_begin_r3 : List Cond := [Cond.initialized RJ7, Cond.code yJ7_fill_53178 cJ7_fill_53178 4 none]
def wsX2_begin : List Cond := .code yX2_begin cX2_begin 3 (some .int) :: ((wsX2_begin_r1 ++ (wsX2_begin_r2 ++ wsX2_begin_r3)) ++ wsX20 ++ wsX00)
def wsX2_undo_r1 : List Cond := [Cond.fieldLink RX2 56 "ReturnPile" "historyLength" "I", Cond.fieldLink RX2 10 "ReturnPile" "now" "LReturnPile$State;", Cond.fieldLink RX2 22 "ReturnPile" "history" "[LReturnPile$State;", Cond.methodLink RX2 59 yX0_copyFrom, Cond.instanceMethod yX0_copyFrom, Cond.selects RX0 yX0_copyFrom yX0_copyFrom, Cond.initialized RX0, Cond.code yX0_copyFrom cX0_copyFrom 2 none, Cond.fieldLink RX0 64 "ReturnPile$State" "repair" "I", Cond.fieldLink RX0 39 "ReturnPile$State" "size" "I", Cond.fieldLink RX0 43 "ReturnPile$State" "top" "I", Cond.fieldLink RX0 46 "ReturnPile$State" "height" "I", Cond.fieldLink RX0 49 "ReturnPile$State" "greatestHeight" "I", Cond.fieldLink RX0 52 "ReturnPile$State" "stepCount" "I", Cond.fieldLink RX0 55 "ReturnPile$State" "confessionCount" "I", Cond.fieldLink RX0 9 "ReturnPile$State" "stepsOf" "[I", Cond.methodLink RX0 67 arraycopyName, Cond.native arraycopyName, Cond.static arraycopyName, Cond.initialized "java/lang/System", Cond.fieldLink RX0 15 "ReturnPile$State" "outcomes" "[I", Cond.fieldLink RX0 18 "ReturnPile$State" "timesNamed" "[I", Cond.fieldLink RX0 23 "ReturnPile$State" "frames" "[[I", Cond.fieldLink RX0 26 "ReturnPile$State" "slots" "[[I"]
def wsX2_undo_r2 : List Cond := [Cond.fieldLink RX0 29 "ReturnPile$State" "steps" "[[I", Cond.fieldLink RX0 32 "ReturnPile$State" "confessions" "[[I", Cond.methodLink RX0 73 yX0_copyRows, Cond.static yX0_copyRows, Cond.code yX0_copyRows cX0_copyRows 4 none]
def wsX2_undo : List Cond := .code yX2_undo cX2_undo 1 (some .int) :: ((wsX2_undo_r1 ++ wsX2_undo_r2) ++ wsX20 ++ wsX00)
def wsX2_append : List Cond := .code yX2_append cX2_append 2 (some .int) :: ([.fieldLink RX2 29 "ReturnPile" "text" "LReturnPile$Text;", .fieldLink RX2 62 "ReturnPile$Text" "length" "I", .methodLink RX2 65 yX1_add, .instanceMethod yX1_add, .selects RX1 yX1_add yX1_add, .initialized RX1, .code yX1_add cX1_add 2 none, .fieldLink RX1 9 "ReturnPile$Text" "characters" "[I", .fieldLink RX1 15 "ReturnPile$Text" "length" "I"] ++ wsX20 ++ wsX10)
def wsX2_clearText : List Cond := .code yX2_clearText cX2_clearText 2 (some .int) :: ([.fieldLink RX2 29 "ReturnPile" "text" "LReturnPile$Text;", .fieldLink RX2 62 "ReturnPile$Text" "length" "I"] ++ wsX20 ++ wsX10)
def wsX2_kindOf : List Cond := .code yX2_kindOf cX2_kindOf 1 (some .int) :: ([])
def wsX2_takeStepOfText_r1 : List Cond := [Cond.fieldLink RX2 29 "ReturnPile" "text" "LReturnPile$Text;", Cond.fieldLink RX2 72 "ReturnPile$Text" "place" "I", Cond.fieldLink RX2 10 "ReturnPile" "now" "LReturnPile$State;", Cond.methodLink RX2 145 yX1_sign, Cond.instanceMethod yX1_sign, Cond.selects RX1 yX1_sign yX1_sign, Cond.initialized RX1, Cond.code yX1_sign cX1_sign 1 (some .int), Cond.fieldLink RX1 19 "ReturnPile$Text" "place" "I", Cond.fieldLink RX1 15 "ReturnPile$Text" "length" "I", Cond.fieldLink RX1 9 "ReturnPile$Text" "characters" "[I", Cond.methodLink RX2 148 yX2_kindOf, Cond.static yX2_kindOf, Cond.initialized RX2, Cond.code yX2_kindOf cX2_kindOf 1 (some .int), Cond.methodLink RX2 151 yX1_readNumber, Cond.instanceMethod yX1_readNumber, Cond.selects RX1 yX1_readNumber yX1_readNumber, Cond.code yX1_readNumber cX1_readNumber 5 (some .int), Cond.methodLink RX1 22 yX1_skipSpaces, Cond.instanceMethod yX1_skipSpaces, Cond.selects RX1 yX1_skipSpaces yX1_skipSpaces, Cond.code yX1_skipSpaces cX1_skipSpaces 1 none, Cond.methodLink RX1 29 yX1_isDigit]
def wsX2_takeStepOfText_r2 : List Cond := [Cond.static yX1_isDigit, Cond.code yX1_isDigit cX1_isDigit 1 (some .boolean), Cond.methodLink RX2 154 yX1_readSign, Cond.instanceMethod yX1_readSign, Cond.selects RX1 yX1_readSign yX1_readSign, Cond.code yX1_readSign cX1_readSign 2 (some .boolean), Cond.methodLink RX1 25 yX1_sign, Cond.methodLink RX2 123 yX0_take, Cond.instanceMethod yX0_take, Cond.selects RX0 yX0_take yX0_take, Cond.initialized RX0, Cond.code yX0_take cX0_take 6 (some .int), Cond.methodLink RX0 77 yX0_errorOf, Cond.instanceMethod yX0_errorOf, Cond.selects RX0 yX0_errorOf yX0_errorOf, Cond.code yX0_errorOf cX0_errorOf 4 (some .int), Cond.fieldLink RX0 46 "ReturnPile$State" "height" "I", Cond.fieldLink RX0 52 "ReturnPile$State" "stepCount" "I", Cond.methodLink RX0 100 yX0_isNumberFor, Cond.static yX0_isNumberFor, Cond.code yX0_isNumberFor cX0_isNumberFor 2 (some .boolean), Cond.methodLink RX0 104 yX0_framesNeeded, Cond.static yX0_framesNeeded, Cond.code yX0_framesNeeded cX0_framesNeeded 2 (some .int)]
def wsX2_takeStepOfText_r3 : List Cond := [Cond.methodLink RX0 81 yX0_addFrame, Cond.instanceMethod yX0_addFrame, Cond.selects RX0 yX0_addFrame yX0_addFrame, Cond.code yX0_addFrame cX0_addFrame 4 (some .int), Cond.fieldLink RX0 9 "ReturnPile$State" "stepsOf" "[I", Cond.fieldLink RX0 43 "ReturnPile$State" "top" "I", Cond.fieldLink RX0 39 "ReturnPile$State" "size" "I", Cond.fieldLink RX0 26 "ReturnPile$State" "slots" "[[I", Cond.fieldLink RX0 23 "ReturnPile$State" "frames" "[[I", Cond.fieldLink RX0 49 "ReturnPile$State" "greatestHeight" "I", Cond.methodLink RX0 110 Lib.Math.max.name, Cond.static Lib.Math.max.name, Cond.initialized "java/lang/Math", Cond.code Lib.Math.max.name Lib.Math.max.code 2 (some .int), Cond.methodLink RX0 107 yX0_overrunFramesOfTop, Cond.instanceMethod yX0_overrunFramesOfTop, Cond.selects RX0 yX0_overrunFramesOfTop yX0_overrunFramesOfTop, Cond.code yX0_overrunFramesOfTop cX0_overrunFramesOfTop 3 none, Cond.methodLink RX0 115 yX0_isOverrun, Cond.instanceMethod yX0_isOverrun, Cond.selects RX0 yX0_isOverrun yX0_isOverrun, Cond.code yX0_isOverrun cX0_isOverrun 2 (some .boolean), Cond.methodLink RX0 85 yX0_replaceFunction, Cond.instanceMethod yX0_replaceFunction]
def wsX2_takeStepOfText_r4 : List Cond := [Cond.selects RX0 yX0_replaceFunction yX0_replaceFunction, Cond.code yX0_replaceFunction cX0_replaceFunction 3 (some .int), Cond.methodLink RX0 89 yX0_removeFrame, Cond.instanceMethod yX0_removeFrame, Cond.selects RX0 yX0_removeFrame yX0_removeFrame, Cond.code yX0_removeFrame cX0_removeFrame 2 (some .int), Cond.fieldLink RX0 15 "ReturnPile$State" "outcomes" "[I", Cond.methodLink RX0 119 yX0_outcomeOf, Cond.instanceMethod yX0_outcomeOf, Cond.selects RX0 yX0_outcomeOf yX0_outcomeOf, Cond.code yX0_outcomeOf cX0_outcomeOf 3 (some .int), Cond.methodLink RX0 122 yX0_confess, Cond.instanceMethod yX0_confess, Cond.selects RX0 yX0_confess yX0_confess, Cond.code yX0_confess cX0_confess 6 none, Cond.fieldLink RX0 32 "ReturnPile$State" "confessions" "[[I", Cond.methodLink RX0 67 arraycopyName, Cond.native arraycopyName, Cond.static arraycopyName, Cond.initialized "java/lang/System", Cond.fieldLink RX0 55 "ReturnPile$State" "confessionCount" "I", Cond.methodLink RX0 128 Lib.Math.min.name, Cond.static Lib.Math.min.name, Cond.code Lib.Math.min.name Lib.Math.min.code 2 (some .int)]
def wsX2_takeStepOfText_r5 : List Cond := [Cond.fieldLink RX0 18 "ReturnPile$State" "timesNamed" "[I", Cond.methodLink RX0 125 yX0_slotBefore, Cond.instanceMethod yX0_slotBefore, Cond.selects RX0 yX0_slotBefore yX0_slotBefore, Cond.code yX0_slotBefore cX0_slotBefore 2 (some .int), Cond.methodLink RX0 93 yX0_removeFrames, Cond.instanceMethod yX0_removeFrames, Cond.selects RX0 yX0_removeFrames yX0_removeFrames, Cond.code yX0_removeFrames cX0_removeFrames 3 (some .int), Cond.fieldLink RX0 64 "ReturnPile$State" "repair" "I", Cond.methodLink RX0 96 yX0_remember, Cond.instanceMethod yX0_remember, Cond.selects RX0 yX0_remember yX0_remember, Cond.code yX0_remember cX0_remember 4 none, Cond.fieldLink RX0 29 "ReturnPile$State" "steps" "[[I"]
def wsX2_takeStepOfText : List Cond := .code yX2_takeStepOfText cX2_takeStepOfText 5 (some .boolean) :: ((wsX2_takeStepOfText_r1 ++ (wsX2_takeStepOfText_r2 ++ (wsX2_takeStepOfText_r3 ++ (wsX2_takeStepOfText_r4 ++ wsX2_takeStepOfText_r5)))) ++ wsX20 ++ wsX10 ++ wsX00)
def wsX2_takeStepsOfText_r1 : List Cond := [Cond.fieldLink RX2 29 "ReturnPile" "text" "LReturnPile$Text;", Cond.fieldLink RX2 72 "ReturnPile$Text" "place" "I", Cond.methodLink RX2 135 yX1_skipSpaces, Cond.instanceMethod yX1_skipSpaces, Cond.selects RX1 yX1_skipSpaces yX1_skipSpaces, Cond.initialized RX1, Cond.code yX1_skipSpaces cX1_skipSpaces 1 none, Cond.fieldLink RX1 19 "ReturnPile$Text" "place" "I", Cond.fieldLink RX1 15 "ReturnPile$Text" "length" "I", Cond.fieldLink RX1 9 "ReturnPile$Text" "characters" "[I", Cond.methodLink RX2 138 yX1_isAtEnd, Cond.instanceMethod yX1_isAtEnd, Cond.selects RX1 yX1_isAtEnd yX1_isAtEnd, Cond.code yX1_isAtEnd cX1_isAtEnd 1 (some .boolean), Cond.methodLink RX2 142 yX2_takeStepOfText, Cond.instanceMethod yX2_takeStepOfText, Cond.selects RX2 yX2_takeStepOfText yX2_takeStepOfText, Cond.initialized RX2, Cond.code yX2_takeStepOfText cX2_takeStepOfText 5 (some .boolean), Cond.fieldLink RX2 10 "ReturnPile" "now" "LReturnPile$State;", Cond.methodLink RX2 145 yX1_sign, Cond.instanceMethod yX1_sign, Cond.selects RX1 yX1_sign yX1_sign, Cond.code yX1_sign cX1_sign 1 (some .int)]
def wsX2_takeStepsOfText_r2 : List Cond := [Cond.methodLink RX2 148 yX2_kindOf, Cond.static yX2_kindOf, Cond.code yX2_kindOf cX2_kindOf 1 (some .int), Cond.methodLink RX2 151 yX1_readNumber, Cond.instanceMethod yX1_readNumber, Cond.selects RX1 yX1_readNumber yX1_readNumber, Cond.code yX1_readNumber cX1_readNumber 5 (some .int), Cond.methodLink RX1 22 yX1_skipSpaces, Cond.methodLink RX1 29 yX1_isDigit, Cond.static yX1_isDigit, Cond.code yX1_isDigit cX1_isDigit 1 (some .boolean), Cond.methodLink RX2 154 yX1_readSign, Cond.instanceMethod yX1_readSign, Cond.selects RX1 yX1_readSign yX1_readSign, Cond.code yX1_readSign cX1_readSign 2 (some .boolean), Cond.methodLink RX1 25 yX1_sign, Cond.methodLink RX2 123 yX0_take, Cond.instanceMethod yX0_take, Cond.selects RX0 yX0_take yX0_take, Cond.initialized RX0, Cond.code yX0_take cX0_take 6 (some .int), Cond.methodLink RX0 77 yX0_errorOf, Cond.instanceMethod yX0_errorOf, Cond.selects RX0 yX0_errorOf yX0_errorOf]
def wsX2_takeStepsOfText_r3 : List Cond := [Cond.code yX0_errorOf cX0_errorOf 4 (some .int), Cond.fieldLink RX0 46 "ReturnPile$State" "height" "I", Cond.fieldLink RX0 52 "ReturnPile$State" "stepCount" "I", Cond.methodLink RX0 100 yX0_isNumberFor, Cond.static yX0_isNumberFor, Cond.code yX0_isNumberFor cX0_isNumberFor 2 (some .boolean), Cond.methodLink RX0 104 yX0_framesNeeded, Cond.static yX0_framesNeeded, Cond.code yX0_framesNeeded cX0_framesNeeded 2 (some .int), Cond.methodLink RX0 81 yX0_addFrame, Cond.instanceMethod yX0_addFrame, Cond.selects RX0 yX0_addFrame yX0_addFrame, Cond.code yX0_addFrame cX0_addFrame 4 (some .int), Cond.fieldLink RX0 9 "ReturnPile$State" "stepsOf" "[I", Cond.fieldLink RX0 43 "ReturnPile$State" "top" "I", Cond.fieldLink RX0 39 "ReturnPile$State" "size" "I", Cond.fieldLink RX0 26 "ReturnPile$State" "slots" "[[I", Cond.fieldLink RX0 23 "ReturnPile$State" "frames" "[[I", Cond.fieldLink RX0 49 "ReturnPile$State" "greatestHeight" "I", Cond.methodLink RX0 110 Lib.Math.max.name, Cond.static Lib.Math.max.name, Cond.initialized "java/lang/Math", Cond.code Lib.Math.max.name Lib.Math.max.code 2 (some .int), Cond.methodLink RX0 107 yX0_overrunFramesOfTop]
def wsX2_takeStepsOfText_r4 : List Cond := [Cond.instanceMethod yX0_overrunFramesOfTop, Cond.selects RX0 yX0_overrunFramesOfTop yX0_overrunFramesOfTop, Cond.code yX0_overrunFramesOfTop cX0_overrunFramesOfTop 3 none, Cond.methodLink RX0 115 yX0_isOverrun, Cond.instanceMethod yX0_isOverrun, Cond.selects RX0 yX0_isOverrun yX0_isOverrun, Cond.code yX0_isOverrun cX0_isOverrun 2 (some .boolean), Cond.methodLink RX0 85 yX0_replaceFunction, Cond.instanceMethod yX0_replaceFunction, Cond.selects RX0 yX0_replaceFunction yX0_replaceFunction, Cond.code yX0_replaceFunction cX0_replaceFunction 3 (some .int), Cond.methodLink RX0 89 yX0_removeFrame, Cond.instanceMethod yX0_removeFrame, Cond.selects RX0 yX0_removeFrame yX0_removeFrame, Cond.code yX0_removeFrame cX0_removeFrame 2 (some .int), Cond.fieldLink RX0 15 "ReturnPile$State" "outcomes" "[I", Cond.methodLink RX0 119 yX0_outcomeOf, Cond.instanceMethod yX0_outcomeOf, Cond.selects RX0 yX0_outcomeOf yX0_outcomeOf, Cond.code yX0_outcomeOf cX0_outcomeOf 3 (some .int), Cond.methodLink RX0 122 yX0_confess, Cond.instanceMethod yX0_confess, Cond.selects RX0 yX0_confess yX0_confess, Cond.code yX0_confess cX0_confess 6 none]
def wsX2_takeStepsOfText_r5 : List Cond := [Cond.fieldLink RX0 32 "ReturnPile$State" "confessions" "[[I", Cond.methodLink RX0 67 arraycopyName, Cond.native arraycopyName, Cond.static arraycopyName, Cond.initialized "java/lang/System", Cond.fieldLink RX0 55 "ReturnPile$State" "confessionCount" "I", Cond.methodLink RX0 128 Lib.Math.min.name, Cond.static Lib.Math.min.name, Cond.code Lib.Math.min.name Lib.Math.min.code 2 (some .int), Cond.fieldLink RX0 18 "ReturnPile$State" "timesNamed" "[I", Cond.methodLink RX0 125 yX0_slotBefore, Cond.instanceMethod yX0_slotBefore, Cond.selects RX0 yX0_slotBefore yX0_slotBefore, Cond.code yX0_slotBefore cX0_slotBefore 2 (some .int), Cond.methodLink RX0 93 yX0_removeFrames, Cond.instanceMethod yX0_removeFrames, Cond.selects RX0 yX0_removeFrames yX0_removeFrames, Cond.code yX0_removeFrames cX0_removeFrames 3 (some .int), Cond.fieldLink RX0 64 "ReturnPile$State" "repair" "I", Cond.methodLink RX0 96 yX0_remember, Cond.instanceMethod yX0_remember, Cond.selects RX0 yX0_remember yX0_remember, Cond.code yX0_remember cX0_remember 4 none, Cond.fieldLink RX0 29 "ReturnPile$State" "steps" "[[I"]
def wsX2_takeStepsOfText : List Cond := .code yX2_takeStepsOfText cX2_takeStepsOfText 2 (some .int) :: ((wsX2_takeStepsOfText_r1 ++ (wsX2_takeStepsOfText_r2 ++ (wsX2_takeStepsOfText_r3 ++ (wsX2_takeStepsOfText_r4 ++ wsX2_takeStepsOfText_r5)))) ++ wsX20 ++ wsX10 ++ wsX00)
def wsX2_run_r1 : List Cond := [Cond.fieldLink RX2 16 "ReturnPile" "before" "LReturnPile$State;", Cond.fieldLink RX2 10 "ReturnPile" "now" "LReturnPile$State;", Cond.fieldLink RX2 29 "ReturnPile" "text" "LReturnPile$Text;", Cond.fieldLink RX2 72 "ReturnPile$Text" "place" "I", Cond.fieldLink RX2 62 "ReturnPile$Text" "length" "I", Cond.methodLink RX2 59 yX0_copyFrom, Cond.instanceMethod yX0_copyFrom, Cond.selects RX0 yX0_copyFrom yX0_copyFrom, Cond.initialized RX0, Cond.code yX0_copyFrom cX0_copyFrom 2 none, Cond.fieldLink RX0 64 "ReturnPile$State" "repair" "I", Cond.fieldLink RX0 39 "ReturnPile$State" "size" "I", Cond.fieldLink RX0 43 "ReturnPile$State" "top" "I", Cond.fieldLink RX0 46 "ReturnPile$State" "height" "I", Cond.fieldLink RX0 49 "ReturnPile$State" "greatestHeight" "I", Cond.fieldLink RX0 52 "ReturnPile$State" "stepCount" "I", Cond.fieldLink RX0 55 "ReturnPile$State" "confessionCount" "I", Cond.fieldLink RX0 9 "ReturnPile$State" "stepsOf" "[I", Cond.methodLink RX0 67 arraycopyName, Cond.native arraycopyName, Cond.static arraycopyName, Cond.initialized "java/lang/System", Cond.fieldLink RX0 15 "ReturnPile$State" "outcomes" "[I", Cond.fieldLink RX0 18 "ReturnPile$State" "timesNamed" "[I"]
def wsX2_run_r2 : List Cond := [Cond.fieldLink RX0 23 "ReturnPile$State" "frames" "[[I", Cond.fieldLink RX0 26 "ReturnPile$State" "slots" "[[I", Cond.fieldLink RX0 29 "ReturnPile$State" "steps" "[[I", Cond.fieldLink RX0 32 "ReturnPile$State" "confessions" "[[I", Cond.methodLink RX0 73 yX0_copyRows, Cond.static yX0_copyRows, Cond.code yX0_copyRows cX0_copyRows 4 none, Cond.methodLink RX2 68 yX2_takeStepsOfText, Cond.instanceMethod yX2_takeStepsOfText, Cond.selects RX2 yX2_takeStepsOfText yX2_takeStepsOfText, Cond.initialized RX2, Cond.code yX2_takeStepsOfText cX2_takeStepsOfText 2 (some .int), Cond.methodLink RX2 135 yX1_skipSpaces, Cond.instanceMethod yX1_skipSpaces, Cond.selects RX1 yX1_skipSpaces yX1_skipSpaces, Cond.initialized RX1, Cond.code yX1_skipSpaces cX1_skipSpaces 1 none, Cond.fieldLink RX1 19 "ReturnPile$Text" "place" "I", Cond.fieldLink RX1 15 "ReturnPile$Text" "length" "I", Cond.fieldLink RX1 9 "ReturnPile$Text" "characters" "[I", Cond.methodLink RX2 138 yX1_isAtEnd, Cond.instanceMethod yX1_isAtEnd, Cond.selects RX1 yX1_isAtEnd yX1_isAtEnd, Cond.code yX1_isAtEnd cX1_isAtEnd 1 (some .boolean)]
def wsX2_run_r3 : List Cond := [Cond.methodLink RX2 142 yX2_takeStepOfText, Cond.instanceMethod yX2_takeStepOfText, Cond.selects RX2 yX2_takeStepOfText yX2_takeStepOfText, Cond.code yX2_takeStepOfText cX2_takeStepOfText 5 (some .boolean), Cond.methodLink RX2 145 yX1_sign, Cond.instanceMethod yX1_sign, Cond.selects RX1 yX1_sign yX1_sign, Cond.code yX1_sign cX1_sign 1 (some .int), Cond.methodLink RX2 148 yX2_kindOf, Cond.static yX2_kindOf, Cond.code yX2_kindOf cX2_kindOf 1 (some .int), Cond.methodLink RX2 151 yX1_readNumber, Cond.instanceMethod yX1_readNumber, Cond.selects RX1 yX1_readNumber yX1_readNumber, Cond.code yX1_readNumber cX1_readNumber 5 (some .int), Cond.methodLink RX1 22 yX1_skipSpaces, Cond.methodLink RX1 29 yX1_isDigit, Cond.static yX1_isDigit, Cond.code yX1_isDigit cX1_isDigit 1 (some .boolean), Cond.methodLink RX2 154 yX1_readSign, Cond.instanceMethod yX1_readSign, Cond.selects RX1 yX1_readSign yX1_readSign, Cond.code yX1_readSign cX1_readSign 2 (some .boolean), Cond.methodLink RX1 25 yX1_sign]
def wsX2_run_r4 : List Cond := [Cond.methodLink RX2 123 yX0_take, Cond.instanceMethod yX0_take, Cond.selects RX0 yX0_take yX0_take, Cond.code yX0_take cX0_take 6 (some .int), Cond.methodLink RX0 77 yX0_errorOf, Cond.instanceMethod yX0_errorOf, Cond.selects RX0 yX0_errorOf yX0_errorOf, Cond.code yX0_errorOf cX0_errorOf 4 (some .int), Cond.methodLink RX0 100 yX0_isNumberFor, Cond.static yX0_isNumberFor, Cond.code yX0_isNumberFor cX0_isNumberFor 2 (some .boolean), Cond.methodLink RX0 104 yX0_framesNeeded, Cond.static yX0_framesNeeded, Cond.code yX0_framesNeeded cX0_framesNeeded 2 (some .int), Cond.methodLink RX0 81 yX0_addFrame, Cond.instanceMethod yX0_addFrame, Cond.selects RX0 yX0_addFrame yX0_addFrame, Cond.code yX0_addFrame cX0_addFrame 4 (some .int), Cond.methodLink RX0 110 Lib.Math.max.name, Cond.static Lib.Math.max.name, Cond.initialized "java/lang/Math", Cond.code Lib.Math.max.name Lib.Math.max.code 2 (some .int), Cond.methodLink RX0 107 yX0_overrunFramesOfTop, Cond.instanceMethod yX0_overrunFramesOfTop]
def wsX2_run_r5 : List Cond := [Cond.selects RX0 yX0_overrunFramesOfTop yX0_overrunFramesOfTop, Cond.code yX0_overrunFramesOfTop cX0_overrunFramesOfTop 3 none, Cond.methodLink RX0 115 yX0_isOverrun, Cond.instanceMethod yX0_isOverrun, Cond.selects RX0 yX0_isOverrun yX0_isOverrun, Cond.code yX0_isOverrun cX0_isOverrun 2 (some .boolean), Cond.methodLink RX0 85 yX0_replaceFunction, Cond.instanceMethod yX0_replaceFunction, Cond.selects RX0 yX0_replaceFunction yX0_replaceFunction, Cond.code yX0_replaceFunction cX0_replaceFunction 3 (some .int), Cond.methodLink RX0 89 yX0_removeFrame, Cond.instanceMethod yX0_removeFrame, Cond.selects RX0 yX0_removeFrame yX0_removeFrame, Cond.code yX0_removeFrame cX0_removeFrame 2 (some .int), Cond.methodLink RX0 119 yX0_outcomeOf, Cond.instanceMethod yX0_outcomeOf, Cond.selects RX0 yX0_outcomeOf yX0_outcomeOf, Cond.code yX0_outcomeOf cX0_outcomeOf 3 (some .int), Cond.methodLink RX0 122 yX0_confess, Cond.instanceMethod yX0_confess, Cond.selects RX0 yX0_confess yX0_confess, Cond.code yX0_confess cX0_confess 6 none, Cond.methodLink RX0 128 Lib.Math.min.name, Cond.static Lib.Math.min.name]
def wsX2_run_r6 : List Cond := [Cond.code Lib.Math.min.name Lib.Math.min.code 2 (some .int), Cond.methodLink RX0 125 yX0_slotBefore, Cond.instanceMethod yX0_slotBefore, Cond.selects RX0 yX0_slotBefore yX0_slotBefore, Cond.code yX0_slotBefore cX0_slotBefore 2 (some .int), Cond.methodLink RX0 93 yX0_removeFrames, Cond.instanceMethod yX0_removeFrames, Cond.selects RX0 yX0_removeFrames yX0_removeFrames, Cond.code yX0_removeFrames cX0_removeFrames 3 (some .int), Cond.methodLink RX0 96 yX0_remember, Cond.instanceMethod yX0_remember, Cond.selects RX0 yX0_remember yX0_remember, Cond.code yX0_remember cX0_remember 4 none, Cond.methodLink RX2 37 yX2_record, Cond.instanceMethod yX2_record, Cond.selects RX2 yX2_record yX2_record, Cond.code yX2_record cX2_record 2 none, Cond.fieldLink RX2 56 "ReturnPile" "historyLength" "I", Cond.fieldLink RX2 22 "ReturnPile" "history" "[LReturnPile$State;", Cond.methodLink RX2 126 yX2_dropOldest, Cond.instanceMethod yX2_dropOldest, Cond.selects RX2 yX2_dropOldest yX2_dropOldest, Cond.code yX2_dropOldest cX2_dropOldest 3 none]
def wsX2_run : List Cond := .code yX2_run cX2_run 2 (some .int) :: ((wsX2_run_r1 ++ (wsX2_run_r2 ++ (wsX2_run_r3 ++ (wsX2_run_r4 ++ (wsX2_run_r5 ++ wsX2_run_r6))))) ++ wsX20 ++ wsX10 ++ wsX00)
def wsX2_count : List Cond := .code yX2_count cX2_count 2 (some .int) :: ([.fieldLink RX2 10 "ReturnPile" "now" "LReturnPile$State;", .fieldLink RX2 75 "ReturnPile$State" "height" "I", .fieldLink RX2 78 "ReturnPile$State" "stepCount" "I", .fieldLink RX2 81 "ReturnPile$State" "stepsOf" "[I", .fieldLink RX2 85 "ReturnPile$State" "outcomes" "[I", .fieldLink RX2 88 "ReturnPile$State" "confessionCount" "I", .fieldLink RX2 49 "ReturnPile$State" "size" "I", .fieldLink RX2 91 "ReturnPile$State" "top" "I", .fieldLink RX2 94 "ReturnPile$State" "greatestHeight" "I", .fieldLink RX2 41 "ReturnPile$State" "repair" "I", .fieldLink RX2 56 "ReturnPile" "historyLength" "I", .fieldLink RX2 29 "ReturnPile" "text" "LReturnPile$Text;", .fieldLink RX2 62 "ReturnPile$Text" "length" "I", .methodLink RX2 97 yX0_overrunFrames, .instanceMethod yX0_overrunFrames, .selects RX0 yX0_overrunFrames yX0_overrunFrames, .initialized RX0, .code yX0_overrunFrames cX0_overrunFrames 3 (some .int), .fieldLink RX0 46 "ReturnPile$State" "height" "I", .methodLink RX0 115 yX0_isOverrun, .instanceMethod yX0_isOverrun, .selects RX0 yX0_isOverrun yX0_isOverrun, .code yX0_isOverrun cX0_isOverrun 2 (some .boolean), .fieldLink RX0 23 "ReturnPile$State" "frames" "[[I"] ++ wsX20 ++ wsX00 ++ wsX10)
def wsX2_frame : List Cond := .code yX2_frame cX2_frame 3 (some .int) :: ([.fieldLink RX2 10 "ReturnPile" "now" "LReturnPile$State;", .fieldLink RX2 75 "ReturnPile$State" "height" "I", .fieldLink RX2 100 "ReturnPile$State" "frames" "[[I"] ++ wsX20 ++ wsX00)
def wsX2_slot : List Cond := .code yX2_slot cX2_slot 3 (some .int) :: ([.fieldLink RX2 10 "ReturnPile" "now" "LReturnPile$State;", .fieldLink RX2 49 "ReturnPile$State" "size" "I", .fieldLink RX2 104 "ReturnPile$State" "slots" "[[I"] ++ wsX20 ++ wsX00)
def wsX2_confession : List Cond := .code yX2_confession cX2_confession 3 (some .int) :: ([.fieldLink RX2 10 "ReturnPile" "now" "LReturnPile$State;", .fieldLink RX2 88 "ReturnPile$State" "confessionCount" "I", .fieldLink RX2 107 "ReturnPile$State" "confessions" "[[I"] ++ wsX20 ++ wsX00)
def wsX2_named : List Cond := .code yX2_named cX2_named 2 (some .int) :: ([.fieldLink RX2 10 "ReturnPile" "now" "LReturnPile$State;", .fieldLink RX2 81 "ReturnPile$State" "stepsOf" "[I", .fieldLink RX2 110 "ReturnPile$State" "timesNamed" "[I"] ++ wsX20 ++ wsX00)
def wsX2_worst : List Cond := .code yX2_worst cX2_worst 4 (some .int) :: ([.fieldLink RX2 10 "ReturnPile" "now" "LReturnPile$State;", .fieldLink RX2 81 "ReturnPile$State" "stepsOf" "[I", .fieldLink RX2 110 "ReturnPile$State" "timesNamed" "[I"] ++ wsX20 ++ wsX00)
def wsX2_ahead : List Cond := .code yX2_ahead cX2_ahead 4 (some .int) :: ([.fieldLink RX2 10 "ReturnPile" "now" "LReturnPile$State;", .fieldLink RX2 75 "ReturnPile$State" "height" "I", .methodLink RX2 113 yX0_hitsAhead, .instanceMethod yX0_hitsAhead, .selects RX0 yX0_hitsAhead yX0_hitsAhead, .initialized RX0, .code yX0_hitsAhead cX0_hitsAhead 6 (some .int), .fieldLink RX0 43 "ReturnPile$State" "top" "I", .fieldLink RX0 46 "ReturnPile$State" "height" "I", .methodLink RX0 119 yX0_outcomeOf, .instanceMethod yX0_outcomeOf, .selects RX0 yX0_outcomeOf yX0_outcomeOf, .code yX0_outcomeOf cX0_outcomeOf 3 (some .int), .fieldLink RX0 26 "ReturnPile$State" "slots" "[[I", .fieldLink RX0 23 "ReturnPile$State" "frames" "[[I", .methodLink RX0 115 yX0_isOverrun, .instanceMethod yX0_isOverrun, .selects RX0 yX0_isOverrun yX0_isOverrun, .code yX0_isOverrun cX0_isOverrun 2 (some .boolean), .methodLink RX0 125 yX0_slotBefore, .instanceMethod yX0_slotBefore, .selects RX0 yX0_slotBefore yX0_slotBefore, .code yX0_slotBefore cX0_slotBefore 2 (some .int), .fieldLink RX0 39 "ReturnPile$State" "size" "I"] ++ wsX20 ++ wsX00)
def wsX2_missesInTrial_r1 : List Cond := [Cond.fieldLink RX2 19 "ReturnPile" "trial" "LReturnPile$State;", Cond.fieldLink RX2 10 "ReturnPile" "now" "LReturnPile$State;", Cond.fieldLink RX2 41 "ReturnPile$State" "repair" "I", Cond.fieldLink RX2 78 "ReturnPile$State" "stepCount" "I", Cond.fieldLink RX2 129 "ReturnPile$State" "steps" "[[I", Cond.methodLink RX2 52 yX0_beginAnew, Cond.instanceMethod yX0_beginAnew, Cond.selects RX0 yX0_beginAnew yX0_beginAnew, Cond.initialized RX0, Cond.code yX0_beginAnew cX0_beginAnew 2 none, Cond.fieldLink RX0 39 "ReturnPile$State" "size" "I", Cond.fieldLink RX0 43 "ReturnPile$State" "top" "I", Cond.fieldLink RX0 46 "ReturnPile$State" "height" "I", Cond.fieldLink RX0 49 "ReturnPile$State" "greatestHeight" "I", Cond.fieldLink RX0 52 "ReturnPile$State" "stepCount" "I", Cond.fieldLink RX0 55 "ReturnPile$State" "confessionCount" "I", Cond.fieldLink RX0 9 "ReturnPile$State" "stepsOf" "[I", Cond.fieldLink RX0 15 "ReturnPile$State" "outcomes" "[I", Cond.fieldLink RX0 18 "ReturnPile$State" "timesNamed" "[I", Cond.fieldLink RX0 26 "ReturnPile$State" "slots" "[[I", Cond.methodLink RX0 58 yJ7_fill_53178, Cond.static yJ7_fill_53178, Cond.initialized RJ7, Cond.code yJ7_fill_53178 cJ7_fill_53178 4 none]
def wsX2_missesInTrial_r2 : List Cond := [Cond.methodLink RX2 123 yX0_take, Cond.instanceMethod yX0_take, Cond.selects RX0 yX0_take yX0_take, Cond.code yX0_take cX0_take 6 (some .int), Cond.methodLink RX0 77 yX0_errorOf, Cond.instanceMethod yX0_errorOf, Cond.selects RX0 yX0_errorOf yX0_errorOf, Cond.code yX0_errorOf cX0_errorOf 4 (some .int), Cond.methodLink RX0 100 yX0_isNumberFor, Cond.static yX0_isNumberFor, Cond.code yX0_isNumberFor cX0_isNumberFor 2 (some .boolean), Cond.methodLink RX0 104 yX0_framesNeeded, Cond.static yX0_framesNeeded, Cond.code yX0_framesNeeded cX0_framesNeeded 2 (some .int), Cond.methodLink RX0 81 yX0_addFrame, Cond.instanceMethod yX0_addFrame, Cond.selects RX0 yX0_addFrame yX0_addFrame, Cond.code yX0_addFrame cX0_addFrame 4 (some .int), Cond.fieldLink RX0 23 "ReturnPile$State" "frames" "[[I", Cond.methodLink RX0 110 Lib.Math.max.name, Cond.static Lib.Math.max.name, Cond.initialized "java/lang/Math", Cond.code Lib.Math.max.name Lib.Math.max.code 2 (some .int), Cond.methodLink RX0 107 yX0_overrunFramesOfTop]
def wsX2_missesInTrial_r3 : List Cond := [Cond.instanceMethod yX0_overrunFramesOfTop, Cond.selects RX0 yX0_overrunFramesOfTop yX0_overrunFramesOfTop, Cond.code yX0_overrunFramesOfTop cX0_overrunFramesOfTop 3 none, Cond.methodLink RX0 115 yX0_isOverrun, Cond.instanceMethod yX0_isOverrun, Cond.selects RX0 yX0_isOverrun yX0_isOverrun, Cond.code yX0_isOverrun cX0_isOverrun 2 (some .boolean), Cond.methodLink RX0 85 yX0_replaceFunction, Cond.instanceMethod yX0_replaceFunction, Cond.selects RX0 yX0_replaceFunction yX0_replaceFunction, Cond.code yX0_replaceFunction cX0_replaceFunction 3 (some .int), Cond.methodLink RX0 89 yX0_removeFrame, Cond.instanceMethod yX0_removeFrame, Cond.selects RX0 yX0_removeFrame yX0_removeFrame, Cond.code yX0_removeFrame cX0_removeFrame 2 (some .int), Cond.methodLink RX0 119 yX0_outcomeOf, Cond.instanceMethod yX0_outcomeOf, Cond.selects RX0 yX0_outcomeOf yX0_outcomeOf, Cond.code yX0_outcomeOf cX0_outcomeOf 3 (some .int), Cond.methodLink RX0 122 yX0_confess, Cond.instanceMethod yX0_confess, Cond.selects RX0 yX0_confess yX0_confess, Cond.code yX0_confess cX0_confess 6 none, Cond.fieldLink RX0 32 "ReturnPile$State" "confessions" "[[I"]
def wsX2_missesInTrial_r4 : List Cond := [Cond.methodLink RX0 67 arraycopyName, Cond.native arraycopyName, Cond.static arraycopyName, Cond.initialized "java/lang/System", Cond.methodLink RX0 128 Lib.Math.min.name, Cond.static Lib.Math.min.name, Cond.code Lib.Math.min.name Lib.Math.min.code 2 (some .int), Cond.methodLink RX0 125 yX0_slotBefore, Cond.instanceMethod yX0_slotBefore, Cond.selects RX0 yX0_slotBefore yX0_slotBefore, Cond.code yX0_slotBefore cX0_slotBefore 2 (some .int), Cond.methodLink RX0 93 yX0_removeFrames, Cond.instanceMethod yX0_removeFrames, Cond.selects RX0 yX0_removeFrames yX0_removeFrames, Cond.code yX0_removeFrames cX0_removeFrames 3 (some .int), Cond.fieldLink RX0 64 "ReturnPile$State" "repair" "I", Cond.methodLink RX0 96 yX0_remember, Cond.instanceMethod yX0_remember, Cond.selects RX0 yX0_remember yX0_remember, Cond.code yX0_remember cX0_remember 4 none, Cond.fieldLink RX0 29 "ReturnPile$State" "steps" "[[I", Cond.methodLink RX2 132 yX0_misses, Cond.instanceMethod yX0_misses, Cond.selects RX0 yX0_misses yX0_misses]
def wsX2_missesInTrial_r5 : List Cond := [Cond.code yX0_misses cX0_misses 1 (some .int)]
def wsX2_missesInTrial : List Cond := .code yX2_missesInTrial cX2_missesInTrial 3 (some .int) :: ((wsX2_missesInTrial_r1 ++ (wsX2_missesInTrial_r2 ++ (wsX2_missesInTrial_r3 ++ (wsX2_missesInTrial_r4 ++ wsX2_missesInTrial_r5)))) ++ wsX20 ++ wsX00)
def wsX2_missesWith_r1 : List Cond := [Cond.methodLink RX2 45 yX2_isSize, Cond.static yX2_isSize, Cond.initialized RX2, Cond.code yX2_isSize cX2_isSize 1 (some .boolean), Cond.methodLink RX2 117 yX2_missesInTrial, Cond.instanceMethod yX2_missesInTrial, Cond.selects RX2 yX2_missesInTrial yX2_missesInTrial, Cond.code yX2_missesInTrial cX2_missesInTrial 3 (some .int), Cond.fieldLink RX2 19 "ReturnPile" "trial" "LReturnPile$State;", Cond.fieldLink RX2 10 "ReturnPile" "now" "LReturnPile$State;", Cond.fieldLink RX2 41 "ReturnPile$State" "repair" "I", Cond.fieldLink RX2 78 "ReturnPile$State" "stepCount" "I", Cond.fieldLink RX2 129 "ReturnPile$State" "steps" "[[I", Cond.methodLink RX2 52 yX0_beginAnew, Cond.instanceMethod yX0_beginAnew, Cond.selects RX0 yX0_beginAnew yX0_beginAnew, Cond.initialized RX0, Cond.code yX0_beginAnew cX0_beginAnew 2 none, Cond.fieldLink RX0 39 "ReturnPile$State" "size" "I", Cond.fieldLink RX0 43 "ReturnPile$State" "top" "I", Cond.fieldLink RX0 46 "ReturnPile$State" "height" "I", Cond.fieldLink RX0 49 "ReturnPile$State" "greatestHeight" "I", Cond.fieldLink RX0 52 "ReturnPile$State" "stepCount" "I", Cond.fieldLink RX0 55 "ReturnPile$State" "confessionCount" "I"]
def wsX2_missesWith_r2 : List Cond := [Cond.fieldLink RX0 9 "ReturnPile$State" "stepsOf" "[I", Cond.fieldLink RX0 15 "ReturnPile$State" "outcomes" "[I", Cond.fieldLink RX0 18 "ReturnPile$State" "timesNamed" "[I", Cond.fieldLink RX0 26 "ReturnPile$State" "slots" "[[I", Cond.methodLink RX0 58 yJ7_fill_53178, Cond.static yJ7_fill_53178, Cond.initialized RJ7, Cond.code yJ7_fill_53178 cJ7_fill_53178 4 none, Cond.methodLink RX2 123 yX0_take, Cond.instanceMethod yX0_take, Cond.selects RX0 yX0_take yX0_take, Cond.code yX0_take cX0_take 6 (some .int), Cond.methodLink RX0 77 yX0_errorOf, Cond.instanceMethod yX0_errorOf, Cond.selects RX0 yX0_errorOf yX0_errorOf, Cond.code yX0_errorOf cX0_errorOf 4 (some .int), Cond.methodLink RX0 100 yX0_isNumberFor, Cond.static yX0_isNumberFor, Cond.code yX0_isNumberFor cX0_isNumberFor 2 (some .boolean), Cond.methodLink RX0 104 yX0_framesNeeded, Cond.static yX0_framesNeeded, Cond.code yX0_framesNeeded cX0_framesNeeded 2 (some .int), Cond.methodLink RX0 81 yX0_addFrame, Cond.instanceMethod yX0_addFrame]
def wsX2_missesWith_r3 : List Cond := [Cond.selects RX0 yX0_addFrame yX0_addFrame, Cond.code yX0_addFrame cX0_addFrame 4 (some .int), Cond.fieldLink RX0 23 "ReturnPile$State" "frames" "[[I", Cond.methodLink RX0 110 Lib.Math.max.name, Cond.static Lib.Math.max.name, Cond.initialized "java/lang/Math", Cond.code Lib.Math.max.name Lib.Math.max.code 2 (some .int), Cond.methodLink RX0 107 yX0_overrunFramesOfTop, Cond.instanceMethod yX0_overrunFramesOfTop, Cond.selects RX0 yX0_overrunFramesOfTop yX0_overrunFramesOfTop, Cond.code yX0_overrunFramesOfTop cX0_overrunFramesOfTop 3 none, Cond.methodLink RX0 115 yX0_isOverrun, Cond.instanceMethod yX0_isOverrun, Cond.selects RX0 yX0_isOverrun yX0_isOverrun, Cond.code yX0_isOverrun cX0_isOverrun 2 (some .boolean), Cond.methodLink RX0 85 yX0_replaceFunction, Cond.instanceMethod yX0_replaceFunction, Cond.selects RX0 yX0_replaceFunction yX0_replaceFunction, Cond.code yX0_replaceFunction cX0_replaceFunction 3 (some .int), Cond.methodLink RX0 89 yX0_removeFrame, Cond.instanceMethod yX0_removeFrame, Cond.selects RX0 yX0_removeFrame yX0_removeFrame, Cond.code yX0_removeFrame cX0_removeFrame 2 (some .int), Cond.methodLink RX0 119 yX0_outcomeOf]
def wsX2_missesWith_r4 : List Cond := [Cond.instanceMethod yX0_outcomeOf, Cond.selects RX0 yX0_outcomeOf yX0_outcomeOf, Cond.code yX0_outcomeOf cX0_outcomeOf 3 (some .int), Cond.methodLink RX0 122 yX0_confess, Cond.instanceMethod yX0_confess, Cond.selects RX0 yX0_confess yX0_confess, Cond.code yX0_confess cX0_confess 6 none, Cond.fieldLink RX0 32 "ReturnPile$State" "confessions" "[[I", Cond.methodLink RX0 67 arraycopyName, Cond.native arraycopyName, Cond.static arraycopyName, Cond.initialized "java/lang/System", Cond.methodLink RX0 128 Lib.Math.min.name, Cond.static Lib.Math.min.name, Cond.code Lib.Math.min.name Lib.Math.min.code 2 (some .int), Cond.methodLink RX0 125 yX0_slotBefore, Cond.instanceMethod yX0_slotBefore, Cond.selects RX0 yX0_slotBefore yX0_slotBefore, Cond.code yX0_slotBefore cX0_slotBefore 2 (some .int), Cond.methodLink RX0 93 yX0_removeFrames, Cond.instanceMethod yX0_removeFrames, Cond.selects RX0 yX0_removeFrames yX0_removeFrames, Cond.code yX0_removeFrames cX0_removeFrames 3 (some .int), Cond.fieldLink RX0 64 "ReturnPile$State" "repair" "I"]
def wsX2_missesWith_r5 : List Cond := [Cond.methodLink RX0 96 yX0_remember, Cond.instanceMethod yX0_remember, Cond.selects RX0 yX0_remember yX0_remember, Cond.code yX0_remember cX0_remember 4 none, Cond.fieldLink RX0 29 "ReturnPile$State" "steps" "[[I", Cond.methodLink RX2 132 yX0_misses, Cond.instanceMethod yX0_misses, Cond.selects RX0 yX0_misses yX0_misses, Cond.code yX0_misses cX0_misses 1 (some .int)]
def wsX2_missesWith : List Cond := .code yX2_missesWith cX2_missesWith 2 (some .int) :: ((wsX2_missesWith_r1 ++ (wsX2_missesWith_r2 ++ (wsX2_missesWith_r3 ++ (wsX2_missesWith_r4 ++ wsX2_missesWith_r5)))) ++ wsX20 ++ wsX00)
def wsX2_bestSize_r1 : List Cond := [Cond.methodLink RX2 117 yX2_missesInTrial, Cond.instanceMethod yX2_missesInTrial, Cond.selects RX2 yX2_missesInTrial yX2_missesInTrial, Cond.initialized RX2, Cond.code yX2_missesInTrial cX2_missesInTrial 3 (some .int), Cond.fieldLink RX2 19 "ReturnPile" "trial" "LReturnPile$State;", Cond.fieldLink RX2 10 "ReturnPile" "now" "LReturnPile$State;", Cond.fieldLink RX2 41 "ReturnPile$State" "repair" "I", Cond.fieldLink RX2 78 "ReturnPile$State" "stepCount" "I", Cond.fieldLink RX2 129 "ReturnPile$State" "steps" "[[I", Cond.methodLink RX2 52 yX0_beginAnew, Cond.instanceMethod yX0_beginAnew, Cond.selects RX0 yX0_beginAnew yX0_beginAnew, Cond.initialized RX0, Cond.code yX0_beginAnew cX0_beginAnew 2 none, Cond.fieldLink RX0 39 "ReturnPile$State" "size" "I", Cond.fieldLink RX0 43 "ReturnPile$State" "top" "I", Cond.fieldLink RX0 46 "ReturnPile$State" "height" "I", Cond.fieldLink RX0 49 "ReturnPile$State" "greatestHeight" "I", Cond.fieldLink RX0 52 "ReturnPile$State" "stepCount" "I", Cond.fieldLink RX0 55 "ReturnPile$State" "confessionCount" "I", Cond.fieldLink RX0 9 "ReturnPile$State" "stepsOf" "[I", Cond.fieldLink RX0 15 "ReturnPile$State" "outcomes" "[I", Cond.fieldLink RX0 18 "ReturnPile$State" "timesNamed" "[I"]
def wsX2_bestSize_r2 : List Cond := [Cond.fieldLink RX0 26 "ReturnPile$State" "slots" "[[I", Cond.methodLink RX0 58 yJ7_fill_53178, Cond.static yJ7_fill_53178, Cond.initialized RJ7, Cond.code yJ7_fill_53178 cJ7_fill_53178 4 none, Cond.methodLink RX2 123 yX0_take, Cond.instanceMethod yX0_take, Cond.selects RX0 yX0_take yX0_take, Cond.code yX0_take cX0_take 6 (some .int), Cond.methodLink RX0 77 yX0_errorOf, Cond.instanceMethod yX0_errorOf, Cond.selects RX0 yX0_errorOf yX0_errorOf, Cond.code yX0_errorOf cX0_errorOf 4 (some .int), Cond.methodLink RX0 100 yX0_isNumberFor, Cond.static yX0_isNumberFor, Cond.code yX0_isNumberFor cX0_isNumberFor 2 (some .boolean), Cond.methodLink RX0 104 yX0_framesNeeded, Cond.static yX0_framesNeeded, Cond.code yX0_framesNeeded cX0_framesNeeded 2 (some .int), Cond.methodLink RX0 81 yX0_addFrame, Cond.instanceMethod yX0_addFrame, Cond.selects RX0 yX0_addFrame yX0_addFrame, Cond.code yX0_addFrame cX0_addFrame 4 (some .int), Cond.fieldLink RX0 23 "ReturnPile$State" "frames" "[[I"]
def wsX2_bestSize_r3 : List Cond := [Cond.methodLink RX0 110 Lib.Math.max.name, Cond.static Lib.Math.max.name, Cond.initialized "java/lang/Math", Cond.code Lib.Math.max.name Lib.Math.max.code 2 (some .int), Cond.methodLink RX0 107 yX0_overrunFramesOfTop, Cond.instanceMethod yX0_overrunFramesOfTop, Cond.selects RX0 yX0_overrunFramesOfTop yX0_overrunFramesOfTop, Cond.code yX0_overrunFramesOfTop cX0_overrunFramesOfTop 3 none, Cond.methodLink RX0 115 yX0_isOverrun, Cond.instanceMethod yX0_isOverrun, Cond.selects RX0 yX0_isOverrun yX0_isOverrun, Cond.code yX0_isOverrun cX0_isOverrun 2 (some .boolean), Cond.methodLink RX0 85 yX0_replaceFunction, Cond.instanceMethod yX0_replaceFunction, Cond.selects RX0 yX0_replaceFunction yX0_replaceFunction, Cond.code yX0_replaceFunction cX0_replaceFunction 3 (some .int), Cond.methodLink RX0 89 yX0_removeFrame, Cond.instanceMethod yX0_removeFrame, Cond.selects RX0 yX0_removeFrame yX0_removeFrame, Cond.code yX0_removeFrame cX0_removeFrame 2 (some .int), Cond.methodLink RX0 119 yX0_outcomeOf, Cond.instanceMethod yX0_outcomeOf, Cond.selects RX0 yX0_outcomeOf yX0_outcomeOf, Cond.code yX0_outcomeOf cX0_outcomeOf 3 (some .int)]
def wsX2_bestSize_r4 : List Cond := [Cond.methodLink RX0 122 yX0_confess, Cond.instanceMethod yX0_confess, Cond.selects RX0 yX0_confess yX0_confess, Cond.code yX0_confess cX0_confess 6 none, Cond.fieldLink RX0 32 "ReturnPile$State" "confessions" "[[I", Cond.methodLink RX0 67 arraycopyName, Cond.native arraycopyName, Cond.static arraycopyName, Cond.initialized "java/lang/System", Cond.methodLink RX0 128 Lib.Math.min.name, Cond.static Lib.Math.min.name, Cond.code Lib.Math.min.name Lib.Math.min.code 2 (some .int), Cond.methodLink RX0 125 yX0_slotBefore, Cond.instanceMethod yX0_slotBefore, Cond.selects RX0 yX0_slotBefore yX0_slotBefore, Cond.code yX0_slotBefore cX0_slotBefore 2 (some .int), Cond.methodLink RX0 93 yX0_removeFrames, Cond.instanceMethod yX0_removeFrames, Cond.selects RX0 yX0_removeFrames yX0_removeFrames, Cond.code yX0_removeFrames cX0_removeFrames 3 (some .int), Cond.fieldLink RX0 64 "ReturnPile$State" "repair" "I", Cond.methodLink RX0 96 yX0_remember, Cond.instanceMethod yX0_remember, Cond.selects RX0 yX0_remember yX0_remember]
def wsX2_bestSize_r5 : List Cond := [Cond.code yX0_remember cX0_remember 4 none, Cond.fieldLink RX0 29 "ReturnPile$State" "steps" "[[I", Cond.methodLink RX2 132 yX0_misses, Cond.instanceMethod yX0_misses, Cond.selects RX0 yX0_misses yX0_misses, Cond.code yX0_misses cX0_misses 1 (some .int)]
def wsX2_bestSize : List Cond := .code yX2_bestSize cX2_bestSize 5 (some .int) :: ((wsX2_bestSize_r1 ++ (wsX2_bestSize_r2 ++ (wsX2_bestSize_r3 ++ (wsX2_bestSize_r4 ++ wsX2_bestSize_r5)))) ++ wsX20 ++ wsX00)
def wsX2_callsUntil : List Cond := .code yX2_callsUntil cX2_callsUntil 4 (some .int) :: ([.fieldLink RX2 10 "ReturnPile" "now" "LReturnPile$State;", .fieldLink RX2 75 "ReturnPile$State" "height" "I", .fieldLink RX2 100 "ReturnPile$State" "frames" "[[I", .fieldLink RX2 91 "ReturnPile$State" "top" "I", .fieldLink RX2 49 "ReturnPile$State" "size" "I", .methodLink RX2 120 yX0_isOverrun, .instanceMethod yX0_isOverrun, .selects RX0 yX0_isOverrun yX0_isOverrun, .initialized RX0, .code yX0_isOverrun cX0_isOverrun 2 (some .boolean), .fieldLink RX0 23 "ReturnPile$State" "frames" "[[I"] ++ wsX20 ++ wsX00)
def wsX3_begins : List Cond := .code yX3_begins cX3_begins 4 none :: ([.fieldLink RX3 7 "ReturnPileModel" "s" "[I"] ++ wsX30)
def wsX3_init : List Cond := .code yX3_init cX3_init 1 none :: ([.methodLink RX3 1 objectInit, .instanceMethod objectInit, .code objectInit ⟨#[0xb1]⟩ 1 none, .arrayClass .int, .fieldLink RX3 7 "ReturnPileModel" "s" "[I", .fieldLink RX3 13 "ReturnPileModel" "past" "[I", .fieldLink RX3 16 "ReturnPileModel" "held" "[I", .fieldLink RX3 19 "ReturnPileModel" "text" "[I", .fieldLink RX3 22 "ReturnPileModel" "pile" "[I", .fieldLink RX3 25 "ReturnPileModel" "goals" "[I", .methodLink RX3 28 yX3_begins, .instanceMethod yX3_begins, .selects RX3 yX3_begins yX3_begins, .initialized RX3, .code yX3_begins cX3_begins 4 none] ++ wsX30)
def wsX3_in : List Cond := .code yX3_in cX3_in 3 (some .boolean) :: ([])
def wsX3_acts : List Cond := .code yX3_acts cX3_acts 2 none :: ([.fieldLink RX3 32 "ReturnPileModel" "runs" "Z", .fieldLink RX3 36 "ReturnPileModel" "pasts" "I", .fieldLink RX3 13 "ReturnPileModel" "past" "[I", .fieldLink RX3 7 "ReturnPileModel" "s" "[I"] ++ wsX30)
def wsX3_ofFrame : List Cond := .code yX3_ofFrame cX3_ofFrame 3 (some .int) :: ([.fieldLink RX3 7 "ReturnPileModel" "s" "[I"] ++ wsX30)
def wsX3_ofSlot : List Cond := .code yX3_ofSlot cX3_ofSlot 3 (some .int) :: ([.fieldLink RX3 7 "ReturnPileModel" "s" "[I"] ++ wsX30)
def wsX3_notes : List Cond := .code yX3_notes cX3_notes 3 none :: ([.fieldLink RX3 7 "ReturnPileModel" "s" "[I"] ++ wsX30)
def wsX3_call : List Cond := .code yX3_call cX3_call 7 (some .int) :: ([.fieldLink RX3 7 "ReturnPileModel" "s" "[I", .methodLink RX3 40 yX3_in, .static yX3_in, .initialized RX3, .code yX3_in cX3_in 3 (some .boolean), .methodLink RX3 44 yX3_acts, .instanceMethod yX3_acts, .selects RX3 yX3_acts yX3_acts, .code yX3_acts cX3_acts 2 none, .fieldLink RX3 32 "ReturnPileModel" "runs" "Z", .fieldLink RX3 36 "ReturnPileModel" "pasts" "I", .fieldLink RX3 13 "ReturnPileModel" "past" "[I", .methodLink RX3 47 yX3_ofFrame, .instanceMethod yX3_ofFrame, .selects RX3 yX3_ofFrame yX3_ofFrame, .code yX3_ofFrame cX3_ofFrame 3 (some .int), .methodLink RX3 51 yX3_notes, .instanceMethod yX3_notes, .selects RX3 yX3_notes yX3_notes, .code yX3_notes cX3_notes 3 none] ++ wsX30)
def wsX3_tail : List Cond := .code yX3_tail cX3_tail 4 (some .int) :: ([.fieldLink RX3 7 "ReturnPileModel" "s" "[I", .methodLink RX3 40 yX3_in, .static yX3_in, .initialized RX3, .code yX3_in cX3_in 3 (some .boolean), .methodLink RX3 44 yX3_acts, .instanceMethod yX3_acts, .selects RX3 yX3_acts yX3_acts, .code yX3_acts cX3_acts 2 none, .fieldLink RX3 32 "ReturnPileModel" "runs" "Z", .fieldLink RX3 36 "ReturnPileModel" "pasts" "I", .fieldLink RX3 13 "ReturnPileModel" "past" "[I", .methodLink RX3 51 yX3_notes, .instanceMethod yX3_notes, .selects RX3 yX3_notes yX3_notes, .code yX3_notes cX3_notes 3 none] ++ wsX30)
def wsX3_tells : List Cond := .code yX3_tells cX3_tells 5 none :: ([.fieldLink RX3 7 "ReturnPileModel" "s" "[I", .methodLink RX3 47 yX3_ofFrame, .instanceMethod yX3_ofFrame, .selects RX3 yX3_ofFrame yX3_ofFrame, .initialized RX3, .code yX3_ofFrame cX3_ofFrame 3 (some .int), .methodLink RX3 55 yX3_ofSlot, .instanceMethod yX3_ofSlot, .selects RX3 yX3_ofSlot yX3_ofSlot, .code yX3_ofSlot cX3_ofSlot 3 (some .int)] ++ wsX30)
def wsX3_returns : List Cond := .code yX3_returns cX3_returns 3 (some .int) :: ([.fieldLink RX3 7 "ReturnPileModel" "s" "[I", .methodLink RX3 55 yX3_ofSlot, .instanceMethod yX3_ofSlot, .selects RX3 yX3_ofSlot yX3_ofSlot, .initialized RX3, .code yX3_ofSlot cX3_ofSlot 3 (some .int), .methodLink RX3 47 yX3_ofFrame, .instanceMethod yX3_ofFrame, .selects RX3 yX3_ofFrame yX3_ofFrame, .code yX3_ofFrame cX3_ofFrame 3 (some .int), .methodLink RX3 58 yX3_tells, .instanceMethod yX3_tells, .selects RX3 yX3_tells yX3_tells, .code yX3_tells cX3_tells 5 none] ++ wsX30)
def wsX3_back : List Cond := .code yX3_back cX3_back 3 (some .int) :: ([])
def wsX3_ret_r1 : List Cond := [Cond.fieldLink RX3 7 "ReturnPileModel" "s" "[I", Cond.methodLink RX3 44 yX3_acts, Cond.instanceMethod yX3_acts, Cond.selects RX3 yX3_acts yX3_acts, Cond.initialized RX3, Cond.code yX3_acts cX3_acts 2 none, Cond.fieldLink RX3 32 "ReturnPileModel" "runs" "Z", Cond.fieldLink RX3 36 "ReturnPileModel" "pasts" "I", Cond.fieldLink RX3 13 "ReturnPileModel" "past" "[I", Cond.methodLink RX3 62 yX3_returns, Cond.instanceMethod yX3_returns, Cond.selects RX3 yX3_returns yX3_returns, Cond.code yX3_returns cX3_returns 3 (some .int), Cond.methodLink RX3 55 yX3_ofSlot, Cond.instanceMethod yX3_ofSlot, Cond.selects RX3 yX3_ofSlot yX3_ofSlot, Cond.code yX3_ofSlot cX3_ofSlot 3 (some .int), Cond.methodLink RX3 47 yX3_ofFrame, Cond.instanceMethod yX3_ofFrame, Cond.selects RX3 yX3_ofFrame yX3_ofFrame, Cond.code yX3_ofFrame cX3_ofFrame 3 (some .int), Cond.methodLink RX3 58 yX3_tells, Cond.instanceMethod yX3_tells, Cond.selects RX3 yX3_tells yX3_tells]
def wsX3_ret_r2 : List Cond := [Cond.code yX3_tells cX3_tells 5 none, Cond.methodLink RX3 66 yX3_back, Cond.static yX3_back, Cond.code yX3_back cX3_back 3 (some .int), Cond.methodLink RX3 51 yX3_notes, Cond.instanceMethod yX3_notes, Cond.selects RX3 yX3_notes yX3_notes, Cond.code yX3_notes cX3_notes 3 none]
def wsX3_ret : List Cond := .code yX3_ret cX3_ret 2 (some .int) :: ((wsX3_ret_r1 ++ wsX3_ret_r2) ++ wsX30)
def wsX3_raise : List Cond := .code yX3_raise cX3_raise 2 (some .int) :: ([.fieldLink RX3 7 "ReturnPileModel" "s" "[I", .methodLink RX3 40 yX3_in, .static yX3_in, .initialized RX3, .code yX3_in cX3_in 3 (some .boolean), .methodLink RX3 44 yX3_acts, .instanceMethod yX3_acts, .selects RX3 yX3_acts yX3_acts, .code yX3_acts cX3_acts 2 none, .fieldLink RX3 32 "ReturnPileModel" "runs" "Z", .fieldLink RX3 36 "ReturnPileModel" "pasts" "I", .fieldLink RX3 13 "ReturnPileModel" "past" "[I", .methodLink RX3 66 yX3_back, .static yX3_back, .code yX3_back cX3_back 3 (some .int), .methodLink RX3 51 yX3_notes, .instanceMethod yX3_notes, .selects RX3 yX3_notes yX3_notes, .code yX3_notes cX3_notes 3 none] ++ wsX30)
def wsX3_setRepair : List Cond := .code yX3_setRepair cX3_setRepair 3 (some .int) :: ([.fieldLink RX3 7 "ReturnPileModel" "s" "[I", .methodLink RX3 40 yX3_in, .static yX3_in, .initialized RX3, .code yX3_in cX3_in 3 (some .boolean), .methodLink RX3 44 yX3_acts, .instanceMethod yX3_acts, .selects RX3 yX3_acts yX3_acts, .code yX3_acts cX3_acts 2 none, .fieldLink RX3 32 "ReturnPileModel" "runs" "Z", .fieldLink RX3 36 "ReturnPileModel" "pasts" "I", .fieldLink RX3 13 "ReturnPileModel" "past" "[I"] ++ wsX30)
def wsX3_begin : List Cond := .code yX3_begin cX3_begin 3 (some .int) :: ([.fieldLink RX3 7 "ReturnPileModel" "s" "[I", .methodLink RX3 40 yX3_in, .static yX3_in, .initialized RX3, .code yX3_in cX3_in 3 (some .boolean), .methodLink RX3 44 yX3_acts, .instanceMethod yX3_acts, .selects RX3 yX3_acts yX3_acts, .code yX3_acts cX3_acts 2 none, .fieldLink RX3 32 "ReturnPileModel" "runs" "Z", .fieldLink RX3 36 "ReturnPileModel" "pasts" "I", .fieldLink RX3 13 "ReturnPileModel" "past" "[I", .methodLink RX3 28 yX3_begins, .instanceMethod yX3_begins, .selects RX3 yX3_begins yX3_begins, .code yX3_begins cX3_begins 4 none] ++ wsX30)
def wsX3_undo : List Cond := .code yX3_undo cX3_undo 2 (some .int) :: ([.fieldLink RX3 36 "ReturnPileModel" "pasts" "I", .fieldLink RX3 7 "ReturnPileModel" "s" "[I", .fieldLink RX3 13 "ReturnPileModel" "past" "[I"] ++ wsX30)
def wsX3_append : List Cond := .code yX3_append cX3_append 2 (some .int) :: ([.fieldLink RX3 70 "ReturnPileModel" "typed" "I", .fieldLink RX3 19 "ReturnPileModel" "text" "[I", .methodLink RX3 40 yX3_in, .static yX3_in, .initialized RX3, .code yX3_in cX3_in 3 (some .boolean)] ++ wsX30)
def wsX3_clearText : List Cond := .code yX3_clearText cX3_clearText 2 (some .int) :: ([.fieldLink RX3 70 "ReturnPileModel" "typed" "I"] ++ wsX30)
def wsX3_skips : List Cond := .code yX3_skips cX3_skips 1 none :: ([.fieldLink RX3 73 "ReturnPileModel" "at" "I", .fieldLink RX3 70 "ReturnPileModel" "typed" "I", .fieldLink RX3 19 "ReturnPileModel" "text" "[I"] ++ wsX30)
def wsX3_isDigit : List Cond := .code yX3_isDigit cX3_isDigit 2 (some .boolean) :: ([.fieldLink RX3 70 "ReturnPileModel" "typed" "I", .fieldLink RX3 19 "ReturnPileModel" "text" "[I", .methodLink RX3 40 yX3_in, .static yX3_in, .initialized RX3, .code yX3_in cX3_in 3 (some .boolean)] ++ wsX30)
def wsX3_number : List Cond := .code yX3_number cX3_number 3 (some .boolean) :: ([.fieldLink RX3 73 "ReturnPileModel" "at" "I", .fieldLink RX3 79 "ReturnPileModel" "read" "I", .fieldLink RX3 19 "ReturnPileModel" "text" "[I", .methodLink RX3 76 yX3_skips, .instanceMethod yX3_skips, .selects RX3 yX3_skips yX3_skips, .initialized RX3, .code yX3_skips cX3_skips 1 none, .fieldLink RX3 70 "ReturnPileModel" "typed" "I", .methodLink RX3 82 yX3_isDigit, .instanceMethod yX3_isDigit, .selects RX3 yX3_isDigit yX3_isDigit, .code yX3_isDigit cX3_isDigit 2 (some .boolean), .methodLink RX3 40 yX3_in, .static yX3_in, .code yX3_in cX3_in 3 (some .boolean)] ++ wsX30)
def wsX3_runsOne_r1 : List Cond := [Cond.fieldLink RX3 73 "ReturnPileModel" "at" "I", Cond.fieldLink RX3 19 "ReturnPileModel" "text" "[I", Cond.fieldLink RX3 79 "ReturnPileModel" "read" "I", Cond.fieldLink RX3 70 "ReturnPileModel" "typed" "I", Cond.methodLink RX3 86 yX3_number, Cond.instanceMethod yX3_number, Cond.selects RX3 yX3_number yX3_number, Cond.initialized RX3, Cond.code yX3_number cX3_number 3 (some .boolean), Cond.methodLink RX3 76 yX3_skips, Cond.instanceMethod yX3_skips, Cond.selects RX3 yX3_skips yX3_skips, Cond.code yX3_skips cX3_skips 1 none, Cond.methodLink RX3 82 yX3_isDigit, Cond.instanceMethod yX3_isDigit, Cond.selects RX3 yX3_isDigit yX3_isDigit, Cond.code yX3_isDigit cX3_isDigit 2 (some .boolean), Cond.methodLink RX3 40 yX3_in, Cond.static yX3_in, Cond.code yX3_in cX3_in 3 (some .boolean), Cond.methodLink RX3 90 yX3_call, Cond.instanceMethod yX3_call, Cond.selects RX3 yX3_call yX3_call, Cond.code yX3_call cX3_call 7 (some .int)]
def wsX3_runsOne_r2 : List Cond := [Cond.fieldLink RX3 7 "ReturnPileModel" "s" "[I", Cond.methodLink RX3 44 yX3_acts, Cond.instanceMethod yX3_acts, Cond.selects RX3 yX3_acts yX3_acts, Cond.code yX3_acts cX3_acts 2 none, Cond.fieldLink RX3 32 "ReturnPileModel" "runs" "Z", Cond.fieldLink RX3 36 "ReturnPileModel" "pasts" "I", Cond.fieldLink RX3 13 "ReturnPileModel" "past" "[I", Cond.methodLink RX3 47 yX3_ofFrame, Cond.instanceMethod yX3_ofFrame, Cond.selects RX3 yX3_ofFrame yX3_ofFrame, Cond.code yX3_ofFrame cX3_ofFrame 3 (some .int), Cond.methodLink RX3 51 yX3_notes, Cond.instanceMethod yX3_notes, Cond.selects RX3 yX3_notes yX3_notes, Cond.code yX3_notes cX3_notes 3 none, Cond.methodLink RX3 93 yX3_tail, Cond.instanceMethod yX3_tail, Cond.selects RX3 yX3_tail yX3_tail, Cond.code yX3_tail cX3_tail 4 (some .int), Cond.methodLink RX3 97 yX3_ret, Cond.instanceMethod yX3_ret, Cond.selects RX3 yX3_ret yX3_ret, Cond.code yX3_ret cX3_ret 2 (some .int)]
def wsX3_runsOne_r3 : List Cond := [Cond.methodLink RX3 62 yX3_returns, Cond.instanceMethod yX3_returns, Cond.selects RX3 yX3_returns yX3_returns, Cond.code yX3_returns cX3_returns 3 (some .int), Cond.methodLink RX3 55 yX3_ofSlot, Cond.instanceMethod yX3_ofSlot, Cond.selects RX3 yX3_ofSlot yX3_ofSlot, Cond.code yX3_ofSlot cX3_ofSlot 3 (some .int), Cond.methodLink RX3 58 yX3_tells, Cond.instanceMethod yX3_tells, Cond.selects RX3 yX3_tells yX3_tells, Cond.code yX3_tells cX3_tells 5 none, Cond.methodLink RX3 66 yX3_back, Cond.static yX3_back, Cond.code yX3_back cX3_back 3 (some .int), Cond.methodLink RX3 100 yX3_raise, Cond.instanceMethod yX3_raise, Cond.selects RX3 yX3_raise yX3_raise, Cond.code yX3_raise cX3_raise 2 (some .int)]
def wsX3_runsOne : List Cond := .code yX3_runsOne cX3_runsOne 5 (some .int) :: ((wsX3_runsOne_r1 ++ (wsX3_runsOne_r2 ++ wsX3_runsOne_r3)) ++ wsX30)
def wsX3_exchanges : List Cond := .code yX3_exchanges cX3_exchanges 3 none :: ([.fieldLink RX3 7 "ReturnPileModel" "s" "[I", .fieldLink RX3 16 "ReturnPileModel" "held" "[I"] ++ wsX30)
def wsX3_run_r1 : List Cond := [Cond.fieldLink RX3 16 "ReturnPileModel" "held" "[I", Cond.fieldLink RX3 7 "ReturnPileModel" "s" "[I", Cond.fieldLink RX3 32 "ReturnPileModel" "runs" "Z", Cond.fieldLink RX3 73 "ReturnPileModel" "at" "I", Cond.fieldLink RX3 70 "ReturnPileModel" "typed" "I", Cond.methodLink RX3 76 yX3_skips, Cond.instanceMethod yX3_skips, Cond.selects RX3 yX3_skips yX3_skips, Cond.initialized RX3, Cond.code yX3_skips cX3_skips 1 none, Cond.fieldLink RX3 19 "ReturnPileModel" "text" "[I", Cond.methodLink RX3 103 yX3_runsOne, Cond.instanceMethod yX3_runsOne, Cond.selects RX3 yX3_runsOne yX3_runsOne, Cond.code yX3_runsOne cX3_runsOne 5 (some .int), Cond.fieldLink RX3 79 "ReturnPileModel" "read" "I", Cond.methodLink RX3 86 yX3_number, Cond.instanceMethod yX3_number, Cond.selects RX3 yX3_number yX3_number, Cond.code yX3_number cX3_number 3 (some .boolean), Cond.methodLink RX3 82 yX3_isDigit, Cond.instanceMethod yX3_isDigit, Cond.selects RX3 yX3_isDigit yX3_isDigit, Cond.code yX3_isDigit cX3_isDigit 2 (some .boolean)]
def wsX3_run_r2 : List Cond := [Cond.methodLink RX3 40 yX3_in, Cond.static yX3_in, Cond.code yX3_in cX3_in 3 (some .boolean), Cond.methodLink RX3 90 yX3_call, Cond.instanceMethod yX3_call, Cond.selects RX3 yX3_call yX3_call, Cond.code yX3_call cX3_call 7 (some .int), Cond.methodLink RX3 44 yX3_acts, Cond.instanceMethod yX3_acts, Cond.selects RX3 yX3_acts yX3_acts, Cond.code yX3_acts cX3_acts 2 none, Cond.fieldLink RX3 36 "ReturnPileModel" "pasts" "I", Cond.fieldLink RX3 13 "ReturnPileModel" "past" "[I", Cond.methodLink RX3 47 yX3_ofFrame, Cond.instanceMethod yX3_ofFrame, Cond.selects RX3 yX3_ofFrame yX3_ofFrame, Cond.code yX3_ofFrame cX3_ofFrame 3 (some .int), Cond.methodLink RX3 51 yX3_notes, Cond.instanceMethod yX3_notes, Cond.selects RX3 yX3_notes yX3_notes, Cond.code yX3_notes cX3_notes 3 none, Cond.methodLink RX3 93 yX3_tail, Cond.instanceMethod yX3_tail, Cond.selects RX3 yX3_tail yX3_tail]
def wsX3_run_r3 : List Cond := [Cond.code yX3_tail cX3_tail 4 (some .int), Cond.methodLink RX3 97 yX3_ret, Cond.instanceMethod yX3_ret, Cond.selects RX3 yX3_ret yX3_ret, Cond.code yX3_ret cX3_ret 2 (some .int), Cond.methodLink RX3 62 yX3_returns, Cond.instanceMethod yX3_returns, Cond.selects RX3 yX3_returns yX3_returns, Cond.code yX3_returns cX3_returns 3 (some .int), Cond.methodLink RX3 55 yX3_ofSlot, Cond.instanceMethod yX3_ofSlot, Cond.selects RX3 yX3_ofSlot yX3_ofSlot, Cond.code yX3_ofSlot cX3_ofSlot 3 (some .int), Cond.methodLink RX3 58 yX3_tells, Cond.instanceMethod yX3_tells, Cond.selects RX3 yX3_tells yX3_tells, Cond.code yX3_tells cX3_tells 5 none, Cond.methodLink RX3 66 yX3_back, Cond.static yX3_back, Cond.code yX3_back cX3_back 3 (some .int), Cond.methodLink RX3 100 yX3_raise, Cond.instanceMethod yX3_raise, Cond.selects RX3 yX3_raise yX3_raise, Cond.code yX3_raise cX3_raise 2 (some .int)]
def wsX3_run_r4 : List Cond := [Cond.methodLink RX3 106 yX3_exchanges, Cond.instanceMethod yX3_exchanges, Cond.selects RX3 yX3_exchanges yX3_exchanges, Cond.code yX3_exchanges cX3_exchanges 3 none]
def wsX3_run : List Cond := .code yX3_run cX3_run 3 (some .int) :: ((wsX3_run_r1 ++ (wsX3_run_r2 ++ (wsX3_run_r3 ++ wsX3_run_r4))) ++ wsX30)
def wsX3_overrun : List Cond := .code yX3_overrun cX3_overrun 3 (some .int) :: ([.fieldLink RX3 7 "ReturnPileModel" "s" "[I", .methodLink RX3 47 yX3_ofFrame, .instanceMethod yX3_ofFrame, .selects RX3 yX3_ofFrame yX3_ofFrame, .initialized RX3, .code yX3_ofFrame cX3_ofFrame 3 (some .int)] ++ wsX30)
def wsX3_count : List Cond := .code yX3_count cX3_count 2 (some .int) :: ([.fieldLink RX3 7 "ReturnPileModel" "s" "[I", .fieldLink RX3 36 "ReturnPileModel" "pasts" "I", .fieldLink RX3 70 "ReturnPileModel" "typed" "I", .methodLink RX3 40 yX3_in, .static yX3_in, .initialized RX3, .code yX3_in cX3_in 3 (some .boolean), .methodLink RX3 109 yX3_overrun, .instanceMethod yX3_overrun, .selects RX3 yX3_overrun yX3_overrun, .code yX3_overrun cX3_overrun 3 (some .int), .methodLink RX3 47 yX3_ofFrame, .instanceMethod yX3_ofFrame, .selects RX3 yX3_ofFrame yX3_ofFrame, .code yX3_ofFrame cX3_ofFrame 3 (some .int)] ++ wsX30)
def wsX3_isFrame : List Cond := .code yX3_isFrame cX3_isFrame 2 (some .boolean) :: ([.fieldLink RX3 7 "ReturnPileModel" "s" "[I"] ++ wsX30)
def wsX3_frame : List Cond := .code yX3_frame cX3_frame 3 (some .int) :: ([.fieldLink RX3 7 "ReturnPileModel" "s" "[I", .methodLink RX3 112 yX3_isFrame, .instanceMethod yX3_isFrame, .selects RX3 yX3_isFrame yX3_isFrame, .initialized RX3, .code yX3_isFrame cX3_isFrame 2 (some .boolean), .methodLink RX3 40 yX3_in, .static yX3_in, .code yX3_in cX3_in 3 (some .boolean), .methodLink RX3 47 yX3_ofFrame, .instanceMethod yX3_ofFrame, .selects RX3 yX3_ofFrame yX3_ofFrame, .code yX3_ofFrame cX3_ofFrame 3 (some .int)] ++ wsX30)
def wsX3_slot : List Cond := .code yX3_slot cX3_slot 3 (some .int) :: ([.fieldLink RX3 7 "ReturnPileModel" "s" "[I", .methodLink RX3 40 yX3_in, .static yX3_in, .initialized RX3, .code yX3_in cX3_in 3 (some .boolean), .methodLink RX3 55 yX3_ofSlot, .instanceMethod yX3_ofSlot, .selects RX3 yX3_ofSlot yX3_ofSlot, .code yX3_ofSlot cX3_ofSlot 3 (some .int)] ++ wsX30)
def wsX3_confession : List Cond := .code yX3_confession cX3_confession 3 (some .int) :: ([.fieldLink RX3 7 "ReturnPileModel" "s" "[I", .methodLink RX3 40 yX3_in, .static yX3_in, .initialized RX3, .code yX3_in cX3_in 3 (some .boolean)] ++ wsX30)
def wsX3_named : List Cond := .code yX3_named cX3_named 2 (some .int) :: ([.fieldLink RX3 7 "ReturnPileModel" "s" "[I"] ++ wsX30)
def wsX3_worst : List Cond := .code yX3_worst cX3_worst 4 (some .int) :: ([.fieldLink RX3 7 "ReturnPileModel" "s" "[I"] ++ wsX30)
def wsX3_ahead : List Cond := .code yX3_ahead cX3_ahead 5 (some .int) :: ([.fieldLink RX3 7 "ReturnPileModel" "s" "[I", .methodLink RX3 40 yX3_in, .static yX3_in, .initialized RX3, .code yX3_in cX3_in 3 (some .boolean), .methodLink RX3 66 yX3_back, .static yX3_back, .code yX3_back cX3_back 3 (some .int), .methodLink RX3 55 yX3_ofSlot, .instanceMethod yX3_ofSlot, .selects RX3 yX3_ofSlot yX3_ofSlot, .code yX3_ofSlot cX3_ofSlot 3 (some .int), .methodLink RX3 47 yX3_ofFrame, .instanceMethod yX3_ofFrame, .selects RX3 yX3_ofFrame yX3_ofFrame, .code yX3_ofFrame cX3_ofFrame 3 (some .int)] ++ wsX30)
def wsX3_misses : List Cond := .code yX3_misses cX3_misses 8 (some .int) :: ([.fieldLink RX3 22 "ReturnPileModel" "pile" "[I", .fieldLink RX3 7 "ReturnPileModel" "s" "[I", .fieldLink RX3 25 "ReturnPileModel" "goals" "[I", .methodLink RX3 66 yX3_back, .static yX3_back, .initialized RX3, .code yX3_back cX3_back 3 (some .int)] ++ wsX30)
def wsX3_missesWith : List Cond := .code yX3_missesWith cX3_missesWith 2 (some .int) :: ([.methodLink RX3 40 yX3_in, .static yX3_in, .initialized RX3, .code yX3_in cX3_in 3 (some .boolean), .methodLink RX3 115 yX3_misses, .instanceMethod yX3_misses, .selects RX3 yX3_misses yX3_misses, .code yX3_misses cX3_misses 8 (some .int), .fieldLink RX3 22 "ReturnPileModel" "pile" "[I", .fieldLink RX3 7 "ReturnPileModel" "s" "[I", .fieldLink RX3 25 "ReturnPileModel" "goals" "[I", .methodLink RX3 66 yX3_back, .static yX3_back, .code yX3_back cX3_back 3 (some .int)] ++ wsX30)
def wsX3_bestSize : List Cond := .code yX3_bestSize cX3_bestSize 3 (some .int) :: ([.methodLink RX3 115 yX3_misses, .instanceMethod yX3_misses, .selects RX3 yX3_misses yX3_misses, .initialized RX3, .code yX3_misses cX3_misses 8 (some .int), .fieldLink RX3 22 "ReturnPileModel" "pile" "[I", .fieldLink RX3 7 "ReturnPileModel" "s" "[I", .fieldLink RX3 25 "ReturnPileModel" "goals" "[I", .methodLink RX3 66 yX3_back, .static yX3_back, .code yX3_back cX3_back 3 (some .int)] ++ wsX30)
def wsX3_callsUntil : List Cond := .code yX3_callsUntil cX3_callsUntil 4 (some .int) :: ([.fieldLink RX3 7 "ReturnPileModel" "s" "[I", .methodLink RX3 112 yX3_isFrame, .instanceMethod yX3_isFrame, .selects RX3 yX3_isFrame yX3_isFrame, .initialized RX3, .code yX3_isFrame cX3_isFrame 2 (some .boolean), .methodLink RX3 47 yX3_ofFrame, .instanceMethod yX3_ofFrame, .selects RX3 yX3_ofFrame yX3_ofFrame, .code yX3_ofFrame cX3_ofFrame 3 (some .int)] ++ wsX30)
def wsJ9_max_7cf53 : List Cond := .code yJ9_max_7cf53 cJ9_max_7cf53 2 (some .int) :: ([])
def wsJ9_min_7cf53 : List Cond := .code yJ9_min_7cf53 cJ9_min_7cf53 2 (some .int) :: ([])
def wsL_law_r1 : List Cond := [Cond.classLink RL 7 RX2, Cond.instantiable RX2 6, Cond.initialized RX2, Cond.classLink RL 10 RX3, Cond.instantiable RX3 11, Cond.initialized RX3, Cond.methodLink RL 9 yX2_init, Cond.instanceMethod yX2_init, Cond.code yX2_init cX2_init 2 none, Cond.methodLink RX2 1 objectInit, Cond.instanceMethod objectInit, Cond.code objectInit ⟨#[0xb1]⟩ 1 none, Cond.classLink RX2 7 RX0, Cond.instantiable RX0 14, Cond.initialized RX0, Cond.fieldLink RX2 10 "ReturnPile" "now" "LReturnPile$State;", Cond.fieldLink RX2 16 "ReturnPile" "before" "LReturnPile$State;", Cond.fieldLink RX2 19 "ReturnPile" "trial" "LReturnPile$State;", Cond.fieldLink RX2 22 "ReturnPile" "history" "[LReturnPile$State;", Cond.classLink RX2 26 RX1, Cond.instantiable RX1 3, Cond.initialized RX1, Cond.fieldLink RX2 29 "ReturnPile" "text" "LReturnPile$Text;", Cond.methodLink RX2 9 yX0_init]
def wsL_law_r2 : List Cond := [Cond.instanceMethod yX0_init, Cond.code yX0_init cX0_init 1 none, Cond.methodLink RX0 3 objectInit, Cond.arrayClass .int, Cond.fieldLink RX0 9 "ReturnPile$State" "stepsOf" "[I", Cond.fieldLink RX0 15 "ReturnPile$State" "outcomes" "[I", Cond.fieldLink RX0 18 "ReturnPile$State" "timesNamed" "[I", Cond.classLink RX0 21 "[[I", Cond.fieldLink RX0 23 "ReturnPile$State" "frames" "[[I", Cond.fieldLink RX0 26 "ReturnPile$State" "slots" "[[I", Cond.fieldLink RX0 29 "ReturnPile$State" "steps" "[[I", Cond.fieldLink RX0 32 "ReturnPile$State" "confessions" "[[I", Cond.methodLink RX0 35 yX0_beginAnew, Cond.instanceMethod yX0_beginAnew, Cond.selects RX0 yX0_beginAnew yX0_beginAnew, Cond.code yX0_beginAnew cX0_beginAnew 2 none, Cond.fieldLink RX0 39 "ReturnPile$State" "size" "I", Cond.fieldLink RX0 43 "ReturnPile$State" "top" "I", Cond.fieldLink RX0 46 "ReturnPile$State" "height" "I", Cond.fieldLink RX0 49 "ReturnPile$State" "greatestHeight" "I", Cond.fieldLink RX0 52 "ReturnPile$State" "stepCount" "I", Cond.fieldLink RX0 55 "ReturnPile$State" "confessionCount" "I", Cond.methodLink RX0 58 yJ7_fill_53178, Cond.static yJ7_fill_53178]
def wsL_law_r3 : List Cond := [Cond.initialized RJ7, Cond.code yJ7_fill_53178 cJ7_fill_53178 4 none, Cond.instanceMethod yX1_init, Cond.code yX1_init cX1_init 1 none, Cond.methodLink RX1 3 objectInit, Cond.fieldLink RX1 9 "ReturnPile$Text" "characters" "[I", Cond.methodLink RL 12 yX3_init, Cond.instanceMethod yX3_init, Cond.code yX3_init cX3_init 1 none, Cond.methodLink RX3 1 objectInit, Cond.fieldLink RX3 7 "ReturnPileModel" "s" "[I", Cond.fieldLink RX3 13 "ReturnPileModel" "past" "[I", Cond.fieldLink RX3 16 "ReturnPileModel" "held" "[I", Cond.fieldLink RX3 19 "ReturnPileModel" "text" "[I", Cond.fieldLink RX3 22 "ReturnPileModel" "pile" "[I", Cond.fieldLink RX3 25 "ReturnPileModel" "goals" "[I", Cond.methodLink RX3 28 yX3_begins, Cond.instanceMethod yX3_begins, Cond.selects RX3 yX3_begins yX3_begins, Cond.code yX3_begins cX3_begins 4 none, Cond.methodLink RL 13 yX2_call, Cond.instanceMethod yX2_call, Cond.selects RX2 yX2_call yX2_call, Cond.code yX2_call cX2_call 3 (some .int)]
def wsL_law_r4 : List Cond := [Cond.methodLink RX2 33 yX2_takeAsAction, Cond.instanceMethod yX2_takeAsAction, Cond.selects RX2 yX2_takeAsAction yX2_takeAsAction, Cond.code yX2_takeAsAction cX2_takeAsAction 5 (some .int), Cond.methodLink RX2 59 yX0_copyFrom, Cond.instanceMethod yX0_copyFrom, Cond.selects RX0 yX0_copyFrom yX0_copyFrom, Cond.code yX0_copyFrom cX0_copyFrom 2 none, Cond.fieldLink RX0 64 "ReturnPile$State" "repair" "I", Cond.methodLink RX0 67 arraycopyName, Cond.native arraycopyName, Cond.static arraycopyName, Cond.initialized "java/lang/System", Cond.methodLink RX0 73 yX0_copyRows, Cond.static yX0_copyRows, Cond.code yX0_copyRows cX0_copyRows 4 none, Cond.methodLink RX2 123 yX0_take, Cond.instanceMethod yX0_take, Cond.selects RX0 yX0_take yX0_take, Cond.code yX0_take cX0_take 6 (some .int), Cond.methodLink RX0 77 yX0_errorOf, Cond.instanceMethod yX0_errorOf, Cond.selects RX0 yX0_errorOf yX0_errorOf, Cond.code yX0_errorOf cX0_errorOf 4 (some .int)]
def wsL_law_r5 : List Cond := [Cond.methodLink RX0 100 yX0_isNumberFor, Cond.static yX0_isNumberFor, Cond.code yX0_isNumberFor cX0_isNumberFor 2 (some .boolean), Cond.methodLink RX0 104 yX0_framesNeeded, Cond.static yX0_framesNeeded, Cond.code yX0_framesNeeded cX0_framesNeeded 2 (some .int), Cond.methodLink RX0 81 yX0_addFrame, Cond.instanceMethod yX0_addFrame, Cond.selects RX0 yX0_addFrame yX0_addFrame, Cond.code yX0_addFrame cX0_addFrame 4 (some .int), Cond.methodLink RX0 110 Lib.Math.max.name, Cond.static Lib.Math.max.name, Cond.initialized "java/lang/Math", Cond.code Lib.Math.max.name Lib.Math.max.code 2 (some .int), Cond.methodLink RX0 107 yX0_overrunFramesOfTop, Cond.instanceMethod yX0_overrunFramesOfTop, Cond.selects RX0 yX0_overrunFramesOfTop yX0_overrunFramesOfTop, Cond.code yX0_overrunFramesOfTop cX0_overrunFramesOfTop 3 none, Cond.methodLink RX0 115 yX0_isOverrun, Cond.instanceMethod yX0_isOverrun, Cond.selects RX0 yX0_isOverrun yX0_isOverrun, Cond.code yX0_isOverrun cX0_isOverrun 2 (some .boolean), Cond.methodLink RX0 85 yX0_replaceFunction, Cond.instanceMethod yX0_replaceFunction]
def wsL_law_r6 : List Cond := [Cond.selects RX0 yX0_replaceFunction yX0_replaceFunction, Cond.code yX0_replaceFunction cX0_replaceFunction 3 (some .int), Cond.methodLink RX0 89 yX0_removeFrame, Cond.instanceMethod yX0_removeFrame, Cond.selects RX0 yX0_removeFrame yX0_removeFrame, Cond.code yX0_removeFrame cX0_removeFrame 2 (some .int), Cond.methodLink RX0 119 yX0_outcomeOf, Cond.instanceMethod yX0_outcomeOf, Cond.selects RX0 yX0_outcomeOf yX0_outcomeOf, Cond.code yX0_outcomeOf cX0_outcomeOf 3 (some .int), Cond.methodLink RX0 122 yX0_confess, Cond.instanceMethod yX0_confess, Cond.selects RX0 yX0_confess yX0_confess, Cond.code yX0_confess cX0_confess 6 none, Cond.methodLink RX0 128 Lib.Math.min.name, Cond.static Lib.Math.min.name, Cond.code Lib.Math.min.name Lib.Math.min.code 2 (some .int), Cond.methodLink RX0 125 yX0_slotBefore, Cond.instanceMethod yX0_slotBefore, Cond.selects RX0 yX0_slotBefore yX0_slotBefore, Cond.code yX0_slotBefore cX0_slotBefore 2 (some .int), Cond.methodLink RX0 93 yX0_removeFrames, Cond.instanceMethod yX0_removeFrames, Cond.selects RX0 yX0_removeFrames yX0_removeFrames]
def wsL_law_r7 : List Cond := [Cond.code yX0_removeFrames cX0_removeFrames 3 (some .int), Cond.methodLink RX0 96 yX0_remember, Cond.instanceMethod yX0_remember, Cond.selects RX0 yX0_remember yX0_remember, Cond.code yX0_remember cX0_remember 4 none, Cond.methodLink RX2 37 yX2_record, Cond.instanceMethod yX2_record, Cond.selects RX2 yX2_record yX2_record, Cond.code yX2_record cX2_record 2 none, Cond.fieldLink RX2 56 "ReturnPile" "historyLength" "I", Cond.methodLink RX2 126 yX2_dropOldest, Cond.instanceMethod yX2_dropOldest, Cond.selects RX2 yX2_dropOldest yX2_dropOldest, Cond.code yX2_dropOldest cX2_dropOldest 3 none, Cond.methodLink RL 17 yX3_call, Cond.instanceMethod yX3_call, Cond.selects RX3 yX3_call yX3_call, Cond.code yX3_call cX3_call 7 (some .int), Cond.methodLink RX3 40 yX3_in, Cond.static yX3_in, Cond.code yX3_in cX3_in 3 (some .boolean), Cond.methodLink RX3 44 yX3_acts, Cond.instanceMethod yX3_acts, Cond.selects RX3 yX3_acts yX3_acts]
def wsL_law_r8 : List Cond := [Cond.code yX3_acts cX3_acts 2 none, Cond.fieldLink RX3 32 "ReturnPileModel" "runs" "Z", Cond.fieldLink RX3 36 "ReturnPileModel" "pasts" "I", Cond.methodLink RX3 47 yX3_ofFrame, Cond.instanceMethod yX3_ofFrame, Cond.selects RX3 yX3_ofFrame yX3_ofFrame, Cond.code yX3_ofFrame cX3_ofFrame 3 (some .int), Cond.methodLink RX3 51 yX3_notes, Cond.instanceMethod yX3_notes, Cond.selects RX3 yX3_notes yX3_notes, Cond.code yX3_notes cX3_notes 3 none, Cond.methodLink RL 18 yX2_tail, Cond.instanceMethod yX2_tail, Cond.selects RX2 yX2_tail yX2_tail, Cond.code yX2_tail cX2_tail 2 (some .int), Cond.methodLink RL 22 yX3_tail, Cond.instanceMethod yX3_tail, Cond.selects RX3 yX3_tail yX3_tail, Cond.code yX3_tail cX3_tail 4 (some .int), Cond.methodLink RL 23 yX2_ret, Cond.instanceMethod yX2_ret, Cond.selects RX2 yX2_ret yX2_ret, Cond.code yX2_ret cX2_ret 1 (some .int), Cond.methodLink RL 27 yX3_ret]
def wsL_law_r9 : List Cond := [Cond.instanceMethod yX3_ret, Cond.selects RX3 yX3_ret yX3_ret, Cond.code yX3_ret cX3_ret 2 (some .int), Cond.methodLink RX3 62 yX3_returns, Cond.instanceMethod yX3_returns, Cond.selects RX3 yX3_returns yX3_returns, Cond.code yX3_returns cX3_returns 3 (some .int), Cond.methodLink RX3 55 yX3_ofSlot, Cond.instanceMethod yX3_ofSlot, Cond.selects RX3 yX3_ofSlot yX3_ofSlot, Cond.code yX3_ofSlot cX3_ofSlot 3 (some .int), Cond.methodLink RX3 58 yX3_tells, Cond.instanceMethod yX3_tells, Cond.selects RX3 yX3_tells yX3_tells, Cond.code yX3_tells cX3_tells 5 none, Cond.methodLink RX3 66 yX3_back, Cond.static yX3_back, Cond.code yX3_back cX3_back 3 (some .int), Cond.methodLink RL 28 yX2_raise, Cond.instanceMethod yX2_raise, Cond.selects RX2 yX2_raise yX2_raise, Cond.code yX2_raise cX2_raise 2 (some .int), Cond.methodLink RL 31 yX3_raise, Cond.instanceMethod yX3_raise]
def wsL_law_r10 : List Cond := [Cond.selects RX3 yX3_raise yX3_raise, Cond.code yX3_raise cX3_raise 2 (some .int), Cond.methodLink RL 32 yX2_setRepair, Cond.instanceMethod yX2_setRepair, Cond.selects RX2 yX2_setRepair yX2_setRepair, Cond.code yX2_setRepair cX2_setRepair 3 (some .int), Cond.fieldLink RX2 41 "ReturnPile$State" "repair" "I", Cond.methodLink RL 35 yX3_setRepair, Cond.instanceMethod yX3_setRepair, Cond.selects RX3 yX3_setRepair yX3_setRepair, Cond.code yX3_setRepair cX3_setRepair 3 (some .int), Cond.methodLink RL 36 yX2_begin, Cond.instanceMethod yX2_begin, Cond.selects RX2 yX2_begin yX2_begin, Cond.code yX2_begin cX2_begin 3 (some .int), Cond.fieldLink RX2 49 "ReturnPile$State" "size" "I", Cond.methodLink RX2 45 yX2_isSize, Cond.static yX2_isSize, Cond.code yX2_isSize cX2_isSize 1 (some .boolean), Cond.methodLink RX2 52 yX0_beginAnew, Cond.methodLink RL 39 yX3_begin, Cond.instanceMethod yX3_begin, Cond.selects RX3 yX3_begin yX3_begin, Cond.code yX3_begin cX3_begin 3 (some .int)]
def wsL_law_r11 : List Cond := [Cond.methodLink RL 40 yX2_undo, Cond.instanceMethod yX2_undo, Cond.selects RX2 yX2_undo yX2_undo, Cond.code yX2_undo cX2_undo 1 (some .int), Cond.methodLink RL 43 yX3_undo, Cond.instanceMethod yX3_undo, Cond.selects RX3 yX3_undo yX3_undo, Cond.code yX3_undo cX3_undo 2 (some .int), Cond.methodLink RL 44 yX2_append, Cond.instanceMethod yX2_append, Cond.selects RX2 yX2_append yX2_append, Cond.code yX2_append cX2_append 2 (some .int), Cond.fieldLink RX2 62 "ReturnPile$Text" "length" "I", Cond.methodLink RX2 65 yX1_add, Cond.instanceMethod yX1_add, Cond.selects RX1 yX1_add yX1_add, Cond.code yX1_add cX1_add 2 none, Cond.fieldLink RX1 15 "ReturnPile$Text" "length" "I", Cond.methodLink RL 47 yX3_append, Cond.instanceMethod yX3_append, Cond.selects RX3 yX3_append yX3_append, Cond.code yX3_append cX3_append 2 (some .int), Cond.fieldLink RX3 70 "ReturnPileModel" "typed" "I", Cond.methodLink RL 48 yX2_clearText]
def wsL_law_r12 : List Cond := [Cond.instanceMethod yX2_clearText, Cond.selects RX2 yX2_clearText yX2_clearText, Cond.code yX2_clearText cX2_clearText 2 (some .int), Cond.methodLink RL 51 yX3_clearText, Cond.instanceMethod yX3_clearText, Cond.selects RX3 yX3_clearText yX3_clearText, Cond.code yX3_clearText cX3_clearText 2 (some .int), Cond.methodLink RL 52 yX2_run, Cond.instanceMethod yX2_run, Cond.selects RX2 yX2_run yX2_run, Cond.code yX2_run cX2_run 2 (some .int), Cond.fieldLink RX2 72 "ReturnPile$Text" "place" "I", Cond.methodLink RX2 68 yX2_takeStepsOfText, Cond.instanceMethod yX2_takeStepsOfText, Cond.selects RX2 yX2_takeStepsOfText yX2_takeStepsOfText, Cond.code yX2_takeStepsOfText cX2_takeStepsOfText 2 (some .int), Cond.methodLink RX2 135 yX1_skipSpaces, Cond.instanceMethod yX1_skipSpaces, Cond.selects RX1 yX1_skipSpaces yX1_skipSpaces, Cond.code yX1_skipSpaces cX1_skipSpaces 1 none, Cond.fieldLink RX1 19 "ReturnPile$Text" "place" "I", Cond.methodLink RX2 138 yX1_isAtEnd, Cond.instanceMethod yX1_isAtEnd, Cond.selects RX1 yX1_isAtEnd yX1_isAtEnd]
def wsL_law_r13 : List Cond := [Cond.code yX1_isAtEnd cX1_isAtEnd 1 (some .boolean), Cond.methodLink RX2 142 yX2_takeStepOfText, Cond.instanceMethod yX2_takeStepOfText, Cond.selects RX2 yX2_takeStepOfText yX2_takeStepOfText, Cond.code yX2_takeStepOfText cX2_takeStepOfText 5 (some .boolean), Cond.methodLink RX2 145 yX1_sign, Cond.instanceMethod yX1_sign, Cond.selects RX1 yX1_sign yX1_sign, Cond.code yX1_sign cX1_sign 1 (some .int), Cond.methodLink RX2 148 yX2_kindOf, Cond.static yX2_kindOf, Cond.code yX2_kindOf cX2_kindOf 1 (some .int), Cond.methodLink RX2 151 yX1_readNumber, Cond.instanceMethod yX1_readNumber, Cond.selects RX1 yX1_readNumber yX1_readNumber, Cond.code yX1_readNumber cX1_readNumber 5 (some .int), Cond.methodLink RX1 22 yX1_skipSpaces, Cond.methodLink RX1 29 yX1_isDigit, Cond.static yX1_isDigit, Cond.code yX1_isDigit cX1_isDigit 1 (some .boolean), Cond.methodLink RX2 154 yX1_readSign, Cond.instanceMethod yX1_readSign, Cond.selects RX1 yX1_readSign yX1_readSign, Cond.code yX1_readSign cX1_readSign 2 (some .boolean)]
def wsL_law_r14 : List Cond := [Cond.methodLink RX1 25 yX1_sign, Cond.methodLink RL 55 yX3_run, Cond.instanceMethod yX3_run, Cond.selects RX3 yX3_run yX3_run, Cond.code yX3_run cX3_run 3 (some .int), Cond.fieldLink RX3 73 "ReturnPileModel" "at" "I", Cond.methodLink RX3 76 yX3_skips, Cond.instanceMethod yX3_skips, Cond.selects RX3 yX3_skips yX3_skips, Cond.code yX3_skips cX3_skips 1 none, Cond.methodLink RX3 103 yX3_runsOne, Cond.instanceMethod yX3_runsOne, Cond.selects RX3 yX3_runsOne yX3_runsOne, Cond.code yX3_runsOne cX3_runsOne 5 (some .int), Cond.fieldLink RX3 79 "ReturnPileModel" "read" "I", Cond.methodLink RX3 86 yX3_number, Cond.instanceMethod yX3_number, Cond.selects RX3 yX3_number yX3_number, Cond.code yX3_number cX3_number 3 (some .boolean), Cond.methodLink RX3 82 yX3_isDigit, Cond.instanceMethod yX3_isDigit, Cond.selects RX3 yX3_isDigit yX3_isDigit, Cond.code yX3_isDigit cX3_isDigit 2 (some .boolean), Cond.methodLink RX3 90 yX3_call]
def wsL_law_r15 : List Cond := [Cond.methodLink RX3 93 yX3_tail, Cond.methodLink RX3 97 yX3_ret, Cond.methodLink RX3 100 yX3_raise, Cond.methodLink RX3 106 yX3_exchanges, Cond.instanceMethod yX3_exchanges, Cond.selects RX3 yX3_exchanges yX3_exchanges, Cond.code yX3_exchanges cX3_exchanges 3 none, Cond.methodLink RL 56 yX2_count, Cond.instanceMethod yX2_count, Cond.selects RX2 yX2_count yX2_count, Cond.code yX2_count cX2_count 2 (some .int), Cond.fieldLink RX2 75 "ReturnPile$State" "height" "I", Cond.fieldLink RX2 78 "ReturnPile$State" "stepCount" "I", Cond.fieldLink RX2 81 "ReturnPile$State" "stepsOf" "[I", Cond.fieldLink RX2 85 "ReturnPile$State" "outcomes" "[I", Cond.fieldLink RX2 88 "ReturnPile$State" "confessionCount" "I", Cond.fieldLink RX2 91 "ReturnPile$State" "top" "I", Cond.fieldLink RX2 94 "ReturnPile$State" "greatestHeight" "I", Cond.methodLink RX2 97 yX0_overrunFrames, Cond.instanceMethod yX0_overrunFrames, Cond.selects RX0 yX0_overrunFrames yX0_overrunFrames, Cond.code yX0_overrunFrames cX0_overrunFrames 3 (some .int), Cond.methodLink RL 59 yX3_count, Cond.instanceMethod yX3_count]
def wsL_law_r16 : List Cond := [Cond.selects RX3 yX3_count yX3_count, Cond.code yX3_count cX3_count 2 (some .int), Cond.methodLink RX3 109 yX3_overrun, Cond.instanceMethod yX3_overrun, Cond.selects RX3 yX3_overrun yX3_overrun, Cond.code yX3_overrun cX3_overrun 3 (some .int), Cond.methodLink RL 60 yX2_frame, Cond.instanceMethod yX2_frame, Cond.selects RX2 yX2_frame yX2_frame, Cond.code yX2_frame cX2_frame 3 (some .int), Cond.fieldLink RX2 100 "ReturnPile$State" "frames" "[[I", Cond.methodLink RL 63 yX3_frame, Cond.instanceMethod yX3_frame, Cond.selects RX3 yX3_frame yX3_frame, Cond.code yX3_frame cX3_frame 3 (some .int), Cond.methodLink RX3 112 yX3_isFrame, Cond.instanceMethod yX3_isFrame, Cond.selects RX3 yX3_isFrame yX3_isFrame, Cond.code yX3_isFrame cX3_isFrame 2 (some .boolean), Cond.methodLink RL 64 yX2_slot, Cond.instanceMethod yX2_slot, Cond.selects RX2 yX2_slot yX2_slot, Cond.code yX2_slot cX2_slot 3 (some .int), Cond.fieldLink RX2 104 "ReturnPile$State" "slots" "[[I"]
def wsL_law_r17 : List Cond := [Cond.methodLink RL 67 yX3_slot, Cond.instanceMethod yX3_slot, Cond.selects RX3 yX3_slot yX3_slot, Cond.code yX3_slot cX3_slot 3 (some .int), Cond.methodLink RL 68 yX2_confession, Cond.instanceMethod yX2_confession, Cond.selects RX2 yX2_confession yX2_confession, Cond.code yX2_confession cX2_confession 3 (some .int), Cond.fieldLink RX2 107 "ReturnPile$State" "confessions" "[[I", Cond.methodLink RL 71 yX3_confession, Cond.instanceMethod yX3_confession, Cond.selects RX3 yX3_confession yX3_confession, Cond.code yX3_confession cX3_confession 3 (some .int), Cond.methodLink RL 72 yX2_named, Cond.instanceMethod yX2_named, Cond.selects RX2 yX2_named yX2_named, Cond.code yX2_named cX2_named 2 (some .int), Cond.fieldLink RX2 110 "ReturnPile$State" "timesNamed" "[I", Cond.methodLink RL 75 yX3_named, Cond.instanceMethod yX3_named, Cond.selects RX3 yX3_named yX3_named, Cond.code yX3_named cX3_named 2 (some .int), Cond.methodLink RL 76 yX2_worst, Cond.instanceMethod yX2_worst]
def wsL_law_r18 : List Cond := [Cond.selects RX2 yX2_worst yX2_worst, Cond.code yX2_worst cX2_worst 4 (some .int), Cond.methodLink RL 79 yX3_worst, Cond.instanceMethod yX3_worst, Cond.selects RX3 yX3_worst yX3_worst, Cond.code yX3_worst cX3_worst 4 (some .int), Cond.methodLink RL 80 yX2_ahead, Cond.instanceMethod yX2_ahead, Cond.selects RX2 yX2_ahead yX2_ahead, Cond.code yX2_ahead cX2_ahead 4 (some .int), Cond.methodLink RX2 113 yX0_hitsAhead, Cond.instanceMethod yX0_hitsAhead, Cond.selects RX0 yX0_hitsAhead yX0_hitsAhead, Cond.code yX0_hitsAhead cX0_hitsAhead 6 (some .int), Cond.methodLink RL 83 yX3_ahead, Cond.instanceMethod yX3_ahead, Cond.selects RX3 yX3_ahead yX3_ahead, Cond.code yX3_ahead cX3_ahead 5 (some .int), Cond.methodLink RL 84 yX2_missesWith, Cond.instanceMethod yX2_missesWith, Cond.selects RX2 yX2_missesWith yX2_missesWith, Cond.code yX2_missesWith cX2_missesWith 2 (some .int), Cond.methodLink RX2 117 yX2_missesInTrial, Cond.instanceMethod yX2_missesInTrial]
def wsL_law_r19 : List Cond := [Cond.selects RX2 yX2_missesInTrial yX2_missesInTrial, Cond.code yX2_missesInTrial cX2_missesInTrial 3 (some .int), Cond.fieldLink RX2 129 "ReturnPile$State" "steps" "[[I", Cond.methodLink RX2 132 yX0_misses, Cond.instanceMethod yX0_misses, Cond.selects RX0 yX0_misses yX0_misses, Cond.code yX0_misses cX0_misses 1 (some .int), Cond.methodLink RL 87 yX3_missesWith, Cond.instanceMethod yX3_missesWith, Cond.selects RX3 yX3_missesWith yX3_missesWith, Cond.code yX3_missesWith cX3_missesWith 2 (some .int), Cond.methodLink RX3 115 yX3_misses, Cond.instanceMethod yX3_misses, Cond.selects RX3 yX3_misses yX3_misses, Cond.code yX3_misses cX3_misses 8 (some .int), Cond.methodLink RL 88 yX2_bestSize, Cond.instanceMethod yX2_bestSize, Cond.selects RX2 yX2_bestSize yX2_bestSize, Cond.code yX2_bestSize cX2_bestSize 5 (some .int), Cond.methodLink RL 91 yX3_bestSize, Cond.instanceMethod yX3_bestSize, Cond.selects RX3 yX3_bestSize yX3_bestSize, Cond.code yX3_bestSize cX3_bestSize 3 (some .int), Cond.methodLink RL 92 yX2_callsUntil]
def wsL_law_r20 : List Cond := [Cond.instanceMethod yX2_callsUntil, Cond.selects RX2 yX2_callsUntil yX2_callsUntil, Cond.code yX2_callsUntil cX2_callsUntil 4 (some .int), Cond.methodLink RX2 120 yX0_isOverrun, Cond.methodLink RL 95 yX3_callsUntil, Cond.instanceMethod yX3_callsUntil, Cond.selects RX3 yX3_callsUntil yX3_callsUntil, Cond.code yX3_callsUntil cX3_callsUntil 4 (some .int)]
def wsL_law : List Cond := (wsL_law_r1 ++ (wsL_law_r2 ++ (wsL_law_r3 ++ (wsL_law_r4 ++ (wsL_law_r5 ++ (wsL_law_r6 ++ (wsL_law_r7 ++ (wsL_law_r8 ++ (wsL_law_r9 ++ (wsL_law_r10 ++ (wsL_law_r11 ++ (wsL_law_r12 ++ (wsL_law_r13 ++ (wsL_law_r14 ++ (wsL_law_r15 ++ (wsL_law_r16 ++ (wsL_law_r17 ++ (wsL_law_r18 ++ (wsL_law_r19 ++ wsL_law_r20))))))))))))))))))) ++ wsX20 ++ wsX30 ++ wsX00 ++ wsX10 ++ ([] : List Cond)
end
section
set_option maxRecDepth 20000 in
theorem qz_in {big : List Cond} (ws : List Cond) (ps : List Nat) (hp : ws = ps.filterMap (fun i => big[i]?)) : ∀ w ∈ ws, w ∈ big := by
  intro w hw
  rw [hp] at hw
  obtain ⟨i, -, hi⟩ := List.mem_filterMap.mp hw
  exact List.mem_of_getElem? hi
set_option maxRecDepth 20000 in
theorem qz_wsL_law_r1_in : ∀ w ∈ wsL_law_r1, w ∈ lw_tbl := qz_in _ [39, 40, 32, 381, 382, 36, 41, 42, 43, 44, 45, 46, 47, 48, 33, 139, 140, 141, 142, 121, 122, 35, 144, 49] (by decide +kernel)
set_option maxRecDepth 20000 in
theorem qz_wsL_law_r2_in : ∀ w ∈ wsL_law_r2, w ∈ lw_tbl := qz_in _ [50, 51, 52, 119, 76, 78, 80, 53, 82, 84, 86, 88, 55, 56, 57, 58, 64, 66, 68, 70, 72, 74, 59, 60] (by decide +kernel)
set_option maxRecDepth 20000 in
theorem qz_wsL_law_r3_in : ∀ w ∈ wsL_law_r3, w ∈ lw_tbl := qz_in _ [34, 61, 124, 125, 126, 127, 383, 384, 385, 386, 391, 392, 393, 396, 400, 401, 387, 389, 16, 390, 158, 159, 160, 161] (by decide +kernel)
set_option maxRecDepth 20000 in
theorem qz_wsL_law_r4_in : ∀ w ∈ wsL_law_r4, w ∈ lw_tbl := qz_in _ [162, 164, 0, 165, 166, 167, 168, 169, 62, 170, 172, 171, 37, 173, 174, 175, 176, 177, 178, 179, 180, 182, 1, 183] (by decide +kernel)
set_option maxRecDepth 20000 in
theorem qz_wsL_law_r5_in : ∀ w ∈ wsL_law_r5, w ∈ lw_tbl := qz_in _ [184, 185, 186, 187, 188, 189, 190, 192, 2, 193, 202, 203, 38, 204, 194, 196, 3, 197, 198, 199, 200, 201, 205, 207] (by decide +kernel)
set_option maxRecDepth 20000 in
theorem qz_wsL_law_r6_in : ∀ w ∈ wsL_law_r6, w ∈ lw_tbl := qz_in _ [4, 208, 209, 211, 5, 212, 213, 215, 6, 216, 217, 219, 7, 220, 221, 222, 223, 224, 226, 8, 227, 228, 230, 9] (by decide +kernel)
set_option maxRecDepth 20000 in
theorem qz_wsL_law_r7_in : ∀ w ∈ wsL_law_r7, w ∈ lw_tbl := qz_in _ [231, 232, 234, 10, 235, 236, 238, 11, 239, 143, 240, 242, 12, 243, 425, 426, 427, 428, 429, 430, 431, 432, 434, 17] (by decide +kernel)
set_option maxRecDepth 20000 in
theorem qz_wsL_law_r8_in : ∀ w ∈ wsL_law_r8, w ∈ lw_tbl := qz_in _ [435, 395, 394, 436, 438, 18, 439, 440, 442, 19, 443, 244, 245, 246, 247, 444, 445, 446, 447, 248, 249, 250, 251, 448] (by decide +kernel)
set_option maxRecDepth 20000 in
theorem qz_wsL_law_r9_in : ∀ w ∈ wsL_law_r9, w ∈ lw_tbl := qz_in _ [449, 450, 451, 452, 454, 20, 455, 456, 458, 21, 459, 460, 462, 22, 463, 464, 465, 466, 252, 253, 254, 255, 467, 468] (by decide +kernel)
set_option maxRecDepth 20000 in
theorem qz_wsL_law_r10_in : ∀ w ∈ wsL_law_r10, w ∈ lw_tbl := qz_in _ [469, 470, 256, 257, 258, 259, 63, 471, 472, 473, 474, 260, 261, 262, 263, 65, 264, 265, 266, 267, 475, 476, 477, 478] (by decide +kernel)
set_option maxRecDepth 20000 in
theorem qz_wsL_law_r11_in : ∀ w ∈ wsL_law_r11, w ∈ lw_tbl := qz_in _ [268, 269, 270, 271, 479, 480, 481, 482, 272, 273, 274, 275, 129, 276, 277, 278, 279, 128, 483, 484, 485, 486, 397, 280] (by decide +kernel)
set_option maxRecDepth 20000 in
theorem qz_wsL_law_r12_in : ∀ w ∈ wsL_law_r12, w ∈ lw_tbl := qz_in _ [281, 282, 283, 487, 488, 489, 490, 284, 285, 286, 287, 131, 288, 290, 13, 291, 292, 293, 294, 295, 130, 296, 297, 298] (by decide +kernel)
set_option maxRecDepth 20000 in
theorem qz_wsL_law_r13_in : ∀ w ∈ wsL_law_r13, w ∈ lw_tbl := qz_in _ [299, 300, 302, 14, 303, 304, 305, 306, 307, 308, 309, 310, 311, 312, 313, 314, 315, 316, 317, 318, 319, 320, 321, 322] (by decide +kernel)
set_option maxRecDepth 20000 in
theorem qz_wsL_law_r14_in : ∀ w ∈ wsL_law_r14, w ∈ lw_tbl := qz_in _ [323, 491, 492, 493, 494, 398, 495, 497, 23, 498, 499, 501, 24, 502, 399, 503, 505, 25, 506, 507, 509, 26, 510, 511] (by decide +kernel)
set_option maxRecDepth 20000 in
theorem qz_wsL_law_r15_in : ∀ w ∈ wsL_law_r15, w ∈ lw_tbl := qz_in _ [512, 513, 514, 515, 517, 27, 518, 324, 325, 326, 327, 69, 73, 77, 79, 75, 67, 71, 328, 329, 330, 331, 519, 520] (by decide +kernel)
set_option maxRecDepth 20000 in
theorem qz_wsL_law_r16_in : ∀ w ∈ wsL_law_r16, w ∈ lw_tbl := qz_in _ [521, 522, 523, 525, 28, 526, 332, 333, 334, 335, 83, 527, 528, 529, 530, 531, 533, 29, 534, 336, 337, 338, 339, 85] (by decide +kernel)
set_option maxRecDepth 20000 in
theorem qz_wsL_law_r17_in : ∀ w ∈ wsL_law_r17, w ∈ lw_tbl := qz_in _ [535, 536, 537, 538, 340, 341, 342, 343, 89, 539, 540, 541, 542, 344, 345, 346, 347, 81, 543, 544, 545, 546, 348, 349] (by decide +kernel)
set_option maxRecDepth 20000 in
theorem qz_wsL_law_r18_in : ∀ w ∈ wsL_law_r18, w ∈ lw_tbl := qz_in _ [350, 351, 547, 548, 549, 550, 352, 353, 354, 355, 356, 357, 358, 359, 551, 552, 553, 554, 360, 361, 362, 363, 364, 366] (by decide +kernel)
set_option maxRecDepth 20000 in
theorem qz_wsL_law_r19_in : ∀ w ∈ wsL_law_r19, w ∈ lw_tbl := qz_in _ [15, 367, 87, 368, 369, 370, 371, 555, 556, 557, 558, 559, 561, 30, 562, 372, 373, 374, 375, 563, 564, 565, 566, 376] (by decide +kernel)
set_option maxRecDepth 20000 in
theorem qz_wsL_law_r20_in : ∀ w ∈ wsL_law_r20, w ∈ lw_tbl := qz_in _ [377, 378, 379, 380, 567, 568, 569, 570] (by decide +kernel)
set_option maxRecDepth 20000 in
theorem qz_wsX20_in : ∀ w ∈ wsX20, w ∈ lw_tbl := qz_in _ [145, 147, 149, 151, 153, 155] (by decide +kernel)
set_option maxRecDepth 20000 in
theorem qz_wsX30_in : ∀ w ∈ wsX30, w ∈ lw_tbl := qz_in _ [402, 404, 406, 408, 410, 412, 414, 416, 418, 420, 422] (by decide +kernel)
set_option maxRecDepth 20000 in
theorem qz_wsX00_in : ∀ w ∈ wsX00, w ∈ lw_tbl := qz_in _ [90, 92, 94, 96, 98, 100, 102, 104, 106, 108, 110, 112, 114, 116] (by decide +kernel)
set_option maxRecDepth 20000 in
theorem qz_wsX10_in : ∀ w ∈ wsX10, w ∈ lw_tbl := qz_in _ [132, 134, 136] (by decide +kernel)
theorem wsL_law_in : ∀ w ∈ wsL_law, w ∈ lw_tbl := (fun w h => (List.mem_append.mp h).elim ((fun w h => (List.mem_append.mp h).elim ((fun w h => (List.mem_append.mp h).elim ((fun w h => (List.mem_append.mp h).elim ((fun w h => (List.mem_append.mp h).elim ((fun w h => (List.mem_append.mp h).elim (qz_wsL_law_r1_in w) ((fun w h => (List.mem_append.mp h).elim (qz_wsL_law_r2_in w) ((fun w h => (List.mem_append.mp h).elim (qz_wsL_law_r3_in w) ((fun w h => (List.mem_append.mp h).elim (qz_wsL_law_r4_in w) ((fun w h => (List.mem_append.mp h).elim (qz_wsL_law_r5_in w) ((fun w h => (List.mem_append.mp h).elim (qz_wsL_law_r6_in w) ((fun w h => (List.mem_append.mp h).elim (qz_wsL_law_r7_in w) ((fun w h => (List.mem_append.mp h).elim (qz_wsL_law_r8_in w) ((fun w h => (List.mem_append.mp h).elim (qz_wsL_law_r9_in w) ((fun w h => (List.mem_append.mp h).elim (qz_wsL_law_r10_in w) ((fun w h => (List.mem_append.mp h).elim (qz_wsL_law_r11_in w) ((fun w h => (List.mem_append.mp h).elim (qz_wsL_law_r12_in w) ((fun w h => (List.mem_append.mp h).elim (qz_wsL_law_r13_in w) ((fun w h => (List.mem_append.mp h).elim (qz_wsL_law_r14_in w) ((fun w h => (List.mem_append.mp h).elim (qz_wsL_law_r15_in w) ((fun w h => (List.mem_append.mp h).elim (qz_wsL_law_r16_in w) ((fun w h => (List.mem_append.mp h).elim (qz_wsL_law_r17_in w) ((fun w h => (List.mem_append.mp h).elim (qz_wsL_law_r18_in w) ((fun w h => (List.mem_append.mp h).elim (qz_wsL_law_r19_in w) (qz_wsL_law_r20_in w)) w)) w)) w)) w)) w)) w)) w)) w)) w)) w)) w)) w)) w)) w)) w)) w)) w)) w)) w) (qz_wsX20_in w)) w) (qz_wsX30_in w)) w) (qz_wsX00_in w)) w) (qz_wsX10_in w)) w) ((fun w h => absurd h List.not_mem_nil) w))
theorem inlX0 : ∀ w ∈ wsX00, w ∈ wsL_law := fun _ h => List.mem_append_left _ (List.mem_append_left _ (List.mem_append_right _ h))
theorem inX0 : ∀ w ∈ wsX00, w ∈ lw_tbl := fun w h => wsL_law_in w (inlX0 w h)
theorem inlX1 : ∀ w ∈ wsX10, w ∈ wsL_law := fun _ h => List.mem_append_left _ (List.mem_append_right _ h)
theorem inX1 : ∀ w ∈ wsX10, w ∈ lw_tbl := fun w h => wsL_law_in w (inlX1 w h)
theorem inlX2 : ∀ w ∈ wsX20, w ∈ wsL_law := fun _ h => List.mem_append_left _ (List.mem_append_left _ (List.mem_append_left _ (List.mem_append_left _ (List.mem_append_right _ h))))
theorem inX2 : ∀ w ∈ wsX20, w ∈ lw_tbl := fun w h => wsL_law_in w (inlX2 w h)
theorem inlX3 : ∀ w ∈ wsX30, w ∈ wsL_law := fun _ h => List.mem_append_left _ (List.mem_append_left _ (List.mem_append_left _ (List.mem_append_right _ h)))
theorem inX3 : ∀ w ∈ wsX30, w ∈ lw_tbl := fun w h => wsL_law_in w (inlX3 w h)
theorem inJ9 : ∀ w ∈ wsJ90, w ∈ lw_tbl := by decide +kernel
theorem inJ10 : ∀ w ∈ wsJ100, w ∈ lw_tbl := by decide +kernel
theorem inJ7 : ∀ w ∈ wsJ70, w ∈ lw_tbl := by decide +kernel
end
section
set_option maxRecDepth 20000 in
theorem ggX0_init_X0_beginAnew : GoodIn wsX0_init wsX0_beginAnew := goodIn_r _ [17, 18, 19, 20, 21, 22, 23, 5, 6, 7, 10, 24, 25, 26, 27, 28, 29, 30, 31, 32, 33, 34, 35, 36, 37, 38, 39, 40, 41] (by decide +kernel) (by decide +kernel)
set_option maxRecDepth 20000 in
theorem gX0_init_X0_beginAnew : GoodIn wsX0_init (wsV RX0 35 RX0 yX0_beginAnew wsX0_beginAnew) := goodIn_app (goodIn_of _ (by decide +kernel)) ggX0_init_X0_beginAnew
theorem dX0_init_0 : decode cX0_init 0 = .ok (.aload_n 0, 1) := by decide +kernel
theorem dX0_init_1 : decode cX0_init 1 = .ok (.invokespecial 3, 3) := by decide +kernel
theorem dX0_init_4 : decode cX0_init 4 = .ok (.aload_n 0, 1) := by decide +kernel
theorem dX0_init_5 : decode cX0_init 5 = .ok (.iconst 4, 1) := by decide +kernel
theorem dX0_init_6 : decode cX0_init 6 = .ok (.newarray .int, 2) := by decide +kernel
theorem dX0_init_8 : decode cX0_init 8 = .ok (.putfield 9, 3) := by decide +kernel
theorem dX0_init_11 : decode cX0_init 11 = .ok (.aload_n 0, 1) := by decide +kernel
theorem dX0_init_12 : decode cX0_init 12 = .ok (.iconst 4, 1) := by decide +kernel
theorem dX0_init_13 : decode cX0_init 13 = .ok (.newarray .int, 2) := by decide +kernel
theorem dX0_init_15 : decode cX0_init 15 = .ok (.putfield 15, 3) := by decide +kernel
theorem dX0_init_18 : decode cX0_init 18 = .ok (.aload_n 0, 1) := by decide +kernel
theorem dX0_init_19 : decode cX0_init 19 = .ok (.sipush 200, 3) := by decide +kernel
theorem dX0_init_22 : decode cX0_init 22 = .ok (.newarray .int, 2) := by decide +kernel
theorem dX0_init_24 : decode cX0_init 24 = .ok (.putfield 18, 3) := by decide +kernel
theorem dX0_init_27 : decode cX0_init 27 = .ok (.aload_n 0, 1) := by decide +kernel
theorem dX0_init_28 : decode cX0_init 28 = .ok (.iconst 5, 1) := by decide +kernel
theorem dX0_init_29 : decode cX0_init 29 = .ok (.bipush 40, 2) := by decide +kernel
theorem dX0_init_31 : decode cX0_init 31 = .ok (.multianewarray 21 2, 4) := by decide +kernel
theorem dX0_init_35 : decode cX0_init 35 = .ok (.putfield 23, 3) := by decide +kernel
theorem dX0_init_38 : decode cX0_init 38 = .ok (.aload_n 0, 1) := by decide +kernel
theorem dX0_init_39 : decode cX0_init 39 = .ok (.iconst 3, 1) := by decide +kernel
theorem dX0_init_40 : decode cX0_init 40 = .ok (.bipush 16, 2) := by decide +kernel
theorem dX0_init_42 : decode cX0_init 42 = .ok (.multianewarray 21 2, 4) := by decide +kernel
theorem dX0_init_46 : decode cX0_init 46 = .ok (.putfield 26, 3) := by decide +kernel
theorem dX0_init_49 : decode cX0_init 49 = .ok (.aload_n 0, 1) := by decide +kernel
theorem dX0_init_50 : decode cX0_init 50 = .ok (.iconst 3, 1) := by decide +kernel
theorem dX0_init_51 : decode cX0_init 51 = .ok (.sipush 200, 3) := by decide +kernel
theorem dX0_init_54 : decode cX0_init 54 = .ok (.multianewarray 21 2, 4) := by decide +kernel
theorem dX0_init_58 : decode cX0_init 58 = .ok (.putfield 29, 3) := by decide +kernel
theorem dX0_init_61 : decode cX0_init 61 = .ok (.aload_n 0, 1) := by decide +kernel
theorem dX0_init_62 : decode cX0_init 62 = .ok (.bipush 6, 2) := by decide +kernel
theorem dX0_init_64 : decode cX0_init 64 = .ok (.bipush 12, 2) := by decide +kernel
theorem dX0_init_66 : decode cX0_init 66 = .ok (.multianewarray 21 2, 4) := by decide +kernel
theorem dX0_init_70 : decode cX0_init 70 = .ok (.putfield 32, 3) := by decide +kernel
theorem dX0_init_73 : decode cX0_init 73 = .ok (.aload_n 0, 1) := by decide +kernel
theorem dX0_init_74 : decode cX0_init 74 = .ok (.bipush 8, 2) := by decide +kernel
theorem dX0_init_76 : decode cX0_init 76 = .ok (.invokevirtual 35, 3) := by decide +kernel
theorem dX0_init_79 : decode cX0_init 79 = .ok (.return_, 1) := by decide +kernel
set_option maxRecDepth 20000 in
theorem ggX0_beginAnew_J7_fill_53178 : GoodIn wsX0_beginAnew wsJ7_fill_53178 := goodIn_r _ [14] (by decide +kernel) (by decide +kernel)
set_option maxRecDepth 20000 in
theorem gX0_beginAnew_J7_fill_53178 : GoodIn wsX0_beginAnew (va_wsS RX0 58 yJ7_fill_53178 wsJ7_fill_53178) := goodIn_app (goodIn_of _ (by decide +kernel)) ggX0_beginAnew_J7_fill_53178
theorem dX0_beginAnew_0 : decode cX0_beginAnew 0 = .ok (.aload_n 0, 1) := by decide +kernel
theorem dX0_beginAnew_1 : decode cX0_beginAnew 1 = .ok (.iload_n 1, 1) := by decide +kernel
theorem dX0_beginAnew_2 : decode cX0_beginAnew 2 = .ok (.putfield 39, 3) := by decide +kernel
theorem dX0_beginAnew_5 : decode cX0_beginAnew 5 = .ok (.aload_n 0, 1) := by decide +kernel
theorem dX0_beginAnew_6 : decode cX0_beginAnew 6 = .ok (.iload_n 1, 1) := by decide +kernel
theorem dX0_beginAnew_7 : decode cX0_beginAnew 7 = .ok (.iconst 1, 1) := by decide +kernel
theorem dX0_beginAnew_8 : decode cX0_beginAnew 8 = .ok (.isub, 1) := by decide +kernel
theorem dX0_beginAnew_9 : decode cX0_beginAnew 9 = .ok (.putfield 43, 3) := by decide +kernel
theorem dX0_beginAnew_12 : decode cX0_beginAnew 12 = .ok (.aload_n 0, 1) := by decide +kernel
theorem dX0_beginAnew_13 : decode cX0_beginAnew 13 = .ok (.iconst 0, 1) := by decide +kernel
theorem dX0_beginAnew_14 : decode cX0_beginAnew 14 = .ok (.putfield 46, 3) := by decide +kernel
theorem dX0_beginAnew_17 : decode cX0_beginAnew 17 = .ok (.aload_n 0, 1) := by decide +kernel
theorem dX0_beginAnew_18 : decode cX0_beginAnew 18 = .ok (.iconst 0, 1) := by decide +kernel
theorem dX0_beginAnew_19 : decode cX0_beginAnew 19 = .ok (.putfield 49, 3) := by decide +kernel
theorem dX0_beginAnew_22 : decode cX0_beginAnew 22 = .ok (.aload_n 0, 1) := by decide +kernel
theorem dX0_beginAnew_23 : decode cX0_beginAnew 23 = .ok (.iconst 0, 1) := by decide +kernel
theorem dX0_beginAnew_24 : decode cX0_beginAnew 24 = .ok (.putfield 52, 3) := by decide +kernel
theorem dX0_beginAnew_27 : decode cX0_beginAnew 27 = .ok (.aload_n 0, 1) := by decide +kernel
theorem dX0_beginAnew_28 : decode cX0_beginAnew 28 = .ok (.iconst 0, 1) := by decide +kernel
theorem dX0_beginAnew_29 : decode cX0_beginAnew 29 = .ok (.putfield 55, 3) := by decide +kernel
theorem dX0_beginAnew_32 : decode cX0_beginAnew 32 = .ok (.aload_n 0, 1) := by decide +kernel
theorem dX0_beginAnew_33 : decode cX0_beginAnew 33 = .ok (.getfield 9, 3) := by decide +kernel
theorem dX0_beginAnew_36 : decode cX0_beginAnew 36 = .ok (.iconst 0, 1) := by decide +kernel
theorem dX0_beginAnew_37 : decode cX0_beginAnew 37 = .ok (.invokestatic 58, 3) := by decide +kernel
theorem dX0_beginAnew_40 : decode cX0_beginAnew 40 = .ok (.aload_n 0, 1) := by decide +kernel
theorem dX0_beginAnew_41 : decode cX0_beginAnew 41 = .ok (.getfield 15, 3) := by decide +kernel
theorem dX0_beginAnew_44 : decode cX0_beginAnew 44 = .ok (.iconst 0, 1) := by decide +kernel
theorem dX0_beginAnew_45 : decode cX0_beginAnew 45 = .ok (.invokestatic 58, 3) := by decide +kernel
theorem dX0_beginAnew_48 : decode cX0_beginAnew 48 = .ok (.aload_n 0, 1) := by decide +kernel
theorem dX0_beginAnew_49 : decode cX0_beginAnew 49 = .ok (.getfield 18, 3) := by decide +kernel
theorem dX0_beginAnew_52 : decode cX0_beginAnew 52 = .ok (.iconst 0, 1) := by decide +kernel
theorem dX0_beginAnew_53 : decode cX0_beginAnew 53 = .ok (.invokestatic 58, 3) := by decide +kernel
theorem dX0_beginAnew_56 : decode cX0_beginAnew 56 = .ok (.aload_n 0, 1) := by decide +kernel
theorem dX0_beginAnew_57 : decode cX0_beginAnew 57 = .ok (.getfield 26, 3) := by decide +kernel
theorem dX0_beginAnew_60 : decode cX0_beginAnew 60 = .ok (.iconst 0, 1) := by decide +kernel
theorem dX0_beginAnew_61 : decode cX0_beginAnew 61 = .ok (.aaload, 1) := by decide +kernel
theorem dX0_beginAnew_62 : decode cX0_beginAnew 62 = .ok (.bipush (-9), 2) := by decide +kernel
theorem dX0_beginAnew_64 : decode cX0_beginAnew 64 = .ok (.invokestatic 58, 3) := by decide +kernel
theorem dX0_beginAnew_67 : decode cX0_beginAnew 67 = .ok (.aload_n 0, 1) := by decide +kernel
theorem dX0_beginAnew_68 : decode cX0_beginAnew 68 = .ok (.getfield 26, 3) := by decide +kernel
theorem dX0_beginAnew_71 : decode cX0_beginAnew 71 = .ok (.iconst 1, 1) := by decide +kernel
theorem dX0_beginAnew_72 : decode cX0_beginAnew 72 = .ok (.aaload, 1) := by decide +kernel
theorem dX0_beginAnew_73 : decode cX0_beginAnew 73 = .ok (.bipush (-9), 2) := by decide +kernel
theorem dX0_beginAnew_75 : decode cX0_beginAnew 75 = .ok (.invokestatic 58, 3) := by decide +kernel
theorem dX0_beginAnew_78 : decode cX0_beginAnew 78 = .ok (.aload_n 0, 1) := by decide +kernel
theorem dX0_beginAnew_79 : decode cX0_beginAnew 79 = .ok (.getfield 26, 3) := by decide +kernel
theorem dX0_beginAnew_82 : decode cX0_beginAnew 82 = .ok (.iconst 2, 1) := by decide +kernel
theorem dX0_beginAnew_83 : decode cX0_beginAnew 83 = .ok (.aaload, 1) := by decide +kernel
theorem dX0_beginAnew_84 : decode cX0_beginAnew 84 = .ok (.iconst 0, 1) := by decide +kernel
theorem dX0_beginAnew_85 : decode cX0_beginAnew 85 = .ok (.invokestatic 58, 3) := by decide +kernel
theorem dX0_beginAnew_88 : decode cX0_beginAnew 88 = .ok (.return_, 1) := by decide +kernel
set_option maxRecDepth 20000 in
theorem ggX0_copyFrom_X0_copyRows : GoodIn wsX0_copyFrom wsX0_copyRows := goodIn_r _ [22, 9, 10, 11, 12] (by decide +kernel) (by decide +kernel)
set_option maxRecDepth 20000 in
theorem gX0_copyFrom_X0_copyRows : GoodIn wsX0_copyFrom (va_wsS RX0 73 yX0_copyRows wsX0_copyRows) := goodIn_app (goodIn_of _ (by decide +kernel)) ggX0_copyFrom_X0_copyRows
theorem dX0_copyFrom_0 : decode cX0_copyFrom 0 = .ok (.aload_n 0, 1) := by decide +kernel
theorem dX0_copyFrom_1 : decode cX0_copyFrom 1 = .ok (.aload_n 1, 1) := by decide +kernel
theorem dX0_copyFrom_2 : decode cX0_copyFrom 2 = .ok (.getfield 64, 3) := by decide +kernel
theorem dX0_copyFrom_5 : decode cX0_copyFrom 5 = .ok (.putfield 64, 3) := by decide +kernel
theorem dX0_copyFrom_8 : decode cX0_copyFrom 8 = .ok (.aload_n 0, 1) := by decide +kernel
theorem dX0_copyFrom_9 : decode cX0_copyFrom 9 = .ok (.aload_n 1, 1) := by decide +kernel
theorem dX0_copyFrom_10 : decode cX0_copyFrom 10 = .ok (.getfield 39, 3) := by decide +kernel
theorem dX0_copyFrom_13 : decode cX0_copyFrom 13 = .ok (.putfield 39, 3) := by decide +kernel
theorem dX0_copyFrom_16 : decode cX0_copyFrom 16 = .ok (.aload_n 0, 1) := by decide +kernel
theorem dX0_copyFrom_17 : decode cX0_copyFrom 17 = .ok (.aload_n 1, 1) := by decide +kernel
theorem dX0_copyFrom_18 : decode cX0_copyFrom 18 = .ok (.getfield 43, 3) := by decide +kernel
theorem dX0_copyFrom_21 : decode cX0_copyFrom 21 = .ok (.putfield 43, 3) := by decide +kernel
theorem dX0_copyFrom_24 : decode cX0_copyFrom 24 = .ok (.aload_n 0, 1) := by decide +kernel
theorem dX0_copyFrom_25 : decode cX0_copyFrom 25 = .ok (.aload_n 1, 1) := by decide +kernel
theorem dX0_copyFrom_26 : decode cX0_copyFrom 26 = .ok (.getfield 46, 3) := by decide +kernel
theorem dX0_copyFrom_29 : decode cX0_copyFrom 29 = .ok (.putfield 46, 3) := by decide +kernel
theorem dX0_copyFrom_32 : decode cX0_copyFrom 32 = .ok (.aload_n 0, 1) := by decide +kernel
theorem dX0_copyFrom_33 : decode cX0_copyFrom 33 = .ok (.aload_n 1, 1) := by decide +kernel
theorem dX0_copyFrom_34 : decode cX0_copyFrom 34 = .ok (.getfield 49, 3) := by decide +kernel
theorem dX0_copyFrom_37 : decode cX0_copyFrom 37 = .ok (.putfield 49, 3) := by decide +kernel
theorem dX0_copyFrom_40 : decode cX0_copyFrom 40 = .ok (.aload_n 0, 1) := by decide +kernel
theorem dX0_copyFrom_41 : decode cX0_copyFrom 41 = .ok (.aload_n 1, 1) := by decide +kernel
theorem dX0_copyFrom_42 : decode cX0_copyFrom 42 = .ok (.getfield 52, 3) := by decide +kernel
theorem dX0_copyFrom_45 : decode cX0_copyFrom 45 = .ok (.putfield 52, 3) := by decide +kernel
theorem dX0_copyFrom_48 : decode cX0_copyFrom 48 = .ok (.aload_n 0, 1) := by decide +kernel
theorem dX0_copyFrom_49 : decode cX0_copyFrom 49 = .ok (.aload_n 1, 1) := by decide +kernel
theorem dX0_copyFrom_50 : decode cX0_copyFrom 50 = .ok (.getfield 55, 3) := by decide +kernel
theorem dX0_copyFrom_53 : decode cX0_copyFrom 53 = .ok (.putfield 55, 3) := by decide +kernel
theorem dX0_copyFrom_56 : decode cX0_copyFrom 56 = .ok (.aload_n 1, 1) := by decide +kernel
theorem dX0_copyFrom_57 : decode cX0_copyFrom 57 = .ok (.getfield 9, 3) := by decide +kernel
theorem dX0_copyFrom_60 : decode cX0_copyFrom 60 = .ok (.iconst 0, 1) := by decide +kernel
theorem dX0_copyFrom_61 : decode cX0_copyFrom 61 = .ok (.aload_n 0, 1) := by decide +kernel
theorem dX0_copyFrom_62 : decode cX0_copyFrom 62 = .ok (.getfield 9, 3) := by decide +kernel
theorem dX0_copyFrom_65 : decode cX0_copyFrom 65 = .ok (.iconst 0, 1) := by decide +kernel
theorem dX0_copyFrom_66 : decode cX0_copyFrom 66 = .ok (.iconst 4, 1) := by decide +kernel
theorem dX0_copyFrom_67 : decode cX0_copyFrom 67 = .ok (.invokestatic 67, 3) := by decide +kernel
theorem dX0_copyFrom_70 : decode cX0_copyFrom 70 = .ok (.aload_n 1, 1) := by decide +kernel
theorem dX0_copyFrom_71 : decode cX0_copyFrom 71 = .ok (.getfield 15, 3) := by decide +kernel
theorem dX0_copyFrom_74 : decode cX0_copyFrom 74 = .ok (.iconst 0, 1) := by decide +kernel
theorem dX0_copyFrom_75 : decode cX0_copyFrom 75 = .ok (.aload_n 0, 1) := by decide +kernel
theorem dX0_copyFrom_76 : decode cX0_copyFrom 76 = .ok (.getfield 15, 3) := by decide +kernel
theorem dX0_copyFrom_79 : decode cX0_copyFrom 79 = .ok (.iconst 0, 1) := by decide +kernel
theorem dX0_copyFrom_80 : decode cX0_copyFrom 80 = .ok (.iconst 4, 1) := by decide +kernel
theorem dX0_copyFrom_81 : decode cX0_copyFrom 81 = .ok (.invokestatic 67, 3) := by decide +kernel
theorem dX0_copyFrom_84 : decode cX0_copyFrom 84 = .ok (.aload_n 1, 1) := by decide +kernel
theorem dX0_copyFrom_85 : decode cX0_copyFrom 85 = .ok (.getfield 18, 3) := by decide +kernel
theorem dX0_copyFrom_88 : decode cX0_copyFrom 88 = .ok (.iconst 0, 1) := by decide +kernel
theorem dX0_copyFrom_89 : decode cX0_copyFrom 89 = .ok (.aload_n 0, 1) := by decide +kernel
theorem dX0_copyFrom_90 : decode cX0_copyFrom 90 = .ok (.getfield 18, 3) := by decide +kernel
theorem dX0_copyFrom_93 : decode cX0_copyFrom 93 = .ok (.iconst 0, 1) := by decide +kernel
theorem dX0_copyFrom_94 : decode cX0_copyFrom 94 = .ok (.sipush 200, 3) := by decide +kernel
theorem dX0_copyFrom_97 : decode cX0_copyFrom 97 = .ok (.invokestatic 67, 3) := by decide +kernel
theorem dX0_copyFrom_100 : decode cX0_copyFrom 100 = .ok (.aload_n 1, 1) := by decide +kernel
theorem dX0_copyFrom_101 : decode cX0_copyFrom 101 = .ok (.getfield 23, 3) := by decide +kernel
theorem dX0_copyFrom_104 : decode cX0_copyFrom 104 = .ok (.aload_n 0, 1) := by decide +kernel
theorem dX0_copyFrom_105 : decode cX0_copyFrom 105 = .ok (.getfield 23, 3) := by decide +kernel
theorem dX0_copyFrom_108 : decode cX0_copyFrom 108 = .ok (.bipush 40, 2) := by decide +kernel
theorem dX0_copyFrom_110 : decode cX0_copyFrom 110 = .ok (.invokestatic 73, 3) := by decide +kernel
theorem dX0_copyFrom_113 : decode cX0_copyFrom 113 = .ok (.aload_n 1, 1) := by decide +kernel
theorem dX0_copyFrom_114 : decode cX0_copyFrom 114 = .ok (.getfield 26, 3) := by decide +kernel
theorem dX0_copyFrom_117 : decode cX0_copyFrom 117 = .ok (.aload_n 0, 1) := by decide +kernel
theorem dX0_copyFrom_118 : decode cX0_copyFrom 118 = .ok (.getfield 26, 3) := by decide +kernel
theorem dX0_copyFrom_121 : decode cX0_copyFrom 121 = .ok (.bipush 16, 2) := by decide +kernel
theorem dX0_copyFrom_123 : decode cX0_copyFrom 123 = .ok (.invokestatic 73, 3) := by decide +kernel
theorem dX0_copyFrom_126 : decode cX0_copyFrom 126 = .ok (.aload_n 1, 1) := by decide +kernel
theorem dX0_copyFrom_127 : decode cX0_copyFrom 127 = .ok (.getfield 29, 3) := by decide +kernel
theorem dX0_copyFrom_130 : decode cX0_copyFrom 130 = .ok (.aload_n 0, 1) := by decide +kernel
theorem dX0_copyFrom_131 : decode cX0_copyFrom 131 = .ok (.getfield 29, 3) := by decide +kernel
theorem dX0_copyFrom_134 : decode cX0_copyFrom 134 = .ok (.sipush 200, 3) := by decide +kernel
theorem dX0_copyFrom_137 : decode cX0_copyFrom 137 = .ok (.invokestatic 73, 3) := by decide +kernel
theorem dX0_copyFrom_140 : decode cX0_copyFrom 140 = .ok (.aload_n 1, 1) := by decide +kernel
theorem dX0_copyFrom_141 : decode cX0_copyFrom 141 = .ok (.getfield 32, 3) := by decide +kernel
theorem dX0_copyFrom_144 : decode cX0_copyFrom 144 = .ok (.aload_n 0, 1) := by decide +kernel
theorem dX0_copyFrom_145 : decode cX0_copyFrom 145 = .ok (.getfield 32, 3) := by decide +kernel
theorem dX0_copyFrom_148 : decode cX0_copyFrom 148 = .ok (.bipush 12, 2) := by decide +kernel
theorem dX0_copyFrom_150 : decode cX0_copyFrom 150 = .ok (.invokestatic 73, 3) := by decide +kernel
theorem dX0_copyFrom_153 : decode cX0_copyFrom 153 = .ok (.return_, 1) := by decide +kernel
theorem dX0_copyRows_0 : decode cX0_copyRows 0 = .ok (.iconst 0, 1) := by decide +kernel
theorem dX0_copyRows_1 : decode cX0_copyRows 1 = .ok (.istore_n 3, 1) := by decide +kernel
theorem dX0_copyRows_2 : decode cX0_copyRows 2 = .ok (.iload_n 3, 1) := by decide +kernel
theorem dX0_copyRows_3 : decode cX0_copyRows 3 = .ok (.aload_n 1, 1) := by decide +kernel
theorem dX0_copyRows_4 : decode cX0_copyRows 4 = .ok (.arraylength, 1) := by decide +kernel
theorem dX0_copyRows_5 : decode cX0_copyRows 5 = .ok (.if_icmp .ge 21, 3) := by decide +kernel
theorem dX0_copyRows_8 : decode cX0_copyRows 8 = .ok (.aload_n 0, 1) := by decide +kernel
theorem dX0_copyRows_9 : decode cX0_copyRows 9 = .ok (.iload_n 3, 1) := by decide +kernel
theorem dX0_copyRows_10 : decode cX0_copyRows 10 = .ok (.aaload, 1) := by decide +kernel
theorem dX0_copyRows_11 : decode cX0_copyRows 11 = .ok (.iconst 0, 1) := by decide +kernel
theorem dX0_copyRows_12 : decode cX0_copyRows 12 = .ok (.aload_n 1, 1) := by decide +kernel
theorem dX0_copyRows_13 : decode cX0_copyRows 13 = .ok (.iload_n 3, 1) := by decide +kernel
theorem dX0_copyRows_14 : decode cX0_copyRows 14 = .ok (.aaload, 1) := by decide +kernel
theorem dX0_copyRows_15 : decode cX0_copyRows 15 = .ok (.iconst 0, 1) := by decide +kernel
theorem dX0_copyRows_16 : decode cX0_copyRows 16 = .ok (.iload_n 2, 1) := by decide +kernel
theorem dX0_copyRows_17 : decode cX0_copyRows 17 = .ok (.invokestatic 67, 3) := by decide +kernel
theorem dX0_copyRows_20 : decode cX0_copyRows 20 = .ok (.iinc 3 1, 3) := by decide +kernel
theorem dX0_copyRows_23 : decode cX0_copyRows 23 = .ok (.goto (-21), 3) := by decide +kernel
theorem dX0_copyRows_26 : decode cX0_copyRows 26 = .ok (.return_, 1) := by decide +kernel
set_option maxRecDepth 20000 in
theorem ggX0_take_X0_errorOf : GoodIn wsX0_take wsX0_errorOf := goodIn_r _ [5, 6, 7, 8, 9, 4, 10, 11, 12, 13, 77, 78, 79, 80, 81, 82, 83, 84, 85, 86, 87, 88, 89, 90] (by decide +kernel) (by decide +kernel)
set_option maxRecDepth 20000 in
theorem gX0_take_X0_errorOf : GoodIn wsX0_take (wsV RX0 77 RX0 yX0_errorOf wsX0_errorOf) := goodIn_app (goodIn_of _ (by decide +kernel)) ggX0_take_X0_errorOf
set_option maxRecDepth 20000 in
theorem ggX0_take_X0_addFrame : GoodIn wsX0_take wsX0_addFrame := goodIn_r _ [17, 18, 19, 20, 21, 22, 6, 23, 24, 25, 26, 27, 28, 29, 30, 4, 31, 32, 33, 34, 35, 77, 78, 79, 80, 81, 82, 83, 84, 85, 86, 87, 88, 89, 90] (by decide +kernel) (by decide +kernel)
set_option maxRecDepth 20000 in
theorem gX0_take_X0_addFrame : GoodIn wsX0_take (wsV RX0 81 RX0 yX0_addFrame wsX0_addFrame) := goodIn_app (goodIn_of _ (by decide +kernel)) ggX0_take_X0_addFrame
set_option maxRecDepth 20000 in
theorem ggX0_take_X0_replaceFunction : GoodIn wsX0_take wsX0_replaceFunction := goodIn_r _ [39, 22, 6, 77, 78, 79, 80, 81, 82, 83, 84, 85, 86, 87, 88, 89, 90] (by decide +kernel) (by decide +kernel)
set_option maxRecDepth 20000 in
theorem gX0_take_X0_replaceFunction : GoodIn wsX0_take (wsV RX0 85 RX0 yX0_replaceFunction wsX0_replaceFunction) := goodIn_app (goodIn_of _ (by decide +kernel)) ggX0_take_X0_replaceFunction
set_option maxRecDepth 20000 in
theorem ggX0_take_X0_removeFrame : GoodIn wsX0_take wsX0_removeFrame := goodIn_r _ [43, 6, 19, 44, 45, 46, 47, 4, 48, 21, 22, 32, 33, 34, 35, 49, 50, 51, 52, 53, 54, 55, 56, 57, 7, 58, 59, 60, 26, 61, 62, 63, 64, 65, 66, 20, 77, 78, 79, 80, 81, 82, 83, 84, 85, 86, 87, 88, 89, 90] (by decide +kernel) (by decide +kernel)
set_option maxRecDepth 20000 in
theorem gX0_take_X0_removeFrame : GoodIn wsX0_take (wsV RX0 89 RX0 yX0_removeFrame wsX0_removeFrame) := goodIn_app (goodIn_of _ (by decide +kernel)) ggX0_take_X0_removeFrame
set_option maxRecDepth 20000 in
theorem ggX0_take_X0_removeFrames : GoodIn wsX0_take wsX0_removeFrames := goodIn_r _ [70, 6, 71, 19, 63, 64, 65, 4, 66, 20, 77, 78, 79, 80, 81, 82, 83, 84, 85, 86, 87, 88, 89, 90] (by decide +kernel) (by decide +kernel)
set_option maxRecDepth 20000 in
theorem gX0_take_X0_removeFrames : GoodIn wsX0_take (wsV RX0 93 RX0 yX0_removeFrames wsX0_removeFrames) := goodIn_app (goodIn_of _ (by decide +kernel)) ggX0_take_X0_removeFrames
set_option maxRecDepth 20000 in
theorem ggX0_take_X0_remember : GoodIn wsX0_take wsX0_remember := goodIn_r _ [75, 76, 7, 18, 77, 78, 79, 80, 81, 82, 83, 84, 85, 86, 87, 88, 89, 90] (by decide +kernel) (by decide +kernel)
set_option maxRecDepth 20000 in
theorem gX0_take_X0_remember : GoodIn wsX0_take (wsV RX0 96 RX0 yX0_remember wsX0_remember) := goodIn_app (goodIn_of _ (by decide +kernel)) ggX0_take_X0_remember
theorem dX0_take_0 : decode cX0_take 0 = .ok (.aload_n 0, 1) := by decide +kernel
theorem dX0_take_1 : decode cX0_take 1 = .ok (.iload_n 1, 1) := by decide +kernel
theorem dX0_take_2 : decode cX0_take 2 = .ok (.iload_n 2, 1) := by decide +kernel
theorem dX0_take_3 : decode cX0_take 3 = .ok (.iload_n 3, 1) := by decide +kernel
theorem dX0_take_4 : decode cX0_take 4 = .ok (.invokevirtual 77, 3) := by decide +kernel
theorem dX0_take_7 : decode cX0_take 7 = .ok (.istore 4, 2) := by decide +kernel
theorem dX0_take_9 : decode cX0_take 9 = .ok (.iload 4, 2) := by decide +kernel
theorem dX0_take_11 : decode cX0_take 11 = .ok (.ifCond .eq 6, 3) := by decide +kernel
theorem dX0_take_14 : decode cX0_take 14 = .ok (.iload 4, 2) := by decide +kernel
theorem dX0_take_16 : decode cX0_take 16 = .ok (.ireturn, 1) := by decide +kernel
theorem dX0_take_17 : decode cX0_take 17 = .ok (.iload_n 1, 1) := by decide +kernel
theorem dX0_take_18 : decode cX0_take 18 = .ok (.tableswitch 56 0 2 #[26, 37, 47], 26) := by decide +kernel
theorem dX0_take_44 : decode cX0_take 44 = .ok (.aload_n 0, 1) := by decide +kernel
theorem dX0_take_45 : decode cX0_take 45 = .ok (.iload_n 2, 1) := by decide +kernel
theorem dX0_take_46 : decode cX0_take 46 = .ok (.iload_n 3, 1) := by decide +kernel
theorem dX0_take_47 : decode cX0_take 47 = .ok (.invokevirtual 81, 3) := by decide +kernel
theorem dX0_take_50 : decode cX0_take 50 = .ok (.istore 5, 2) := by decide +kernel
theorem dX0_take_52 : decode cX0_take 52 = .ok (.goto 29, 3) := by decide +kernel
theorem dX0_take_55 : decode cX0_take 55 = .ok (.aload_n 0, 1) := by decide +kernel
theorem dX0_take_56 : decode cX0_take 56 = .ok (.iload_n 2, 1) := by decide +kernel
theorem dX0_take_57 : decode cX0_take 57 = .ok (.invokevirtual 85, 3) := by decide +kernel
theorem dX0_take_60 : decode cX0_take 60 = .ok (.istore 5, 2) := by decide +kernel
theorem dX0_take_62 : decode cX0_take 62 = .ok (.goto 19, 3) := by decide +kernel
theorem dX0_take_65 : decode cX0_take 65 = .ok (.aload_n 0, 1) := by decide +kernel
theorem dX0_take_66 : decode cX0_take 66 = .ok (.invokevirtual 89, 3) := by decide +kernel
theorem dX0_take_69 : decode cX0_take 69 = .ok (.istore 5, 2) := by decide +kernel
theorem dX0_take_71 : decode cX0_take 71 = .ok (.goto 10, 3) := by decide +kernel
theorem dX0_take_74 : decode cX0_take 74 = .ok (.aload_n 0, 1) := by decide +kernel
theorem dX0_take_75 : decode cX0_take 75 = .ok (.iload_n 3, 1) := by decide +kernel
theorem dX0_take_76 : decode cX0_take 76 = .ok (.invokevirtual 93, 3) := by decide +kernel
theorem dX0_take_79 : decode cX0_take 79 = .ok (.istore 5, 2) := by decide +kernel
theorem dX0_take_81 : decode cX0_take 81 = .ok (.aload_n 0, 1) := by decide +kernel
theorem dX0_take_82 : decode cX0_take 82 = .ok (.iload_n 1, 1) := by decide +kernel
theorem dX0_take_83 : decode cX0_take 83 = .ok (.iload_n 2, 1) := by decide +kernel
theorem dX0_take_84 : decode cX0_take 84 = .ok (.iload_n 3, 1) := by decide +kernel
theorem dX0_take_85 : decode cX0_take 85 = .ok (.invokevirtual 96, 3) := by decide +kernel
theorem dX0_take_88 : decode cX0_take 88 = .ok (.iload 5, 2) := by decide +kernel
theorem dX0_take_90 : decode cX0_take 90 = .ok (.ireturn, 1) := by decide +kernel
theorem dX0_remember_0 : decode cX0_remember 0 = .ok (.aload_n 0, 1) := by decide +kernel
theorem dX0_remember_1 : decode cX0_remember 1 = .ok (.getfield 29, 3) := by decide +kernel
theorem dX0_remember_4 : decode cX0_remember 4 = .ok (.iconst 0, 1) := by decide +kernel
theorem dX0_remember_5 : decode cX0_remember 5 = .ok (.aaload, 1) := by decide +kernel
theorem dX0_remember_6 : decode cX0_remember 6 = .ok (.aload_n 0, 1) := by decide +kernel
theorem dX0_remember_7 : decode cX0_remember 7 = .ok (.getfield 52, 3) := by decide +kernel
theorem dX0_remember_10 : decode cX0_remember 10 = .ok (.iload_n 1, 1) := by decide +kernel
theorem dX0_remember_11 : decode cX0_remember 11 = .ok (.iastore, 1) := by decide +kernel
theorem dX0_remember_12 : decode cX0_remember 12 = .ok (.aload_n 0, 1) := by decide +kernel
theorem dX0_remember_13 : decode cX0_remember 13 = .ok (.getfield 29, 3) := by decide +kernel
theorem dX0_remember_16 : decode cX0_remember 16 = .ok (.iconst 1, 1) := by decide +kernel
theorem dX0_remember_17 : decode cX0_remember 17 = .ok (.aaload, 1) := by decide +kernel
theorem dX0_remember_18 : decode cX0_remember 18 = .ok (.aload_n 0, 1) := by decide +kernel
theorem dX0_remember_19 : decode cX0_remember 19 = .ok (.getfield 52, 3) := by decide +kernel
theorem dX0_remember_22 : decode cX0_remember 22 = .ok (.iload_n 2, 1) := by decide +kernel
theorem dX0_remember_23 : decode cX0_remember 23 = .ok (.iastore, 1) := by decide +kernel
theorem dX0_remember_24 : decode cX0_remember 24 = .ok (.aload_n 0, 1) := by decide +kernel
theorem dX0_remember_25 : decode cX0_remember 25 = .ok (.getfield 29, 3) := by decide +kernel
theorem dX0_remember_28 : decode cX0_remember 28 = .ok (.iconst 2, 1) := by decide +kernel
theorem dX0_remember_29 : decode cX0_remember 29 = .ok (.aaload, 1) := by decide +kernel
theorem dX0_remember_30 : decode cX0_remember 30 = .ok (.aload_n 0, 1) := by decide +kernel
theorem dX0_remember_31 : decode cX0_remember 31 = .ok (.getfield 52, 3) := by decide +kernel
theorem dX0_remember_34 : decode cX0_remember 34 = .ok (.iload_n 3, 1) := by decide +kernel
theorem dX0_remember_35 : decode cX0_remember 35 = .ok (.iastore, 1) := by decide +kernel
theorem dX0_remember_36 : decode cX0_remember 36 = .ok (.aload_n 0, 1) := by decide +kernel
theorem dX0_remember_37 : decode cX0_remember 37 = .ok (.dup, 1) := by decide +kernel
theorem dX0_remember_38 : decode cX0_remember 38 = .ok (.getfield 52, 3) := by decide +kernel
theorem dX0_remember_41 : decode cX0_remember 41 = .ok (.iconst 1, 1) := by decide +kernel
theorem dX0_remember_42 : decode cX0_remember 42 = .ok (.iadd, 1) := by decide +kernel
theorem dX0_remember_43 : decode cX0_remember 43 = .ok (.putfield 52, 3) := by decide +kernel
theorem dX0_remember_46 : decode cX0_remember 46 = .ok (.aload_n 0, 1) := by decide +kernel
theorem dX0_remember_47 : decode cX0_remember 47 = .ok (.getfield 9, 3) := by decide +kernel
theorem dX0_remember_50 : decode cX0_remember 50 = .ok (.iload_n 1, 1) := by decide +kernel
theorem dX0_remember_51 : decode cX0_remember 51 = .ok (.dup2, 1) := by decide +kernel
theorem dX0_remember_52 : decode cX0_remember 52 = .ok (.iaload, 1) := by decide +kernel
theorem dX0_remember_53 : decode cX0_remember 53 = .ok (.iconst 1, 1) := by decide +kernel
theorem dX0_remember_54 : decode cX0_remember 54 = .ok (.iadd, 1) := by decide +kernel
theorem dX0_remember_55 : decode cX0_remember 55 = .ok (.iastore, 1) := by decide +kernel
theorem dX0_remember_56 : decode cX0_remember 56 = .ok (.return_, 1) := by decide +kernel
set_option maxRecDepth 20000 in
theorem ggX0_errorOf_X0_isNumberFor : GoodIn wsX0_errorOf wsX0_isNumberFor := goodIn_r _ [6] (by decide +kernel) (by decide +kernel)
set_option maxRecDepth 20000 in
theorem gX0_errorOf_X0_isNumberFor : GoodIn wsX0_errorOf (va_wsS RX0 100 yX0_isNumberFor wsX0_isNumberFor) := goodIn_app (goodIn_of _ (by decide +kernel)) ggX0_errorOf_X0_isNumberFor
set_option maxRecDepth 20000 in
theorem ggX0_errorOf_X0_framesNeeded : GoodIn wsX0_errorOf wsX0_framesNeeded := goodIn_r _ [9] (by decide +kernel) (by decide +kernel)
set_option maxRecDepth 20000 in
theorem gX0_errorOf_X0_framesNeeded : GoodIn wsX0_errorOf (va_wsS RX0 104 yX0_framesNeeded wsX0_framesNeeded) := goodIn_app (goodIn_of _ (by decide +kernel)) ggX0_errorOf_X0_framesNeeded
theorem dX0_errorOf_0 : decode cX0_errorOf 0 = .ok (.iload_n 2, 1) := by decide +kernel
theorem dX0_errorOf_1 : decode cX0_errorOf 1 = .ok (.ifCond .lt 17, 3) := by decide +kernel
theorem dX0_errorOf_4 : decode cX0_errorOf 4 = .ok (.iload_n 2, 1) := by decide +kernel
theorem dX0_errorOf_5 : decode cX0_errorOf 5 = .ok (.bipush 15, 2) := by decide +kernel
theorem dX0_errorOf_7 : decode cX0_errorOf 7 = .ok (.if_icmp .gt 11, 3) := by decide +kernel
theorem dX0_errorOf_10 : decode cX0_errorOf 10 = .ok (.iload_n 1, 1) := by decide +kernel
theorem dX0_errorOf_11 : decode cX0_errorOf 11 = .ok (.iload_n 3, 1) := by decide +kernel
theorem dX0_errorOf_12 : decode cX0_errorOf 12 = .ok (.invokestatic 100, 3) := by decide +kernel
theorem dX0_errorOf_15 : decode cX0_errorOf 15 = .ok (.ifCond .ne 5, 3) := by decide +kernel
theorem dX0_errorOf_18 : decode cX0_errorOf 18 = .ok (.iconst (-1), 1) := by decide +kernel
theorem dX0_errorOf_19 : decode cX0_errorOf 19 = .ok (.ireturn, 1) := by decide +kernel
theorem dX0_errorOf_20 : decode cX0_errorOf 20 = .ok (.aload_n 0, 1) := by decide +kernel
theorem dX0_errorOf_21 : decode cX0_errorOf 21 = .ok (.getfield 46, 3) := by decide +kernel
theorem dX0_errorOf_24 : decode cX0_errorOf 24 = .ok (.iload_n 1, 1) := by decide +kernel
theorem dX0_errorOf_25 : decode cX0_errorOf 25 = .ok (.iload_n 3, 1) := by decide +kernel
theorem dX0_errorOf_26 : decode cX0_errorOf 26 = .ok (.invokestatic 104, 3) := by decide +kernel
theorem dX0_errorOf_29 : decode cX0_errorOf 29 = .ok (.if_icmp .ge 6, 3) := by decide +kernel
theorem dX0_errorOf_32 : decode cX0_errorOf 32 = .ok (.bipush (-2), 2) := by decide +kernel
theorem dX0_errorOf_34 : decode cX0_errorOf 34 = .ok (.ireturn, 1) := by decide +kernel
theorem dX0_errorOf_35 : decode cX0_errorOf 35 = .ok (.aload_n 0, 1) := by decide +kernel
theorem dX0_errorOf_36 : decode cX0_errorOf 36 = .ok (.getfield 52, 3) := by decide +kernel
theorem dX0_errorOf_39 : decode cX0_errorOf 39 = .ok (.sipush 200, 3) := by decide +kernel
theorem dX0_errorOf_42 : decode cX0_errorOf 42 = .ok (.if_icmp .ge 16, 3) := by decide +kernel
theorem dX0_errorOf_45 : decode cX0_errorOf 45 = .ok (.iload_n 1, 1) := by decide +kernel
theorem dX0_errorOf_46 : decode cX0_errorOf 46 = .ok (.ifCond .ne 15, 3) := by decide +kernel
theorem dX0_errorOf_49 : decode cX0_errorOf 49 = .ok (.aload_n 0, 1) := by decide +kernel
theorem dX0_errorOf_50 : decode cX0_errorOf 50 = .ok (.getfield 46, 3) := by decide +kernel
theorem dX0_errorOf_53 : decode cX0_errorOf 53 = .ok (.bipush 40, 2) := by decide +kernel
theorem dX0_errorOf_55 : decode cX0_errorOf 55 = .ok (.if_icmp .lt 6, 3) := by decide +kernel
theorem dX0_errorOf_58 : decode cX0_errorOf 58 = .ok (.bipush (-3), 2) := by decide +kernel
theorem dX0_errorOf_60 : decode cX0_errorOf 60 = .ok (.ireturn, 1) := by decide +kernel
theorem dX0_errorOf_61 : decode cX0_errorOf 61 = .ok (.iconst 0, 1) := by decide +kernel
theorem dX0_errorOf_62 : decode cX0_errorOf 62 = .ok (.ireturn, 1) := by decide +kernel
theorem dX0_isNumberFor_0 : decode cX0_isNumberFor 0 = .ok (.iload_n 0, 1) := by decide +kernel
theorem dX0_isNumberFor_1 : decode cX0_isNumberFor 1 = .ok (.ifCond .ne 20, 3) := by decide +kernel
theorem dX0_isNumberFor_4 : decode cX0_isNumberFor 4 = .ok (.iload_n 1, 1) := by decide +kernel
theorem dX0_isNumberFor_5 : decode cX0_isNumberFor 5 = .ok (.ifCond .lt 14, 3) := by decide +kernel
theorem dX0_isNumberFor_8 : decode cX0_isNumberFor 8 = .ok (.iload_n 1, 1) := by decide +kernel
theorem dX0_isNumberFor_9 : decode cX0_isNumberFor 9 = .ok (.sipush 999, 3) := by decide +kernel
theorem dX0_isNumberFor_12 : decode cX0_isNumberFor 12 = .ok (.if_icmp .gt 7, 3) := by decide +kernel
theorem dX0_isNumberFor_15 : decode cX0_isNumberFor 15 = .ok (.iconst 1, 1) := by decide +kernel
theorem dX0_isNumberFor_16 : decode cX0_isNumberFor 16 = .ok (.goto 4, 3) := by decide +kernel
theorem dX0_isNumberFor_19 : decode cX0_isNumberFor 19 = .ok (.iconst 0, 1) := by decide +kernel
theorem dX0_isNumberFor_20 : decode cX0_isNumberFor 20 = .ok (.ireturn, 1) := by decide +kernel
theorem dX0_isNumberFor_21 : decode cX0_isNumberFor 21 = .ok (.iload_n 0, 1) := by decide +kernel
theorem dX0_isNumberFor_22 : decode cX0_isNumberFor 22 = .ok (.iconst 3, 1) := by decide +kernel
theorem dX0_isNumberFor_23 : decode cX0_isNumberFor 23 = .ok (.if_icmp .ne 14, 3) := by decide +kernel
theorem dX0_isNumberFor_26 : decode cX0_isNumberFor 26 = .ok (.iload_n 1, 1) := by decide +kernel
theorem dX0_isNumberFor_27 : decode cX0_isNumberFor 27 = .ok (.iconst 1, 1) := by decide +kernel
theorem dX0_isNumberFor_28 : decode cX0_isNumberFor 28 = .ok (.if_icmp .lt 13, 3) := by decide +kernel
theorem dX0_isNumberFor_31 : decode cX0_isNumberFor 31 = .ok (.iload_n 1, 1) := by decide +kernel
theorem dX0_isNumberFor_32 : decode cX0_isNumberFor 32 = .ok (.bipush 40, 2) := by decide +kernel
theorem dX0_isNumberFor_34 : decode cX0_isNumberFor 34 = .ok (.if_icmp .gt 7, 3) := by decide +kernel
theorem dX0_isNumberFor_37 : decode cX0_isNumberFor 37 = .ok (.iconst 1, 1) := by decide +kernel
theorem dX0_isNumberFor_38 : decode cX0_isNumberFor 38 = .ok (.goto 4, 3) := by decide +kernel
theorem dX0_isNumberFor_41 : decode cX0_isNumberFor 41 = .ok (.iconst 0, 1) := by decide +kernel
theorem dX0_isNumberFor_42 : decode cX0_isNumberFor 42 = .ok (.ireturn, 1) := by decide +kernel
theorem dX0_framesNeeded_0 : decode cX0_framesNeeded 0 = .ok (.iload_n 0, 1) := by decide +kernel
theorem dX0_framesNeeded_1 : decode cX0_framesNeeded 1 = .ok (.lookupswitch 31 #[(0, 27), (3, 29)], 27) := by decide +kernel
theorem dX0_framesNeeded_28 : decode cX0_framesNeeded 28 = .ok (.iconst 0, 1) := by decide +kernel
theorem dX0_framesNeeded_29 : decode cX0_framesNeeded 29 = .ok (.ireturn, 1) := by decide +kernel
theorem dX0_framesNeeded_30 : decode cX0_framesNeeded 30 = .ok (.iload_n 1, 1) := by decide +kernel
theorem dX0_framesNeeded_31 : decode cX0_framesNeeded 31 = .ok (.ireturn, 1) := by decide +kernel
theorem dX0_framesNeeded_32 : decode cX0_framesNeeded 32 = .ok (.iconst 1, 1) := by decide +kernel
theorem dX0_framesNeeded_33 : decode cX0_framesNeeded 33 = .ok (.ireturn, 1) := by decide +kernel
set_option maxRecDepth 20000 in
theorem ggX0_addFrame_X0_overrunFramesOfTop : GoodIn wsX0_addFrame wsX0_overrunFramesOfTop := goodIn_r _ [16, 6, 5, 2, 17, 18, 19, 15, 20, 21, 22, 23, 24, 25, 26, 27, 28, 29, 30, 31, 32, 33, 34] (by decide +kernel) (by decide +kernel)
set_option maxRecDepth 20000 in
theorem gX0_addFrame_X0_overrunFramesOfTop : GoodIn wsX0_addFrame (wsV RX0 107 RX0 yX0_overrunFramesOfTop wsX0_overrunFramesOfTop) := goodIn_app (goodIn_of _ (by decide +kernel)) ggX0_addFrame_X0_overrunFramesOfTop
theorem dX0_addFrame_0 : decode cX0_addFrame 0 = .ok (.aload_n 0, 1) := by decide +kernel
theorem dX0_addFrame_1 : decode cX0_addFrame 1 = .ok (.getfield 9, 3) := by decide +kernel
theorem dX0_addFrame_4 : decode cX0_addFrame 4 = .ok (.iconst 0, 1) := by decide +kernel
theorem dX0_addFrame_5 : decode cX0_addFrame 5 = .ok (.iaload, 1) := by decide +kernel
theorem dX0_addFrame_6 : decode cX0_addFrame 6 = .ok (.istore_n 3, 1) := by decide +kernel
theorem dX0_addFrame_7 : decode cX0_addFrame 7 = .ok (.aload_n 0, 1) := by decide +kernel
theorem dX0_addFrame_8 : decode cX0_addFrame 8 = .ok (.aload_n 0, 1) := by decide +kernel
theorem dX0_addFrame_9 : decode cX0_addFrame 9 = .ok (.getfield 43, 3) := by decide +kernel
theorem dX0_addFrame_12 : decode cX0_addFrame 12 = .ok (.iconst 1, 1) := by decide +kernel
theorem dX0_addFrame_13 : decode cX0_addFrame 13 = .ok (.iadd, 1) := by decide +kernel
theorem dX0_addFrame_14 : decode cX0_addFrame 14 = .ok (.aload_n 0, 1) := by decide +kernel
theorem dX0_addFrame_15 : decode cX0_addFrame 15 = .ok (.getfield 39, 3) := by decide +kernel
theorem dX0_addFrame_18 : decode cX0_addFrame 18 = .ok (.if_icmp .ge 12, 3) := by decide +kernel
theorem dX0_addFrame_21 : decode cX0_addFrame 21 = .ok (.aload_n 0, 1) := by decide +kernel
theorem dX0_addFrame_22 : decode cX0_addFrame 22 = .ok (.getfield 43, 3) := by decide +kernel
theorem dX0_addFrame_25 : decode cX0_addFrame 25 = .ok (.iconst 1, 1) := by decide +kernel
theorem dX0_addFrame_26 : decode cX0_addFrame 26 = .ok (.iadd, 1) := by decide +kernel
theorem dX0_addFrame_27 : decode cX0_addFrame 27 = .ok (.goto 4, 3) := by decide +kernel
theorem dX0_addFrame_30 : decode cX0_addFrame 30 = .ok (.iconst 0, 1) := by decide +kernel
theorem dX0_addFrame_31 : decode cX0_addFrame 31 = .ok (.putfield 43, 3) := by decide +kernel
theorem dX0_addFrame_34 : decode cX0_addFrame 34 = .ok (.aload_n 0, 1) := by decide +kernel
theorem dX0_addFrame_35 : decode cX0_addFrame 35 = .ok (.iload_n 3, 1) := by decide +kernel
theorem dX0_addFrame_36 : decode cX0_addFrame 36 = .ok (.invokevirtual 107, 3) := by decide +kernel
theorem dX0_addFrame_39 : decode cX0_addFrame 39 = .ok (.aload_n 0, 1) := by decide +kernel
theorem dX0_addFrame_40 : decode cX0_addFrame 40 = .ok (.getfield 26, 3) := by decide +kernel
theorem dX0_addFrame_43 : decode cX0_addFrame 43 = .ok (.iconst 0, 1) := by decide +kernel
theorem dX0_addFrame_44 : decode cX0_addFrame 44 = .ok (.aaload, 1) := by decide +kernel
theorem dX0_addFrame_45 : decode cX0_addFrame 45 = .ok (.aload_n 0, 1) := by decide +kernel
theorem dX0_addFrame_46 : decode cX0_addFrame 46 = .ok (.getfield 43, 3) := by decide +kernel
theorem dX0_addFrame_49 : decode cX0_addFrame 49 = .ok (.iload_n 3, 1) := by decide +kernel
theorem dX0_addFrame_50 : decode cX0_addFrame 50 = .ok (.iastore, 1) := by decide +kernel
theorem dX0_addFrame_51 : decode cX0_addFrame 51 = .ok (.aload_n 0, 1) := by decide +kernel
theorem dX0_addFrame_52 : decode cX0_addFrame 52 = .ok (.getfield 26, 3) := by decide +kernel
theorem dX0_addFrame_55 : decode cX0_addFrame 55 = .ok (.iconst 1, 1) := by decide +kernel
theorem dX0_addFrame_56 : decode cX0_addFrame 56 = .ok (.aaload, 1) := by decide +kernel
theorem dX0_addFrame_57 : decode cX0_addFrame 57 = .ok (.aload_n 0, 1) := by decide +kernel
theorem dX0_addFrame_58 : decode cX0_addFrame 58 = .ok (.getfield 43, 3) := by decide +kernel
theorem dX0_addFrame_61 : decode cX0_addFrame 61 = .ok (.iload_n 2, 1) := by decide +kernel
theorem dX0_addFrame_62 : decode cX0_addFrame 62 = .ok (.iastore, 1) := by decide +kernel
theorem dX0_addFrame_63 : decode cX0_addFrame 63 = .ok (.aload_n 0, 1) := by decide +kernel
theorem dX0_addFrame_64 : decode cX0_addFrame 64 = .ok (.getfield 26, 3) := by decide +kernel
theorem dX0_addFrame_67 : decode cX0_addFrame 67 = .ok (.iconst 2, 1) := by decide +kernel
theorem dX0_addFrame_68 : decode cX0_addFrame 68 = .ok (.aaload, 1) := by decide +kernel
theorem dX0_addFrame_69 : decode cX0_addFrame 69 = .ok (.aload_n 0, 1) := by decide +kernel
theorem dX0_addFrame_70 : decode cX0_addFrame 70 = .ok (.getfield 43, 3) := by decide +kernel
theorem dX0_addFrame_73 : decode cX0_addFrame 73 = .ok (.dup2, 1) := by decide +kernel
theorem dX0_addFrame_74 : decode cX0_addFrame 74 = .ok (.iaload, 1) := by decide +kernel
theorem dX0_addFrame_75 : decode cX0_addFrame 75 = .ok (.iconst 1, 1) := by decide +kernel
theorem dX0_addFrame_76 : decode cX0_addFrame 76 = .ok (.iadd, 1) := by decide +kernel
theorem dX0_addFrame_77 : decode cX0_addFrame 77 = .ok (.iastore, 1) := by decide +kernel
theorem dX0_addFrame_78 : decode cX0_addFrame 78 = .ok (.aload_n 0, 1) := by decide +kernel
theorem dX0_addFrame_79 : decode cX0_addFrame 79 = .ok (.getfield 23, 3) := by decide +kernel
theorem dX0_addFrame_82 : decode cX0_addFrame 82 = .ok (.iconst 0, 1) := by decide +kernel
theorem dX0_addFrame_83 : decode cX0_addFrame 83 = .ok (.aaload, 1) := by decide +kernel
theorem dX0_addFrame_84 : decode cX0_addFrame 84 = .ok (.aload_n 0, 1) := by decide +kernel
theorem dX0_addFrame_85 : decode cX0_addFrame 85 = .ok (.getfield 46, 3) := by decide +kernel
theorem dX0_addFrame_88 : decode cX0_addFrame 88 = .ok (.iload_n 3, 1) := by decide +kernel
theorem dX0_addFrame_89 : decode cX0_addFrame 89 = .ok (.iastore, 1) := by decide +kernel
theorem dX0_addFrame_90 : decode cX0_addFrame 90 = .ok (.aload_n 0, 1) := by decide +kernel
theorem dX0_addFrame_91 : decode cX0_addFrame 91 = .ok (.getfield 23, 3) := by decide +kernel
theorem dX0_addFrame_94 : decode cX0_addFrame 94 = .ok (.iconst 1, 1) := by decide +kernel
theorem dX0_addFrame_95 : decode cX0_addFrame 95 = .ok (.aaload, 1) := by decide +kernel
theorem dX0_addFrame_96 : decode cX0_addFrame 96 = .ok (.aload_n 0, 1) := by decide +kernel
theorem dX0_addFrame_97 : decode cX0_addFrame 97 = .ok (.getfield 46, 3) := by decide +kernel
theorem dX0_addFrame_100 : decode cX0_addFrame 100 = .ok (.iload_n 1, 1) := by decide +kernel
theorem dX0_addFrame_101 : decode cX0_addFrame 101 = .ok (.iastore, 1) := by decide +kernel
theorem dX0_addFrame_102 : decode cX0_addFrame 102 = .ok (.aload_n 0, 1) := by decide +kernel
theorem dX0_addFrame_103 : decode cX0_addFrame 103 = .ok (.getfield 23, 3) := by decide +kernel
theorem dX0_addFrame_106 : decode cX0_addFrame 106 = .ok (.iconst 2, 1) := by decide +kernel
theorem dX0_addFrame_107 : decode cX0_addFrame 107 = .ok (.aaload, 1) := by decide +kernel
theorem dX0_addFrame_108 : decode cX0_addFrame 108 = .ok (.aload_n 0, 1) := by decide +kernel
theorem dX0_addFrame_109 : decode cX0_addFrame 109 = .ok (.getfield 46, 3) := by decide +kernel
theorem dX0_addFrame_112 : decode cX0_addFrame 112 = .ok (.iload_n 2, 1) := by decide +kernel
theorem dX0_addFrame_113 : decode cX0_addFrame 113 = .ok (.iastore, 1) := by decide +kernel
theorem dX0_addFrame_114 : decode cX0_addFrame 114 = .ok (.aload_n 0, 1) := by decide +kernel
theorem dX0_addFrame_115 : decode cX0_addFrame 115 = .ok (.getfield 23, 3) := by decide +kernel
theorem dX0_addFrame_118 : decode cX0_addFrame 118 = .ok (.iconst 3, 1) := by decide +kernel
theorem dX0_addFrame_119 : decode cX0_addFrame 119 = .ok (.aaload, 1) := by decide +kernel
theorem dX0_addFrame_120 : decode cX0_addFrame 120 = .ok (.aload_n 0, 1) := by decide +kernel
theorem dX0_addFrame_121 : decode cX0_addFrame 121 = .ok (.getfield 46, 3) := by decide +kernel
theorem dX0_addFrame_124 : decode cX0_addFrame 124 = .ok (.aload_n 0, 1) := by decide +kernel
theorem dX0_addFrame_125 : decode cX0_addFrame 125 = .ok (.getfield 43, 3) := by decide +kernel
theorem dX0_addFrame_128 : decode cX0_addFrame 128 = .ok (.iastore, 1) := by decide +kernel
theorem dX0_addFrame_129 : decode cX0_addFrame 129 = .ok (.aload_n 0, 1) := by decide +kernel
theorem dX0_addFrame_130 : decode cX0_addFrame 130 = .ok (.getfield 23, 3) := by decide +kernel
theorem dX0_addFrame_133 : decode cX0_addFrame 133 = .ok (.iconst 4, 1) := by decide +kernel
theorem dX0_addFrame_134 : decode cX0_addFrame 134 = .ok (.aaload, 1) := by decide +kernel
theorem dX0_addFrame_135 : decode cX0_addFrame 135 = .ok (.aload_n 0, 1) := by decide +kernel
theorem dX0_addFrame_136 : decode cX0_addFrame 136 = .ok (.getfield 46, 3) := by decide +kernel
theorem dX0_addFrame_139 : decode cX0_addFrame 139 = .ok (.bipush (-9), 2) := by decide +kernel
theorem dX0_addFrame_141 : decode cX0_addFrame 141 = .ok (.iastore, 1) := by decide +kernel
theorem dX0_addFrame_142 : decode cX0_addFrame 142 = .ok (.aload_n 0, 1) := by decide +kernel
theorem dX0_addFrame_143 : decode cX0_addFrame 143 = .ok (.dup, 1) := by decide +kernel
theorem dX0_addFrame_144 : decode cX0_addFrame 144 = .ok (.getfield 46, 3) := by decide +kernel
theorem dX0_addFrame_147 : decode cX0_addFrame 147 = .ok (.iconst 1, 1) := by decide +kernel
theorem dX0_addFrame_148 : decode cX0_addFrame 148 = .ok (.iadd, 1) := by decide +kernel
theorem dX0_addFrame_149 : decode cX0_addFrame 149 = .ok (.putfield 46, 3) := by decide +kernel
theorem dX0_addFrame_152 : decode cX0_addFrame 152 = .ok (.aload_n 0, 1) := by decide +kernel
theorem dX0_addFrame_153 : decode cX0_addFrame 153 = .ok (.aload_n 0, 1) := by decide +kernel
theorem dX0_addFrame_154 : decode cX0_addFrame 154 = .ok (.getfield 49, 3) := by decide +kernel
theorem dX0_addFrame_157 : decode cX0_addFrame 157 = .ok (.aload_n 0, 1) := by decide +kernel
theorem dX0_addFrame_158 : decode cX0_addFrame 158 = .ok (.getfield 46, 3) := by decide +kernel
theorem dX0_addFrame_161 : decode cX0_addFrame 161 = .ok (.invokestatic 110, 3) := by decide +kernel
theorem dX0_addFrame_164 : decode cX0_addFrame 164 = .ok (.putfield 49, 3) := by decide +kernel
theorem dX0_addFrame_167 : decode cX0_addFrame 167 = .ok (.iload_n 3, 1) := by decide +kernel
theorem dX0_addFrame_168 : decode cX0_addFrame 168 = .ok (.ireturn, 1) := by decide +kernel
set_option maxRecDepth 20000 in
theorem ggX0_overrunFramesOfTop_X0_isOverrun : GoodIn wsX0_overrunFramesOfTop wsX0_isOverrun := goodIn_r _ [8, 2, 9, 10, 11, 12, 13, 14, 15, 16, 17, 18, 19, 20, 21, 22] (by decide +kernel) (by decide +kernel)
set_option maxRecDepth 20000 in
theorem gX0_overrunFramesOfTop_X0_isOverrun : GoodIn wsX0_overrunFramesOfTop (wsV RX0 115 RX0 yX0_isOverrun wsX0_isOverrun) := goodIn_app (goodIn_of _ (by decide +kernel)) ggX0_overrunFramesOfTop_X0_isOverrun
theorem dX0_overrunFramesOfTop_0 : decode cX0_overrunFramesOfTop 0 = .ok (.iconst 0, 1) := by decide +kernel
theorem dX0_overrunFramesOfTop_1 : decode cX0_overrunFramesOfTop 1 = .ok (.istore_n 2, 1) := by decide +kernel
theorem dX0_overrunFramesOfTop_2 : decode cX0_overrunFramesOfTop 2 = .ok (.iload_n 2, 1) := by decide +kernel
theorem dX0_overrunFramesOfTop_3 : decode cX0_overrunFramesOfTop 3 = .ok (.aload_n 0, 1) := by decide +kernel
theorem dX0_overrunFramesOfTop_4 : decode cX0_overrunFramesOfTop 4 = .ok (.getfield 46, 3) := by decide +kernel
theorem dX0_overrunFramesOfTop_7 : decode cX0_overrunFramesOfTop 7 = .ok (.if_icmp .ge 41, 3) := by decide +kernel
theorem dX0_overrunFramesOfTop_10 : decode cX0_overrunFramesOfTop 10 = .ok (.aload_n 0, 1) := by decide +kernel
theorem dX0_overrunFramesOfTop_11 : decode cX0_overrunFramesOfTop 11 = .ok (.getfield 23, 3) := by decide +kernel
theorem dX0_overrunFramesOfTop_14 : decode cX0_overrunFramesOfTop 14 = .ok (.iconst 3, 1) := by decide +kernel
theorem dX0_overrunFramesOfTop_15 : decode cX0_overrunFramesOfTop 15 = .ok (.aaload, 1) := by decide +kernel
theorem dX0_overrunFramesOfTop_16 : decode cX0_overrunFramesOfTop 16 = .ok (.iload_n 2, 1) := by decide +kernel
theorem dX0_overrunFramesOfTop_17 : decode cX0_overrunFramesOfTop 17 = .ok (.iaload, 1) := by decide +kernel
theorem dX0_overrunFramesOfTop_18 : decode cX0_overrunFramesOfTop 18 = .ok (.aload_n 0, 1) := by decide +kernel
theorem dX0_overrunFramesOfTop_19 : decode cX0_overrunFramesOfTop 19 = .ok (.getfield 43, 3) := by decide +kernel
theorem dX0_overrunFramesOfTop_22 : decode cX0_overrunFramesOfTop 22 = .ok (.if_icmp .ne 20, 3) := by decide +kernel
theorem dX0_overrunFramesOfTop_25 : decode cX0_overrunFramesOfTop 25 = .ok (.aload_n 0, 1) := by decide +kernel
theorem dX0_overrunFramesOfTop_26 : decode cX0_overrunFramesOfTop 26 = .ok (.iload_n 2, 1) := by decide +kernel
theorem dX0_overrunFramesOfTop_27 : decode cX0_overrunFramesOfTop 27 = .ok (.invokevirtual 115, 3) := by decide +kernel
theorem dX0_overrunFramesOfTop_30 : decode cX0_overrunFramesOfTop 30 = .ok (.ifCond .ne 12, 3) := by decide +kernel
theorem dX0_overrunFramesOfTop_33 : decode cX0_overrunFramesOfTop 33 = .ok (.aload_n 0, 1) := by decide +kernel
theorem dX0_overrunFramesOfTop_34 : decode cX0_overrunFramesOfTop 34 = .ok (.getfield 23, 3) := by decide +kernel
theorem dX0_overrunFramesOfTop_37 : decode cX0_overrunFramesOfTop 37 = .ok (.iconst 4, 1) := by decide +kernel
theorem dX0_overrunFramesOfTop_38 : decode cX0_overrunFramesOfTop 38 = .ok (.aaload, 1) := by decide +kernel
theorem dX0_overrunFramesOfTop_39 : decode cX0_overrunFramesOfTop 39 = .ok (.iload_n 2, 1) := by decide +kernel
theorem dX0_overrunFramesOfTop_40 : decode cX0_overrunFramesOfTop 40 = .ok (.iload_n 1, 1) := by decide +kernel
theorem dX0_overrunFramesOfTop_41 : decode cX0_overrunFramesOfTop 41 = .ok (.iastore, 1) := by decide +kernel
theorem dX0_overrunFramesOfTop_42 : decode cX0_overrunFramesOfTop 42 = .ok (.iinc 2 1, 3) := by decide +kernel
theorem dX0_overrunFramesOfTop_45 : decode cX0_overrunFramesOfTop 45 = .ok (.goto (-43), 3) := by decide +kernel
theorem dX0_overrunFramesOfTop_48 : decode cX0_overrunFramesOfTop 48 = .ok (.return_, 1) := by decide +kernel
theorem dX0_replaceFunction_0 : decode cX0_replaceFunction 0 = .ok (.aload_n 0, 1) := by decide +kernel
theorem dX0_replaceFunction_1 : decode cX0_replaceFunction 1 = .ok (.getfield 23, 3) := by decide +kernel
theorem dX0_replaceFunction_4 : decode cX0_replaceFunction 4 = .ok (.iconst 1, 1) := by decide +kernel
theorem dX0_replaceFunction_5 : decode cX0_replaceFunction 5 = .ok (.aaload, 1) := by decide +kernel
theorem dX0_replaceFunction_6 : decode cX0_replaceFunction 6 = .ok (.aload_n 0, 1) := by decide +kernel
theorem dX0_replaceFunction_7 : decode cX0_replaceFunction 7 = .ok (.getfield 46, 3) := by decide +kernel
theorem dX0_replaceFunction_10 : decode cX0_replaceFunction 10 = .ok (.iconst 1, 1) := by decide +kernel
theorem dX0_replaceFunction_11 : decode cX0_replaceFunction 11 = .ok (.isub, 1) := by decide +kernel
theorem dX0_replaceFunction_12 : decode cX0_replaceFunction 12 = .ok (.iaload, 1) := by decide +kernel
theorem dX0_replaceFunction_13 : decode cX0_replaceFunction 13 = .ok (.istore_n 2, 1) := by decide +kernel
theorem dX0_replaceFunction_14 : decode cX0_replaceFunction 14 = .ok (.aload_n 0, 1) := by decide +kernel
theorem dX0_replaceFunction_15 : decode cX0_replaceFunction 15 = .ok (.getfield 23, 3) := by decide +kernel
theorem dX0_replaceFunction_18 : decode cX0_replaceFunction 18 = .ok (.iconst 1, 1) := by decide +kernel
theorem dX0_replaceFunction_19 : decode cX0_replaceFunction 19 = .ok (.aaload, 1) := by decide +kernel
theorem dX0_replaceFunction_20 : decode cX0_replaceFunction 20 = .ok (.aload_n 0, 1) := by decide +kernel
theorem dX0_replaceFunction_21 : decode cX0_replaceFunction 21 = .ok (.getfield 46, 3) := by decide +kernel
theorem dX0_replaceFunction_24 : decode cX0_replaceFunction 24 = .ok (.iconst 1, 1) := by decide +kernel
theorem dX0_replaceFunction_25 : decode cX0_replaceFunction 25 = .ok (.isub, 1) := by decide +kernel
theorem dX0_replaceFunction_26 : decode cX0_replaceFunction 26 = .ok (.iload_n 1, 1) := by decide +kernel
theorem dX0_replaceFunction_27 : decode cX0_replaceFunction 27 = .ok (.iastore, 1) := by decide +kernel
theorem dX0_replaceFunction_28 : decode cX0_replaceFunction 28 = .ok (.iload_n 2, 1) := by decide +kernel
theorem dX0_replaceFunction_29 : decode cX0_replaceFunction 29 = .ok (.ireturn, 1) := by decide +kernel
set_option maxRecDepth 20000 in
theorem ggX0_removeFrame_X0_outcomeOf : GoodIn wsX0_removeFrame wsX0_outcomeOf := goodIn_r _ [8, 9, 10, 11, 12, 13, 7, 14, 36, 37, 38, 39, 40, 41, 42, 43, 44, 45, 46, 47, 48, 49] (by decide +kernel) (by decide +kernel)
set_option maxRecDepth 20000 in
theorem gX0_removeFrame_X0_outcomeOf : GoodIn wsX0_removeFrame (wsV RX0 119 RX0 yX0_outcomeOf wsX0_outcomeOf) := goodIn_app (goodIn_of _ (by decide +kernel)) ggX0_removeFrame_X0_outcomeOf
set_option maxRecDepth 20000 in
theorem ggX0_removeFrame_X0_confess : GoodIn wsX0_removeFrame wsX0_confess := goodIn_r _ [18, 1, 10, 9, 2, 19, 20, 21, 22, 23, 24, 25, 26, 27, 28, 29, 30, 36, 37, 38, 39, 40, 41, 42, 43, 44, 45, 46, 47, 48, 49] (by decide +kernel) (by decide +kernel)
set_option maxRecDepth 20000 in
theorem gX0_removeFrame_X0_confess : GoodIn wsX0_removeFrame (wsV RX0 122 RX0 yX0_confess wsX0_confess) := goodIn_app (goodIn_of _ (by decide +kernel)) ggX0_removeFrame_X0_confess
set_option maxRecDepth 20000 in
theorem ggX0_removeFrame_X0_slotBefore : GoodIn wsX0_removeFrame wsX0_slotBefore := goodIn_r _ [34, 35, 36, 37, 38, 39, 40, 41, 42, 43, 44, 45, 46, 47, 48, 49] (by decide +kernel) (by decide +kernel)
set_option maxRecDepth 20000 in
theorem gX0_removeFrame_X0_slotBefore : GoodIn wsX0_removeFrame (wsV RX0 125 RX0 yX0_slotBefore wsX0_slotBefore) := goodIn_app (goodIn_of _ (by decide +kernel)) ggX0_removeFrame_X0_slotBefore
theorem dX0_removeFrame_0 : decode cX0_removeFrame 0 = .ok (.aload_n 0, 1) := by decide +kernel
theorem dX0_removeFrame_1 : decode cX0_removeFrame 1 = .ok (.aload_n 0, 1) := by decide +kernel
theorem dX0_removeFrame_2 : decode cX0_removeFrame 2 = .ok (.getfield 46, 3) := by decide +kernel
theorem dX0_removeFrame_5 : decode cX0_removeFrame 5 = .ok (.iconst 1, 1) := by decide +kernel
theorem dX0_removeFrame_6 : decode cX0_removeFrame 6 = .ok (.isub, 1) := by decide +kernel
theorem dX0_removeFrame_7 : decode cX0_removeFrame 7 = .ok (.aload_n 0, 1) := by decide +kernel
theorem dX0_removeFrame_8 : decode cX0_removeFrame 8 = .ok (.getfield 43, 3) := by decide +kernel
theorem dX0_removeFrame_11 : decode cX0_removeFrame 11 = .ok (.invokevirtual 119, 3) := by decide +kernel
theorem dX0_removeFrame_14 : decode cX0_removeFrame 14 = .ok (.istore_n 1, 1) := by decide +kernel
theorem dX0_removeFrame_15 : decode cX0_removeFrame 15 = .ok (.iload_n 1, 1) := by decide +kernel
theorem dX0_removeFrame_16 : decode cX0_removeFrame 16 = .ok (.iconst 2, 1) := by decide +kernel
theorem dX0_removeFrame_17 : decode cX0_removeFrame 17 = .ok (.if_icmp .eq 8, 3) := by decide +kernel
theorem dX0_removeFrame_20 : decode cX0_removeFrame 20 = .ok (.iload_n 1, 1) := by decide +kernel
end
section
theorem dX0_removeFrame_21 : decode cX0_removeFrame 21 = .ok (.iconst 3, 1) := by decide +kernel
theorem dX0_removeFrame_22 : decode cX0_removeFrame 22 = .ok (.if_icmp .ne 8, 3) := by decide +kernel
theorem dX0_removeFrame_25 : decode cX0_removeFrame 25 = .ok (.aload_n 0, 1) := by decide +kernel
theorem dX0_removeFrame_26 : decode cX0_removeFrame 26 = .ok (.iload_n 1, 1) := by decide +kernel
theorem dX0_removeFrame_27 : decode cX0_removeFrame 27 = .ok (.invokevirtual 122, 3) := by decide +kernel
theorem dX0_removeFrame_30 : decode cX0_removeFrame 30 = .ok (.aload_n 0, 1) := by decide +kernel
theorem dX0_removeFrame_31 : decode cX0_removeFrame 31 = .ok (.getfield 15, 3) := by decide +kernel
theorem dX0_removeFrame_34 : decode cX0_removeFrame 34 = .ok (.iload_n 1, 1) := by decide +kernel
theorem dX0_removeFrame_35 : decode cX0_removeFrame 35 = .ok (.dup2, 1) := by decide +kernel
theorem dX0_removeFrame_36 : decode cX0_removeFrame 36 = .ok (.iaload, 1) := by decide +kernel
theorem dX0_removeFrame_37 : decode cX0_removeFrame 37 = .ok (.iconst 1, 1) := by decide +kernel
theorem dX0_removeFrame_38 : decode cX0_removeFrame 38 = .ok (.iadd, 1) := by decide +kernel
theorem dX0_removeFrame_39 : decode cX0_removeFrame 39 = .ok (.iastore, 1) := by decide +kernel
theorem dX0_removeFrame_40 : decode cX0_removeFrame 40 = .ok (.aload_n 0, 1) := by decide +kernel
theorem dX0_removeFrame_41 : decode cX0_removeFrame 41 = .ok (.dup, 1) := by decide +kernel
theorem dX0_removeFrame_42 : decode cX0_removeFrame 42 = .ok (.getfield 46, 3) := by decide +kernel
theorem dX0_removeFrame_45 : decode cX0_removeFrame 45 = .ok (.iconst 1, 1) := by decide +kernel
theorem dX0_removeFrame_46 : decode cX0_removeFrame 46 = .ok (.isub, 1) := by decide +kernel
theorem dX0_removeFrame_47 : decode cX0_removeFrame 47 = .ok (.putfield 46, 3) := by decide +kernel
theorem dX0_removeFrame_50 : decode cX0_removeFrame 50 = .ok (.aload_n 0, 1) := by decide +kernel
theorem dX0_removeFrame_51 : decode cX0_removeFrame 51 = .ok (.aload_n 0, 1) := by decide +kernel
theorem dX0_removeFrame_52 : decode cX0_removeFrame 52 = .ok (.aload_n 0, 1) := by decide +kernel
theorem dX0_removeFrame_53 : decode cX0_removeFrame 53 = .ok (.getfield 43, 3) := by decide +kernel
theorem dX0_removeFrame_56 : decode cX0_removeFrame 56 = .ok (.invokevirtual 125, 3) := by decide +kernel
theorem dX0_removeFrame_59 : decode cX0_removeFrame 59 = .ok (.putfield 43, 3) := by decide +kernel
theorem dX0_removeFrame_62 : decode cX0_removeFrame 62 = .ok (.iload_n 1, 1) := by decide +kernel
theorem dX0_removeFrame_63 : decode cX0_removeFrame 63 = .ok (.ireturn, 1) := by decide +kernel
set_option maxRecDepth 20000 in
theorem ggX0_removeFrames_X0_slotBefore : GoodIn wsX0_removeFrames wsX0_slotBefore := goodIn_r _ [8, 9, 10, 11, 12, 13, 14, 15, 16, 17, 18, 19, 20, 21, 22, 23] (by decide +kernel) (by decide +kernel)
set_option maxRecDepth 20000 in
theorem gX0_removeFrames_X0_slotBefore : GoodIn wsX0_removeFrames (wsV RX0 125 RX0 yX0_slotBefore wsX0_slotBefore) := goodIn_app (goodIn_of _ (by decide +kernel)) ggX0_removeFrames_X0_slotBefore
theorem dX0_removeFrames_0 : decode cX0_removeFrames 0 = .ok (.aload_n 0, 1) := by decide +kernel
theorem dX0_removeFrames_1 : decode cX0_removeFrames 1 = .ok (.dup, 1) := by decide +kernel
theorem dX0_removeFrames_2 : decode cX0_removeFrames 2 = .ok (.getfield 46, 3) := by decide +kernel
theorem dX0_removeFrames_5 : decode cX0_removeFrames 5 = .ok (.iload_n 1, 1) := by decide +kernel
theorem dX0_removeFrames_6 : decode cX0_removeFrames 6 = .ok (.isub, 1) := by decide +kernel
theorem dX0_removeFrames_7 : decode cX0_removeFrames 7 = .ok (.putfield 46, 3) := by decide +kernel
theorem dX0_removeFrames_10 : decode cX0_removeFrames 10 = .ok (.aload_n 0, 1) := by decide +kernel
theorem dX0_removeFrames_11 : decode cX0_removeFrames 11 = .ok (.getfield 64, 3) := by decide +kernel
theorem dX0_removeFrames_14 : decode cX0_removeFrames 14 = .ok (.iconst 1, 1) := by decide +kernel
theorem dX0_removeFrames_15 : decode cX0_removeFrames 15 = .ok (.if_icmp .ne 28, 3) := by decide +kernel
theorem dX0_removeFrames_18 : decode cX0_removeFrames 18 = .ok (.iconst 0, 1) := by decide +kernel
theorem dX0_removeFrames_19 : decode cX0_removeFrames 19 = .ok (.istore_n 2, 1) := by decide +kernel
theorem dX0_removeFrames_20 : decode cX0_removeFrames 20 = .ok (.iload_n 2, 1) := by decide +kernel
theorem dX0_removeFrames_21 : decode cX0_removeFrames 21 = .ok (.iload_n 1, 1) := by decide +kernel
theorem dX0_removeFrames_22 : decode cX0_removeFrames 22 = .ok (.if_icmp .ge 21, 3) := by decide +kernel
theorem dX0_removeFrames_25 : decode cX0_removeFrames 25 = .ok (.aload_n 0, 1) := by decide +kernel
theorem dX0_removeFrames_26 : decode cX0_removeFrames 26 = .ok (.aload_n 0, 1) := by decide +kernel
theorem dX0_removeFrames_27 : decode cX0_removeFrames 27 = .ok (.aload_n 0, 1) := by decide +kernel
theorem dX0_removeFrames_28 : decode cX0_removeFrames 28 = .ok (.getfield 43, 3) := by decide +kernel
theorem dX0_removeFrames_31 : decode cX0_removeFrames 31 = .ok (.invokevirtual 125, 3) := by decide +kernel
theorem dX0_removeFrames_34 : decode cX0_removeFrames 34 = .ok (.putfield 43, 3) := by decide +kernel
theorem dX0_removeFrames_37 : decode cX0_removeFrames 37 = .ok (.iinc 2 1, 3) := by decide +kernel
theorem dX0_removeFrames_40 : decode cX0_removeFrames 40 = .ok (.goto (-20), 3) := by decide +kernel
theorem dX0_removeFrames_43 : decode cX0_removeFrames 43 = .ok (.aload_n 0, 1) := by decide +kernel
theorem dX0_removeFrames_44 : decode cX0_removeFrames 44 = .ok (.getfield 46, 3) := by decide +kernel
theorem dX0_removeFrames_47 : decode cX0_removeFrames 47 = .ok (.ireturn, 1) := by decide +kernel
theorem dX0_slotBefore_0 : decode cX0_slotBefore 0 = .ok (.iload_n 1, 1) := by decide +kernel
theorem dX0_slotBefore_1 : decode cX0_slotBefore 1 = .ok (.ifCond .le 9, 3) := by decide +kernel
theorem dX0_slotBefore_4 : decode cX0_slotBefore 4 = .ok (.iload_n 1, 1) := by decide +kernel
theorem dX0_slotBefore_5 : decode cX0_slotBefore 5 = .ok (.iconst 1, 1) := by decide +kernel
theorem dX0_slotBefore_6 : decode cX0_slotBefore 6 = .ok (.isub, 1) := by decide +kernel
theorem dX0_slotBefore_7 : decode cX0_slotBefore 7 = .ok (.goto 9, 3) := by decide +kernel
theorem dX0_slotBefore_10 : decode cX0_slotBefore 10 = .ok (.aload_n 0, 1) := by decide +kernel
theorem dX0_slotBefore_11 : decode cX0_slotBefore 11 = .ok (.getfield 39, 3) := by decide +kernel
theorem dX0_slotBefore_14 : decode cX0_slotBefore 14 = .ok (.iconst 1, 1) := by decide +kernel
theorem dX0_slotBefore_15 : decode cX0_slotBefore 15 = .ok (.isub, 1) := by decide +kernel
theorem dX0_slotBefore_16 : decode cX0_slotBefore 16 = .ok (.ireturn, 1) := by decide +kernel
set_option maxRecDepth 20000 in
theorem ggX0_outcomeOf_X0_isOverrun : GoodIn wsX0_outcomeOf wsX0_isOverrun := goodIn_r _ [7, 2, 8, 9, 10, 11, 12, 13, 14, 15, 16, 17, 18, 19, 20, 21] (by decide +kernel) (by decide +kernel)
set_option maxRecDepth 20000 in
theorem gX0_outcomeOf_X0_isOverrun : GoodIn wsX0_outcomeOf (wsV RX0 115 RX0 yX0_isOverrun wsX0_isOverrun) := goodIn_app (goodIn_of _ (by decide +kernel)) ggX0_outcomeOf_X0_isOverrun
theorem dX0_outcomeOf_0 : decode cX0_outcomeOf 0 = .ok (.aload_n 0, 1) := by decide +kernel
theorem dX0_outcomeOf_1 : decode cX0_outcomeOf 1 = .ok (.getfield 26, 3) := by decide +kernel
theorem dX0_outcomeOf_4 : decode cX0_outcomeOf 4 = .ok (.iconst 1, 1) := by decide +kernel
theorem dX0_outcomeOf_5 : decode cX0_outcomeOf 5 = .ok (.aaload, 1) := by decide +kernel
theorem dX0_outcomeOf_6 : decode cX0_outcomeOf 6 = .ok (.iload_n 2, 1) := by decide +kernel
theorem dX0_outcomeOf_7 : decode cX0_outcomeOf 7 = .ok (.iaload, 1) := by decide +kernel
theorem dX0_outcomeOf_8 : decode cX0_outcomeOf 8 = .ok (.aload_n 0, 1) := by decide +kernel
theorem dX0_outcomeOf_9 : decode cX0_outcomeOf 9 = .ok (.getfield 23, 3) := by decide +kernel
theorem dX0_outcomeOf_12 : decode cX0_outcomeOf 12 = .ok (.iconst 2, 1) := by decide +kernel
theorem dX0_outcomeOf_13 : decode cX0_outcomeOf 13 = .ok (.aaload, 1) := by decide +kernel
theorem dX0_outcomeOf_14 : decode cX0_outcomeOf 14 = .ok (.iload_n 1, 1) := by decide +kernel
theorem dX0_outcomeOf_15 : decode cX0_outcomeOf 15 = .ok (.iaload, 1) := by decide +kernel
theorem dX0_outcomeOf_16 : decode cX0_outcomeOf 16 = .ok (.if_icmp .ne 28, 3) := by decide +kernel
theorem dX0_outcomeOf_19 : decode cX0_outcomeOf 19 = .ok (.aload_n 0, 1) := by decide +kernel
theorem dX0_outcomeOf_20 : decode cX0_outcomeOf 20 = .ok (.getfield 26, 3) := by decide +kernel
theorem dX0_outcomeOf_23 : decode cX0_outcomeOf 23 = .ok (.iconst 0, 1) := by decide +kernel
theorem dX0_outcomeOf_24 : decode cX0_outcomeOf 24 = .ok (.aaload, 1) := by decide +kernel
theorem dX0_outcomeOf_25 : decode cX0_outcomeOf 25 = .ok (.iload_n 2, 1) := by decide +kernel
theorem dX0_outcomeOf_26 : decode cX0_outcomeOf 26 = .ok (.iaload, 1) := by decide +kernel
theorem dX0_outcomeOf_27 : decode cX0_outcomeOf 27 = .ok (.aload_n 0, 1) := by decide +kernel
theorem dX0_outcomeOf_28 : decode cX0_outcomeOf 28 = .ok (.getfield 23, 3) := by decide +kernel
theorem dX0_outcomeOf_31 : decode cX0_outcomeOf 31 = .ok (.iconst 0, 1) := by decide +kernel
theorem dX0_outcomeOf_32 : decode cX0_outcomeOf 32 = .ok (.aaload, 1) := by decide +kernel
theorem dX0_outcomeOf_33 : decode cX0_outcomeOf 33 = .ok (.iload_n 1, 1) := by decide +kernel
theorem dX0_outcomeOf_34 : decode cX0_outcomeOf 34 = .ok (.iaload, 1) := by decide +kernel
theorem dX0_outcomeOf_35 : decode cX0_outcomeOf 35 = .ok (.if_icmp .ne 7, 3) := by decide +kernel
theorem dX0_outcomeOf_38 : decode cX0_outcomeOf 38 = .ok (.iconst 0, 1) := by decide +kernel
theorem dX0_outcomeOf_39 : decode cX0_outcomeOf 39 = .ok (.goto 4, 3) := by decide +kernel
theorem dX0_outcomeOf_42 : decode cX0_outcomeOf 42 = .ok (.iconst 1, 1) := by decide +kernel
theorem dX0_outcomeOf_43 : decode cX0_outcomeOf 43 = .ok (.ireturn, 1) := by decide +kernel
theorem dX0_outcomeOf_44 : decode cX0_outcomeOf 44 = .ok (.aload_n 0, 1) := by decide +kernel
theorem dX0_outcomeOf_45 : decode cX0_outcomeOf 45 = .ok (.iload_n 1, 1) := by decide +kernel
theorem dX0_outcomeOf_46 : decode cX0_outcomeOf 46 = .ok (.invokevirtual 115, 3) := by decide +kernel
theorem dX0_outcomeOf_49 : decode cX0_outcomeOf 49 = .ok (.ifCond .eq 7, 3) := by decide +kernel
theorem dX0_outcomeOf_52 : decode cX0_outcomeOf 52 = .ok (.iconst 2, 1) := by decide +kernel
theorem dX0_outcomeOf_53 : decode cX0_outcomeOf 53 = .ok (.goto 4, 3) := by decide +kernel
theorem dX0_outcomeOf_56 : decode cX0_outcomeOf 56 = .ok (.iconst 3, 1) := by decide +kernel
theorem dX0_outcomeOf_57 : decode cX0_outcomeOf 57 = .ok (.ireturn, 1) := by decide +kernel
theorem dX0_confess_0 : decode cX0_confess 0 = .ok (.aload_n 0, 1) := by decide +kernel
theorem dX0_confess_1 : decode cX0_confess 1 = .ok (.getfield 46, 3) := by decide +kernel
theorem dX0_confess_4 : decode cX0_confess 4 = .ok (.iconst 1, 1) := by decide +kernel
theorem dX0_confess_5 : decode cX0_confess 5 = .ok (.isub, 1) := by decide +kernel
theorem dX0_confess_6 : decode cX0_confess 6 = .ok (.istore_n 2, 1) := by decide +kernel
theorem dX0_confess_7 : decode cX0_confess 7 = .ok (.iload_n 1, 1) := by decide +kernel
theorem dX0_confess_8 : decode cX0_confess 8 = .ok (.iconst 2, 1) := by decide +kernel
theorem dX0_confess_9 : decode cX0_confess 9 = .ok (.if_icmp .ne 7, 3) := by decide +kernel
theorem dX0_confess_12 : decode cX0_confess 12 = .ok (.iconst 1, 1) := by decide +kernel
theorem dX0_confess_13 : decode cX0_confess 13 = .ok (.goto 4, 3) := by decide +kernel
theorem dX0_confess_16 : decode cX0_confess 16 = .ok (.iconst 0, 1) := by decide +kernel
theorem dX0_confess_17 : decode cX0_confess 17 = .ok (.istore_n 3, 1) := by decide +kernel
theorem dX0_confess_18 : decode cX0_confess 18 = .ok (.iload_n 3, 1) := by decide +kernel
theorem dX0_confess_19 : decode cX0_confess 19 = .ok (.ifCond .eq 14, 3) := by decide +kernel
theorem dX0_confess_22 : decode cX0_confess 22 = .ok (.aload_n 0, 1) := by decide +kernel
theorem dX0_confess_23 : decode cX0_confess 23 = .ok (.getfield 23, 3) := by decide +kernel
theorem dX0_confess_26 : decode cX0_confess 26 = .ok (.iconst 4, 1) := by decide +kernel
theorem dX0_confess_27 : decode cX0_confess 27 = .ok (.aaload, 1) := by decide +kernel
theorem dX0_confess_28 : decode cX0_confess 28 = .ok (.iload_n 2, 1) := by decide +kernel
theorem dX0_confess_29 : decode cX0_confess 29 = .ok (.iaload, 1) := by decide +kernel
theorem dX0_confess_30 : decode cX0_confess 30 = .ok (.goto 14, 3) := by decide +kernel
theorem dX0_confess_33 : decode cX0_confess 33 = .ok (.aload_n 0, 1) := by decide +kernel
theorem dX0_confess_34 : decode cX0_confess 34 = .ok (.getfield 26, 3) := by decide +kernel
theorem dX0_confess_37 : decode cX0_confess 37 = .ok (.iconst 0, 1) := by decide +kernel
theorem dX0_confess_38 : decode cX0_confess 38 = .ok (.aaload, 1) := by decide +kernel
theorem dX0_confess_39 : decode cX0_confess 39 = .ok (.aload_n 0, 1) := by decide +kernel
theorem dX0_confess_40 : decode cX0_confess 40 = .ok (.getfield 43, 3) := by decide +kernel
theorem dX0_confess_43 : decode cX0_confess 43 = .ok (.iaload, 1) := by decide +kernel
theorem dX0_confess_44 : decode cX0_confess 44 = .ok (.istore 4, 2) := by decide +kernel
theorem dX0_confess_46 : decode cX0_confess 46 = .ok (.iconst 0, 1) := by decide +kernel
theorem dX0_confess_47 : decode cX0_confess 47 = .ok (.istore 5, 2) := by decide +kernel
theorem dX0_confess_49 : decode cX0_confess 49 = .ok (.iload 5, 2) := by decide +kernel
theorem dX0_confess_51 : decode cX0_confess 51 = .ok (.bipush 6, 2) := by decide +kernel
theorem dX0_confess_53 : decode cX0_confess 53 = .ok (.if_icmp .ge 30, 3) := by decide +kernel
theorem dX0_confess_56 : decode cX0_confess 56 = .ok (.aload_n 0, 1) := by decide +kernel
theorem dX0_confess_57 : decode cX0_confess 57 = .ok (.getfield 32, 3) := by decide +kernel
theorem dX0_confess_60 : decode cX0_confess 60 = .ok (.iload 5, 2) := by decide +kernel
theorem dX0_confess_62 : decode cX0_confess 62 = .ok (.aaload, 1) := by decide +kernel
theorem dX0_confess_63 : decode cX0_confess 63 = .ok (.iconst 0, 1) := by decide +kernel
theorem dX0_confess_64 : decode cX0_confess 64 = .ok (.aload_n 0, 1) := by decide +kernel
theorem dX0_confess_65 : decode cX0_confess 65 = .ok (.getfield 32, 3) := by decide +kernel
theorem dX0_confess_68 : decode cX0_confess 68 = .ok (.iload 5, 2) := by decide +kernel
theorem dX0_confess_70 : decode cX0_confess 70 = .ok (.aaload, 1) := by decide +kernel
theorem dX0_confess_71 : decode cX0_confess 71 = .ok (.iconst 1, 1) := by decide +kernel
theorem dX0_confess_72 : decode cX0_confess 72 = .ok (.bipush 11, 2) := by decide +kernel
theorem dX0_confess_74 : decode cX0_confess 74 = .ok (.invokestatic 67, 3) := by decide +kernel
theorem dX0_confess_77 : decode cX0_confess 77 = .ok (.iinc 5 1, 3) := by decide +kernel
theorem dX0_confess_80 : decode cX0_confess 80 = .ok (.goto (-31), 3) := by decide +kernel
theorem dX0_confess_83 : decode cX0_confess 83 = .ok (.aload_n 0, 1) := by decide +kernel
theorem dX0_confess_84 : decode cX0_confess 84 = .ok (.getfield 32, 3) := by decide +kernel
theorem dX0_confess_87 : decode cX0_confess 87 = .ok (.iconst 0, 1) := by decide +kernel
theorem dX0_confess_88 : decode cX0_confess 88 = .ok (.aaload, 1) := by decide +kernel
theorem dX0_confess_89 : decode cX0_confess 89 = .ok (.iconst 0, 1) := by decide +kernel
theorem dX0_confess_90 : decode cX0_confess 90 = .ok (.iload_n 3, 1) := by decide +kernel
theorem dX0_confess_91 : decode cX0_confess 91 = .ok (.ifCond .eq 7, 3) := by decide +kernel
theorem dX0_confess_94 : decode cX0_confess 94 = .ok (.iconst 1, 1) := by decide +kernel
theorem dX0_confess_95 : decode cX0_confess 95 = .ok (.goto 4, 3) := by decide +kernel
theorem dX0_confess_98 : decode cX0_confess 98 = .ok (.iconst 2, 1) := by decide +kernel
theorem dX0_confess_99 : decode cX0_confess 99 = .ok (.iastore, 1) := by decide +kernel
theorem dX0_confess_100 : decode cX0_confess 100 = .ok (.aload_n 0, 1) := by decide +kernel
theorem dX0_confess_101 : decode cX0_confess 101 = .ok (.getfield 32, 3) := by decide +kernel
theorem dX0_confess_104 : decode cX0_confess 104 = .ok (.iconst 1, 1) := by decide +kernel
theorem dX0_confess_105 : decode cX0_confess 105 = .ok (.aaload, 1) := by decide +kernel
theorem dX0_confess_106 : decode cX0_confess 106 = .ok (.iconst 0, 1) := by decide +kernel
theorem dX0_confess_107 : decode cX0_confess 107 = .ok (.iload 4, 2) := by decide +kernel
theorem dX0_confess_109 : decode cX0_confess 109 = .ok (.iastore, 1) := by decide +kernel
theorem dX0_confess_110 : decode cX0_confess 110 = .ok (.aload_n 0, 1) := by decide +kernel
theorem dX0_confess_111 : decode cX0_confess 111 = .ok (.getfield 32, 3) := by decide +kernel
theorem dX0_confess_114 : decode cX0_confess 114 = .ok (.iconst 2, 1) := by decide +kernel
theorem dX0_confess_115 : decode cX0_confess 115 = .ok (.aaload, 1) := by decide +kernel
theorem dX0_confess_116 : decode cX0_confess 116 = .ok (.iconst 0, 1) := by decide +kernel
theorem dX0_confess_117 : decode cX0_confess 117 = .ok (.aload_n 0, 1) := by decide +kernel
theorem dX0_confess_118 : decode cX0_confess 118 = .ok (.getfield 23, 3) := by decide +kernel
theorem dX0_confess_121 : decode cX0_confess 121 = .ok (.iconst 0, 1) := by decide +kernel
theorem dX0_confess_122 : decode cX0_confess 122 = .ok (.aaload, 1) := by decide +kernel
theorem dX0_confess_123 : decode cX0_confess 123 = .ok (.iload_n 2, 1) := by decide +kernel
theorem dX0_confess_124 : decode cX0_confess 124 = .ok (.iaload, 1) := by decide +kernel
theorem dX0_confess_125 : decode cX0_confess 125 = .ok (.iastore, 1) := by decide +kernel
theorem dX0_confess_126 : decode cX0_confess 126 = .ok (.aload_n 0, 1) := by decide +kernel
theorem dX0_confess_127 : decode cX0_confess 127 = .ok (.getfield 32, 3) := by decide +kernel
theorem dX0_confess_130 : decode cX0_confess 130 = .ok (.iconst 3, 1) := by decide +kernel
theorem dX0_confess_131 : decode cX0_confess 131 = .ok (.aaload, 1) := by decide +kernel
theorem dX0_confess_132 : decode cX0_confess 132 = .ok (.iconst 0, 1) := by decide +kernel
theorem dX0_confess_133 : decode cX0_confess 133 = .ok (.aload_n 0, 1) := by decide +kernel
theorem dX0_confess_134 : decode cX0_confess 134 = .ok (.getfield 26, 3) := by decide +kernel
theorem dX0_confess_137 : decode cX0_confess 137 = .ok (.iconst 1, 1) := by decide +kernel
theorem dX0_confess_138 : decode cX0_confess 138 = .ok (.aaload, 1) := by decide +kernel
theorem dX0_confess_139 : decode cX0_confess 139 = .ok (.aload_n 0, 1) := by decide +kernel
theorem dX0_confess_140 : decode cX0_confess 140 = .ok (.getfield 43, 3) := by decide +kernel
theorem dX0_confess_143 : decode cX0_confess 143 = .ok (.iaload, 1) := by decide +kernel
theorem dX0_confess_144 : decode cX0_confess 144 = .ok (.iastore, 1) := by decide +kernel
theorem dX0_confess_145 : decode cX0_confess 145 = .ok (.aload_n 0, 1) := by decide +kernel
theorem dX0_confess_146 : decode cX0_confess 146 = .ok (.getfield 32, 3) := by decide +kernel
theorem dX0_confess_149 : decode cX0_confess 149 = .ok (.iconst 4, 1) := by decide +kernel
theorem dX0_confess_150 : decode cX0_confess 150 = .ok (.aaload, 1) := by decide +kernel
theorem dX0_confess_151 : decode cX0_confess 151 = .ok (.iconst 0, 1) := by decide +kernel
theorem dX0_confess_152 : decode cX0_confess 152 = .ok (.aload_n 0, 1) := by decide +kernel
theorem dX0_confess_153 : decode cX0_confess 153 = .ok (.getfield 23, 3) := by decide +kernel
theorem dX0_confess_156 : decode cX0_confess 156 = .ok (.iconst 2, 1) := by decide +kernel
theorem dX0_confess_157 : decode cX0_confess 157 = .ok (.aaload, 1) := by decide +kernel
theorem dX0_confess_158 : decode cX0_confess 158 = .ok (.iload_n 2, 1) := by decide +kernel
theorem dX0_confess_159 : decode cX0_confess 159 = .ok (.iaload, 1) := by decide +kernel
theorem dX0_confess_160 : decode cX0_confess 160 = .ok (.iastore, 1) := by decide +kernel
theorem dX0_confess_161 : decode cX0_confess 161 = .ok (.aload_n 0, 1) := by decide +kernel
theorem dX0_confess_162 : decode cX0_confess 162 = .ok (.getfield 32, 3) := by decide +kernel
theorem dX0_confess_165 : decode cX0_confess 165 = .ok (.iconst 5, 1) := by decide +kernel
theorem dX0_confess_166 : decode cX0_confess 166 = .ok (.aaload, 1) := by decide +kernel
theorem dX0_confess_167 : decode cX0_confess 167 = .ok (.iconst 0, 1) := by decide +kernel
theorem dX0_confess_168 : decode cX0_confess 168 = .ok (.aload_n 0, 1) := by decide +kernel
theorem dX0_confess_169 : decode cX0_confess 169 = .ok (.getfield 52, 3) := by decide +kernel
theorem dX0_confess_172 : decode cX0_confess 172 = .ok (.iastore, 1) := by decide +kernel
theorem dX0_confess_173 : decode cX0_confess 173 = .ok (.aload_n 0, 1) := by decide +kernel
theorem dX0_confess_174 : decode cX0_confess 174 = .ok (.aload_n 0, 1) := by decide +kernel
theorem dX0_confess_175 : decode cX0_confess 175 = .ok (.getfield 55, 3) := by decide +kernel
theorem dX0_confess_178 : decode cX0_confess 178 = .ok (.iconst 1, 1) := by decide +kernel
theorem dX0_confess_179 : decode cX0_confess 179 = .ok (.iadd, 1) := by decide +kernel
theorem dX0_confess_180 : decode cX0_confess 180 = .ok (.bipush 12, 2) := by decide +kernel
theorem dX0_confess_182 : decode cX0_confess 182 = .ok (.invokestatic 128, 3) := by decide +kernel
theorem dX0_confess_185 : decode cX0_confess 185 = .ok (.putfield 55, 3) := by decide +kernel
theorem dX0_confess_188 : decode cX0_confess 188 = .ok (.iload 4, 2) := by decide +kernel
theorem dX0_confess_190 : decode cX0_confess 190 = .ok (.ifCond .lt 14, 3) := by decide +kernel
theorem dX0_confess_193 : decode cX0_confess 193 = .ok (.aload_n 0, 1) := by decide +kernel
theorem dX0_confess_194 : decode cX0_confess 194 = .ok (.getfield 18, 3) := by decide +kernel
theorem dX0_confess_197 : decode cX0_confess 197 = .ok (.iload 4, 2) := by decide +kernel
theorem dX0_confess_199 : decode cX0_confess 199 = .ok (.dup2, 1) := by decide +kernel
theorem dX0_confess_200 : decode cX0_confess 200 = .ok (.iaload, 1) := by decide +kernel
theorem dX0_confess_201 : decode cX0_confess 201 = .ok (.iconst 1, 1) := by decide +kernel
theorem dX0_confess_202 : decode cX0_confess 202 = .ok (.iadd, 1) := by decide +kernel
theorem dX0_confess_203 : decode cX0_confess 203 = .ok (.iastore, 1) := by decide +kernel
theorem dX0_confess_204 : decode cX0_confess 204 = .ok (.return_, 1) := by decide +kernel
theorem dX0_isOverrun_0 : decode cX0_isOverrun 0 = .ok (.aload_n 0, 1) := by decide +kernel
theorem dX0_isOverrun_1 : decode cX0_isOverrun 1 = .ok (.getfield 23, 3) := by decide +kernel
theorem dX0_isOverrun_4 : decode cX0_isOverrun 4 = .ok (.iconst 4, 1) := by decide +kernel
theorem dX0_isOverrun_5 : decode cX0_isOverrun 5 = .ok (.aaload, 1) := by decide +kernel
theorem dX0_isOverrun_6 : decode cX0_isOverrun 6 = .ok (.iload_n 1, 1) := by decide +kernel
theorem dX0_isOverrun_7 : decode cX0_isOverrun 7 = .ok (.iaload, 1) := by decide +kernel
theorem dX0_isOverrun_8 : decode cX0_isOverrun 8 = .ok (.bipush (-9), 2) := by decide +kernel
theorem dX0_isOverrun_10 : decode cX0_isOverrun 10 = .ok (.if_icmp .eq 7, 3) := by decide +kernel
theorem dX0_isOverrun_13 : decode cX0_isOverrun 13 = .ok (.iconst 1, 1) := by decide +kernel
theorem dX0_isOverrun_14 : decode cX0_isOverrun 14 = .ok (.goto 4, 3) := by decide +kernel
theorem dX0_isOverrun_17 : decode cX0_isOverrun 17 = .ok (.iconst 0, 1) := by decide +kernel
theorem dX0_isOverrun_18 : decode cX0_isOverrun 18 = .ok (.ireturn, 1) := by decide +kernel
set_option maxRecDepth 20000 in
theorem ggX0_overrunFrames_X0_isOverrun : GoodIn wsX0_overrunFrames wsX0_isOverrun := goodIn_r _ [6, 7, 8, 9, 10, 11, 12, 13, 14, 15, 16, 17, 18, 19, 20, 21] (by decide +kernel) (by decide +kernel)
set_option maxRecDepth 20000 in
theorem gX0_overrunFrames_X0_isOverrun : GoodIn wsX0_overrunFrames (wsV RX0 115 RX0 yX0_isOverrun wsX0_isOverrun) := goodIn_app (goodIn_of _ (by decide +kernel)) ggX0_overrunFrames_X0_isOverrun
theorem dX0_overrunFrames_0 : decode cX0_overrunFrames 0 = .ok (.iconst 0, 1) := by decide +kernel
theorem dX0_overrunFrames_1 : decode cX0_overrunFrames 1 = .ok (.istore_n 1, 1) := by decide +kernel
theorem dX0_overrunFrames_2 : decode cX0_overrunFrames 2 = .ok (.iconst 0, 1) := by decide +kernel
theorem dX0_overrunFrames_3 : decode cX0_overrunFrames 3 = .ok (.istore_n 2, 1) := by decide +kernel
theorem dX0_overrunFrames_4 : decode cX0_overrunFrames 4 = .ok (.iload_n 2, 1) := by decide +kernel
theorem dX0_overrunFrames_5 : decode cX0_overrunFrames 5 = .ok (.aload_n 0, 1) := by decide +kernel
theorem dX0_overrunFrames_6 : decode cX0_overrunFrames 6 = .ok (.getfield 46, 3) := by decide +kernel
theorem dX0_overrunFrames_9 : decode cX0_overrunFrames 9 = .ok (.if_icmp .ge 20, 3) := by decide +kernel
theorem dX0_overrunFrames_12 : decode cX0_overrunFrames 12 = .ok (.aload_n 0, 1) := by decide +kernel
theorem dX0_overrunFrames_13 : decode cX0_overrunFrames 13 = .ok (.iload_n 2, 1) := by decide +kernel
theorem dX0_overrunFrames_14 : decode cX0_overrunFrames 14 = .ok (.invokevirtual 115, 3) := by decide +kernel
theorem dX0_overrunFrames_17 : decode cX0_overrunFrames 17 = .ok (.ifCond .eq 6, 3) := by decide +kernel
theorem dX0_overrunFrames_20 : decode cX0_overrunFrames 20 = .ok (.iinc 1 1, 3) := by decide +kernel
theorem dX0_overrunFrames_23 : decode cX0_overrunFrames 23 = .ok (.iinc 2 1, 3) := by decide +kernel
theorem dX0_overrunFrames_26 : decode cX0_overrunFrames 26 = .ok (.goto (-22), 3) := by decide +kernel
theorem dX0_overrunFrames_29 : decode cX0_overrunFrames 29 = .ok (.iload_n 1, 1) := by decide +kernel
theorem dX0_overrunFrames_30 : decode cX0_overrunFrames 30 = .ok (.ireturn, 1) := by decide +kernel
set_option maxRecDepth 20000 in
theorem ggX0_hitsAhead_X0_outcomeOf : GoodIn wsX0_hitsAhead wsX0_outcomeOf := goodIn_r _ [7, 8, 9, 10, 11, 12, 6, 13, 19, 20, 21, 22, 23, 24, 25, 26, 27, 28, 29, 30, 31, 32] (by decide +kernel) (by decide +kernel)
set_option maxRecDepth 20000 in
theorem gX0_hitsAhead_X0_outcomeOf : GoodIn wsX0_hitsAhead (wsV RX0 119 RX0 yX0_outcomeOf wsX0_outcomeOf) := goodIn_app (goodIn_of _ (by decide +kernel)) ggX0_hitsAhead_X0_outcomeOf
set_option maxRecDepth 20000 in
theorem ggX0_hitsAhead_X0_slotBefore : GoodIn wsX0_hitsAhead wsX0_slotBefore := goodIn_r _ [17, 18, 19, 20, 21, 22, 23, 24, 25, 26, 27, 28, 29, 30, 31, 32] (by decide +kernel) (by decide +kernel)
set_option maxRecDepth 20000 in
theorem gX0_hitsAhead_X0_slotBefore : GoodIn wsX0_hitsAhead (wsV RX0 125 RX0 yX0_slotBefore wsX0_slotBefore) := goodIn_app (goodIn_of _ (by decide +kernel)) ggX0_hitsAhead_X0_slotBefore
theorem dX0_hitsAhead_0 : decode cX0_hitsAhead 0 = .ok (.iconst 0, 1) := by decide +kernel
theorem dX0_hitsAhead_1 : decode cX0_hitsAhead 1 = .ok (.istore_n 2, 1) := by decide +kernel
theorem dX0_hitsAhead_2 : decode cX0_hitsAhead 2 = .ok (.aload_n 0, 1) := by decide +kernel
theorem dX0_hitsAhead_3 : decode cX0_hitsAhead 3 = .ok (.getfield 43, 3) := by decide +kernel
theorem dX0_hitsAhead_6 : decode cX0_hitsAhead 6 = .ok (.istore_n 3, 1) := by decide +kernel
theorem dX0_hitsAhead_7 : decode cX0_hitsAhead 7 = .ok (.iconst 1, 1) := by decide +kernel
theorem dX0_hitsAhead_8 : decode cX0_hitsAhead 8 = .ok (.istore 4, 2) := by decide +kernel
theorem dX0_hitsAhead_10 : decode cX0_hitsAhead 10 = .ok (.iload 4, 2) := by decide +kernel
theorem dX0_hitsAhead_12 : decode cX0_hitsAhead 12 = .ok (.iload_n 1, 1) := by decide +kernel
theorem dX0_hitsAhead_13 : decode cX0_hitsAhead 13 = .ok (.if_icmp .gt 43, 3) := by decide +kernel
theorem dX0_hitsAhead_16 : decode cX0_hitsAhead 16 = .ok (.aload_n 0, 1) := by decide +kernel
theorem dX0_hitsAhead_17 : decode cX0_hitsAhead 17 = .ok (.aload_n 0, 1) := by decide +kernel
theorem dX0_hitsAhead_18 : decode cX0_hitsAhead 18 = .ok (.getfield 46, 3) := by decide +kernel
theorem dX0_hitsAhead_21 : decode cX0_hitsAhead 21 = .ok (.iload 4, 2) := by decide +kernel
theorem dX0_hitsAhead_23 : decode cX0_hitsAhead 23 = .ok (.isub, 1) := by decide +kernel
theorem dX0_hitsAhead_24 : decode cX0_hitsAhead 24 = .ok (.iload_n 3, 1) := by decide +kernel
theorem dX0_hitsAhead_25 : decode cX0_hitsAhead 25 = .ok (.invokevirtual 119, 3) := by decide +kernel
theorem dX0_hitsAhead_28 : decode cX0_hitsAhead 28 = .ok (.istore 5, 2) := by decide +kernel
theorem dX0_hitsAhead_30 : decode cX0_hitsAhead 30 = .ok (.iload 5, 2) := by decide +kernel
theorem dX0_hitsAhead_32 : decode cX0_hitsAhead 32 = .ok (.ifCond .eq 9, 3) := by decide +kernel
theorem dX0_hitsAhead_35 : decode cX0_hitsAhead 35 = .ok (.iload 5, 2) := by decide +kernel
theorem dX0_hitsAhead_37 : decode cX0_hitsAhead 37 = .ok (.iconst 1, 1) := by decide +kernel
theorem dX0_hitsAhead_38 : decode cX0_hitsAhead 38 = .ok (.if_icmp .ne 6, 3) := by decide +kernel
theorem dX0_hitsAhead_41 : decode cX0_hitsAhead 41 = .ok (.iinc 2 1, 3) := by decide +kernel
theorem dX0_hitsAhead_44 : decode cX0_hitsAhead 44 = .ok (.aload_n 0, 1) := by decide +kernel
theorem dX0_hitsAhead_45 : decode cX0_hitsAhead 45 = .ok (.iload_n 3, 1) := by decide +kernel
theorem dX0_hitsAhead_46 : decode cX0_hitsAhead 46 = .ok (.invokevirtual 125, 3) := by decide +kernel
theorem dX0_hitsAhead_49 : decode cX0_hitsAhead 49 = .ok (.istore_n 3, 1) := by decide +kernel
theorem dX0_hitsAhead_50 : decode cX0_hitsAhead 50 = .ok (.iinc 4 1, 3) := by decide +kernel
theorem dX0_hitsAhead_53 : decode cX0_hitsAhead 53 = .ok (.goto (-43), 3) := by decide +kernel
theorem dX0_hitsAhead_56 : decode cX0_hitsAhead 56 = .ok (.iload_n 2, 1) := by decide +kernel
theorem dX0_hitsAhead_57 : decode cX0_hitsAhead 57 = .ok (.ireturn, 1) := by decide +kernel
theorem dX0_misses_0 : decode cX0_misses 0 = .ok (.aload_n 0, 1) := by decide +kernel
theorem dX0_misses_1 : decode cX0_misses 1 = .ok (.getfield 15, 3) := by decide +kernel
theorem dX0_misses_4 : decode cX0_misses 4 = .ok (.iconst 2, 1) := by decide +kernel
theorem dX0_misses_5 : decode cX0_misses 5 = .ok (.iaload, 1) := by decide +kernel
theorem dX0_misses_6 : decode cX0_misses 6 = .ok (.aload_n 0, 1) := by decide +kernel
theorem dX0_misses_7 : decode cX0_misses 7 = .ok (.getfield 15, 3) := by decide +kernel
theorem dX0_misses_10 : decode cX0_misses 10 = .ok (.iconst 3, 1) := by decide +kernel
theorem dX0_misses_11 : decode cX0_misses 11 = .ok (.iaload, 1) := by decide +kernel
theorem dX0_misses_12 : decode cX0_misses 12 = .ok (.iadd, 1) := by decide +kernel
theorem dX0_misses_13 : decode cX0_misses 13 = .ok (.ireturn, 1) := by decide +kernel
theorem dX1_init_0 : decode cX1_init 0 = .ok (.aload_n 0, 1) := by decide +kernel
theorem dX1_init_1 : decode cX1_init 1 = .ok (.invokespecial 3, 3) := by decide +kernel
theorem dX1_init_4 : decode cX1_init 4 = .ok (.aload_n 0, 1) := by decide +kernel
theorem dX1_init_5 : decode cX1_init 5 = .ok (.bipush 120, 2) := by decide +kernel
theorem dX1_init_7 : decode cX1_init 7 = .ok (.newarray .int, 2) := by decide +kernel
theorem dX1_init_9 : decode cX1_init 9 = .ok (.putfield 9, 3) := by decide +kernel
theorem dX1_init_12 : decode cX1_init 12 = .ok (.return_, 1) := by decide +kernel
theorem dX1_add_0 : decode cX1_add 0 = .ok (.aload_n 0, 1) := by decide +kernel
theorem dX1_add_1 : decode cX1_add 1 = .ok (.getfield 9, 3) := by decide +kernel
theorem dX1_add_4 : decode cX1_add 4 = .ok (.aload_n 0, 1) := by decide +kernel
theorem dX1_add_5 : decode cX1_add 5 = .ok (.getfield 15, 3) := by decide +kernel
theorem dX1_add_8 : decode cX1_add 8 = .ok (.iload_n 1, 1) := by decide +kernel
theorem dX1_add_9 : decode cX1_add 9 = .ok (.iastore, 1) := by decide +kernel
theorem dX1_add_10 : decode cX1_add 10 = .ok (.aload_n 0, 1) := by decide +kernel
theorem dX1_add_11 : decode cX1_add 11 = .ok (.dup, 1) := by decide +kernel
theorem dX1_add_12 : decode cX1_add 12 = .ok (.getfield 15, 3) := by decide +kernel
theorem dX1_add_15 : decode cX1_add 15 = .ok (.iconst 1, 1) := by decide +kernel
theorem dX1_add_16 : decode cX1_add 16 = .ok (.iadd, 1) := by decide +kernel
theorem dX1_add_17 : decode cX1_add 17 = .ok (.putfield 15, 3) := by decide +kernel
theorem dX1_add_20 : decode cX1_add 20 = .ok (.return_, 1) := by decide +kernel
theorem dX1_isAtEnd_0 : decode cX1_isAtEnd 0 = .ok (.aload_n 0, 1) := by decide +kernel
theorem dX1_isAtEnd_1 : decode cX1_isAtEnd 1 = .ok (.getfield 19, 3) := by decide +kernel
theorem dX1_isAtEnd_4 : decode cX1_isAtEnd 4 = .ok (.aload_n 0, 1) := by decide +kernel
theorem dX1_isAtEnd_5 : decode cX1_isAtEnd 5 = .ok (.getfield 15, 3) := by decide +kernel
theorem dX1_isAtEnd_8 : decode cX1_isAtEnd 8 = .ok (.if_icmp .lt 7, 3) := by decide +kernel
theorem dX1_isAtEnd_11 : decode cX1_isAtEnd 11 = .ok (.iconst 1, 1) := by decide +kernel
theorem dX1_isAtEnd_12 : decode cX1_isAtEnd 12 = .ok (.goto 4, 3) := by decide +kernel
theorem dX1_isAtEnd_15 : decode cX1_isAtEnd 15 = .ok (.iconst 0, 1) := by decide +kernel
theorem dX1_isAtEnd_16 : decode cX1_isAtEnd 16 = .ok (.ireturn, 1) := by decide +kernel
theorem dX1_sign_0 : decode cX1_sign 0 = .ok (.aload_n 0, 1) := by decide +kernel
theorem dX1_sign_1 : decode cX1_sign 1 = .ok (.getfield 19, 3) := by decide +kernel
theorem dX1_sign_4 : decode cX1_sign 4 = .ok (.aload_n 0, 1) := by decide +kernel
theorem dX1_sign_5 : decode cX1_sign 5 = .ok (.getfield 15, 3) := by decide +kernel
theorem dX1_sign_8 : decode cX1_sign 8 = .ok (.if_icmp .ge 15, 3) := by decide +kernel
theorem dX1_sign_11 : decode cX1_sign 11 = .ok (.aload_n 0, 1) := by decide +kernel
theorem dX1_sign_12 : decode cX1_sign 12 = .ok (.getfield 9, 3) := by decide +kernel
theorem dX1_sign_15 : decode cX1_sign 15 = .ok (.aload_n 0, 1) := by decide +kernel
theorem dX1_sign_16 : decode cX1_sign 16 = .ok (.getfield 19, 3) := by decide +kernel
theorem dX1_sign_19 : decode cX1_sign 19 = .ok (.iaload, 1) := by decide +kernel
theorem dX1_sign_20 : decode cX1_sign 20 = .ok (.goto 4, 3) := by decide +kernel
theorem dX1_sign_23 : decode cX1_sign 23 = .ok (.iconst 0, 1) := by decide +kernel
theorem dX1_sign_24 : decode cX1_sign 24 = .ok (.ireturn, 1) := by decide +kernel
theorem dX1_skipSpaces_0 : decode cX1_skipSpaces 0 = .ok (.aload_n 0, 1) := by decide +kernel
theorem dX1_skipSpaces_1 : decode cX1_skipSpaces 1 = .ok (.getfield 19, 3) := by decide +kernel
theorem dX1_skipSpaces_4 : decode cX1_skipSpaces 4 = .ok (.aload_n 0, 1) := by decide +kernel
theorem dX1_skipSpaces_5 : decode cX1_skipSpaces 5 = .ok (.getfield 15, 3) := by decide +kernel
theorem dX1_skipSpaces_8 : decode cX1_skipSpaces 8 = .ok (.if_icmp .ge 30, 3) := by decide +kernel
theorem dX1_skipSpaces_11 : decode cX1_skipSpaces 11 = .ok (.aload_n 0, 1) := by decide +kernel
theorem dX1_skipSpaces_12 : decode cX1_skipSpaces 12 = .ok (.getfield 9, 3) := by decide +kernel
theorem dX1_skipSpaces_15 : decode cX1_skipSpaces 15 = .ok (.aload_n 0, 1) := by decide +kernel
theorem dX1_skipSpaces_16 : decode cX1_skipSpaces 16 = .ok (.getfield 19, 3) := by decide +kernel
theorem dX1_skipSpaces_19 : decode cX1_skipSpaces 19 = .ok (.iaload, 1) := by decide +kernel
theorem dX1_skipSpaces_20 : decode cX1_skipSpaces 20 = .ok (.bipush 32, 2) := by decide +kernel
theorem dX1_skipSpaces_22 : decode cX1_skipSpaces 22 = .ok (.if_icmp .ne 16, 3) := by decide +kernel
theorem dX1_skipSpaces_25 : decode cX1_skipSpaces 25 = .ok (.aload_n 0, 1) := by decide +kernel
theorem dX1_skipSpaces_26 : decode cX1_skipSpaces 26 = .ok (.dup, 1) := by decide +kernel
theorem dX1_skipSpaces_27 : decode cX1_skipSpaces 27 = .ok (.getfield 19, 3) := by decide +kernel
theorem dX1_skipSpaces_30 : decode cX1_skipSpaces 30 = .ok (.iconst 1, 1) := by decide +kernel
theorem dX1_skipSpaces_31 : decode cX1_skipSpaces 31 = .ok (.iadd, 1) := by decide +kernel
theorem dX1_skipSpaces_32 : decode cX1_skipSpaces 32 = .ok (.putfield 19, 3) := by decide +kernel
theorem dX1_skipSpaces_35 : decode cX1_skipSpaces 35 = .ok (.goto (-35), 3) := by decide +kernel
theorem dX1_skipSpaces_38 : decode cX1_skipSpaces 38 = .ok (.return_, 1) := by decide +kernel
set_option maxRecDepth 20000 in
theorem ggX1_readSign_X1_skipSpaces : GoodIn wsX1_readSign wsX1_skipSpaces := goodIn_r _ [6, 1, 7, 8, 13, 14, 15] (by decide +kernel) (by decide +kernel)
set_option maxRecDepth 20000 in
theorem gX1_readSign_X1_skipSpaces : GoodIn wsX1_readSign (wsV RX1 22 RX1 yX1_skipSpaces wsX1_skipSpaces) := goodIn_app (goodIn_of _ (by decide +kernel)) ggX1_readSign_X1_skipSpaces
set_option maxRecDepth 20000 in
theorem ggX1_readSign_X1_sign : GoodIn wsX1_readSign wsX1_sign := goodIn_r _ [12, 1, 7, 8, 13, 14, 15] (by decide +kernel) (by decide +kernel)
set_option maxRecDepth 20000 in
theorem gX1_readSign_X1_sign : GoodIn wsX1_readSign (wsV RX1 25 RX1 yX1_sign wsX1_sign) := goodIn_app (goodIn_of _ (by decide +kernel)) ggX1_readSign_X1_sign
theorem dX1_readSign_0 : decode cX1_readSign 0 = .ok (.aload_n 0, 1) := by decide +kernel
theorem dX1_readSign_1 : decode cX1_readSign 1 = .ok (.invokevirtual 22, 3) := by decide +kernel
theorem dX1_readSign_4 : decode cX1_readSign 4 = .ok (.aload_n 0, 1) := by decide +kernel
theorem dX1_readSign_5 : decode cX1_readSign 5 = .ok (.invokevirtual 25, 3) := by decide +kernel
theorem dX1_readSign_8 : decode cX1_readSign 8 = .ok (.iload_n 1, 1) := by decide +kernel
theorem dX1_readSign_9 : decode cX1_readSign 9 = .ok (.if_icmp .eq 5, 3) := by decide +kernel
theorem dX1_readSign_12 : decode cX1_readSign 12 = .ok (.iconst 0, 1) := by decide +kernel
theorem dX1_readSign_13 : decode cX1_readSign 13 = .ok (.ireturn, 1) := by decide +kernel
theorem dX1_readSign_14 : decode cX1_readSign 14 = .ok (.aload_n 0, 1) := by decide +kernel
theorem dX1_readSign_15 : decode cX1_readSign 15 = .ok (.dup, 1) := by decide +kernel
theorem dX1_readSign_16 : decode cX1_readSign 16 = .ok (.getfield 19, 3) := by decide +kernel
theorem dX1_readSign_19 : decode cX1_readSign 19 = .ok (.iconst 1, 1) := by decide +kernel
theorem dX1_readSign_20 : decode cX1_readSign 20 = .ok (.iadd, 1) := by decide +kernel
theorem dX1_readSign_21 : decode cX1_readSign 21 = .ok (.putfield 19, 3) := by decide +kernel
theorem dX1_readSign_24 : decode cX1_readSign 24 = .ok (.iconst 1, 1) := by decide +kernel
theorem dX1_readSign_25 : decode cX1_readSign 25 = .ok (.ireturn, 1) := by decide +kernel
set_option maxRecDepth 20000 in
theorem ggX1_readNumber_X1_skipSpaces : GoodIn wsX1_readNumber wsX1_skipSpaces := goodIn_r _ [8, 1, 2, 3, 12, 13, 14] (by decide +kernel) (by decide +kernel)
set_option maxRecDepth 20000 in
theorem gX1_readNumber_X1_skipSpaces : GoodIn wsX1_readNumber (wsV RX1 22 RX1 yX1_skipSpaces wsX1_skipSpaces) := goodIn_app (goodIn_of _ (by decide +kernel)) ggX1_readNumber_X1_skipSpaces
set_option maxRecDepth 20000 in
theorem ggX1_readNumber_X1_isDigit : GoodIn wsX1_readNumber wsX1_isDigit := goodIn_r _ [11] (by decide +kernel) (by decide +kernel)
set_option maxRecDepth 20000 in
theorem gX1_readNumber_X1_isDigit : GoodIn wsX1_readNumber (va_wsS RX1 29 yX1_isDigit wsX1_isDigit) := goodIn_app (goodIn_of _ (by decide +kernel)) ggX1_readNumber_X1_isDigit
theorem dX1_readNumber_0 : decode cX1_readNumber 0 = .ok (.aload_n 0, 1) := by decide +kernel
theorem dX1_readNumber_1 : decode cX1_readNumber 1 = .ok (.invokevirtual 22, 3) := by decide +kernel
theorem dX1_readNumber_4 : decode cX1_readNumber 4 = .ok (.aload_n 0, 1) := by decide +kernel
theorem dX1_readNumber_5 : decode cX1_readNumber 5 = .ok (.getfield 19, 3) := by decide +kernel
theorem dX1_readNumber_8 : decode cX1_readNumber 8 = .ok (.istore_n 1, 1) := by decide +kernel
theorem dX1_readNumber_9 : decode cX1_readNumber 9 = .ok (.iconst 0, 1) := by decide +kernel
theorem dX1_readNumber_10 : decode cX1_readNumber 10 = .ok (.istore_n 2, 1) := by decide +kernel
theorem dX1_readNumber_11 : decode cX1_readNumber 11 = .ok (.aload_n 0, 1) := by decide +kernel
theorem dX1_readNumber_12 : decode cX1_readNumber 12 = .ok (.getfield 19, 3) := by decide +kernel
theorem dX1_readNumber_15 : decode cX1_readNumber 15 = .ok (.aload_n 0, 1) := by decide +kernel
theorem dX1_readNumber_16 : decode cX1_readNumber 16 = .ok (.getfield 15, 3) := by decide +kernel
theorem dX1_readNumber_19 : decode cX1_readNumber 19 = .ok (.if_icmp .ge 59, 3) := by decide +kernel
theorem dX1_readNumber_22 : decode cX1_readNumber 22 = .ok (.aload_n 0, 1) := by decide +kernel
theorem dX1_readNumber_23 : decode cX1_readNumber 23 = .ok (.getfield 19, 3) := by decide +kernel
theorem dX1_readNumber_26 : decode cX1_readNumber 26 = .ok (.iload_n 1, 1) := by decide +kernel
theorem dX1_readNumber_27 : decode cX1_readNumber 27 = .ok (.isub, 1) := by decide +kernel
theorem dX1_readNumber_28 : decode cX1_readNumber 28 = .ok (.iconst 3, 1) := by decide +kernel
theorem dX1_readNumber_29 : decode cX1_readNumber 29 = .ok (.if_icmp .gt 49, 3) := by decide +kernel
theorem dX1_readNumber_32 : decode cX1_readNumber 32 = .ok (.aload_n 0, 1) := by decide +kernel
theorem dX1_readNumber_33 : decode cX1_readNumber 33 = .ok (.getfield 9, 3) := by decide +kernel
theorem dX1_readNumber_36 : decode cX1_readNumber 36 = .ok (.aload_n 0, 1) := by decide +kernel
theorem dX1_readNumber_37 : decode cX1_readNumber 37 = .ok (.getfield 19, 3) := by decide +kernel
theorem dX1_readNumber_40 : decode cX1_readNumber 40 = .ok (.iaload, 1) := by decide +kernel
theorem dX1_readNumber_41 : decode cX1_readNumber 41 = .ok (.invokestatic 29, 3) := by decide +kernel
theorem dX1_readNumber_44 : decode cX1_readNumber 44 = .ok (.ifCond .eq 34, 3) := by decide +kernel
theorem dX1_readNumber_47 : decode cX1_readNumber 47 = .ok (.bipush 10, 2) := by decide +kernel
theorem dX1_readNumber_49 : decode cX1_readNumber 49 = .ok (.iload_n 2, 1) := by decide +kernel
theorem dX1_readNumber_50 : decode cX1_readNumber 50 = .ok (.imul, 1) := by decide +kernel
theorem dX1_readNumber_51 : decode cX1_readNumber 51 = .ok (.aload_n 0, 1) := by decide +kernel
theorem dX1_readNumber_52 : decode cX1_readNumber 52 = .ok (.getfield 9, 3) := by decide +kernel
theorem dX1_readNumber_55 : decode cX1_readNumber 55 = .ok (.aload_n 0, 1) := by decide +kernel
theorem dX1_readNumber_56 : decode cX1_readNumber 56 = .ok (.getfield 19, 3) := by decide +kernel
theorem dX1_readNumber_59 : decode cX1_readNumber 59 = .ok (.iaload, 1) := by decide +kernel
theorem dX1_readNumber_60 : decode cX1_readNumber 60 = .ok (.iadd, 1) := by decide +kernel
theorem dX1_readNumber_61 : decode cX1_readNumber 61 = .ok (.bipush 48, 2) := by decide +kernel
theorem dX1_readNumber_63 : decode cX1_readNumber 63 = .ok (.isub, 1) := by decide +kernel
theorem dX1_readNumber_64 : decode cX1_readNumber 64 = .ok (.istore_n 2, 1) := by decide +kernel
theorem dX1_readNumber_65 : decode cX1_readNumber 65 = .ok (.aload_n 0, 1) := by decide +kernel
theorem dX1_readNumber_66 : decode cX1_readNumber 66 = .ok (.dup, 1) := by decide +kernel
theorem dX1_readNumber_67 : decode cX1_readNumber 67 = .ok (.getfield 19, 3) := by decide +kernel
theorem dX1_readNumber_70 : decode cX1_readNumber 70 = .ok (.iconst 1, 1) := by decide +kernel
theorem dX1_readNumber_71 : decode cX1_readNumber 71 = .ok (.iadd, 1) := by decide +kernel
theorem dX1_readNumber_72 : decode cX1_readNumber 72 = .ok (.putfield 19, 3) := by decide +kernel
theorem dX1_readNumber_75 : decode cX1_readNumber 75 = .ok (.goto (-64), 3) := by decide +kernel
theorem dX1_readNumber_78 : decode cX1_readNumber 78 = .ok (.aload_n 0, 1) := by decide +kernel
theorem dX1_readNumber_79 : decode cX1_readNumber 79 = .ok (.getfield 19, 3) := by decide +kernel
theorem dX1_readNumber_82 : decode cX1_readNumber 82 = .ok (.iload_n 1, 1) := by decide +kernel
theorem dX1_readNumber_83 : decode cX1_readNumber 83 = .ok (.isub, 1) := by decide +kernel
theorem dX1_readNumber_84 : decode cX1_readNumber 84 = .ok (.istore_n 3, 1) := by decide +kernel
theorem dX1_readNumber_85 : decode cX1_readNumber 85 = .ok (.iload_n 3, 1) := by decide +kernel
theorem dX1_readNumber_86 : decode cX1_readNumber 86 = .ok (.iconst 1, 1) := by decide +kernel
theorem dX1_readNumber_87 : decode cX1_readNumber 87 = .ok (.if_icmp .eq 24, 3) := by decide +kernel
theorem dX1_readNumber_90 : decode cX1_readNumber 90 = .ok (.iload_n 3, 1) := by decide +kernel
theorem dX1_readNumber_91 : decode cX1_readNumber 91 = .ok (.iconst 1, 1) := by decide +kernel
theorem dX1_readNumber_92 : decode cX1_readNumber 92 = .ok (.if_icmp .le 23, 3) := by decide +kernel
theorem dX1_readNumber_95 : decode cX1_readNumber 95 = .ok (.iload_n 3, 1) := by decide +kernel
theorem dX1_readNumber_96 : decode cX1_readNumber 96 = .ok (.iconst 3, 1) := by decide +kernel
theorem dX1_readNumber_97 : decode cX1_readNumber 97 = .ok (.if_icmp .gt 18, 3) := by decide +kernel
theorem dX1_readNumber_100 : decode cX1_readNumber 100 = .ok (.aload_n 0, 1) := by decide +kernel
theorem dX1_readNumber_101 : decode cX1_readNumber 101 = .ok (.getfield 9, 3) := by decide +kernel
theorem dX1_readNumber_104 : decode cX1_readNumber 104 = .ok (.iload_n 1, 1) := by decide +kernel
theorem dX1_readNumber_105 : decode cX1_readNumber 105 = .ok (.iaload, 1) := by decide +kernel
theorem dX1_readNumber_106 : decode cX1_readNumber 106 = .ok (.bipush 48, 2) := by decide +kernel
theorem dX1_readNumber_108 : decode cX1_readNumber 108 = .ok (.if_icmp .eq 7, 3) := by decide +kernel
theorem dX1_readNumber_111 : decode cX1_readNumber 111 = .ok (.iconst 1, 1) := by decide +kernel
theorem dX1_readNumber_112 : decode cX1_readNumber 112 = .ok (.goto 4, 3) := by decide +kernel
theorem dX1_readNumber_115 : decode cX1_readNumber 115 = .ok (.iconst 0, 1) := by decide +kernel
theorem dX1_readNumber_116 : decode cX1_readNumber 116 = .ok (.istore 4, 2) := by decide +kernel
theorem dX1_readNumber_118 : decode cX1_readNumber 118 = .ok (.iload 4, 2) := by decide +kernel
theorem dX1_readNumber_120 : decode cX1_readNumber 120 = .ok (.ifCond .ne 10, 3) := by decide +kernel
theorem dX1_readNumber_123 : decode cX1_readNumber 123 = .ok (.aload_n 0, 1) := by decide +kernel
theorem dX1_readNumber_124 : decode cX1_readNumber 124 = .ok (.iload_n 1, 1) := by decide +kernel
theorem dX1_readNumber_125 : decode cX1_readNumber 125 = .ok (.putfield 19, 3) := by decide +kernel
theorem dX1_readNumber_128 : decode cX1_readNumber 128 = .ok (.iconst (-1), 1) := by decide +kernel
theorem dX1_readNumber_129 : decode cX1_readNumber 129 = .ok (.ireturn, 1) := by decide +kernel
theorem dX1_readNumber_130 : decode cX1_readNumber 130 = .ok (.iload_n 2, 1) := by decide +kernel
theorem dX1_readNumber_131 : decode cX1_readNumber 131 = .ok (.ireturn, 1) := by decide +kernel
theorem dX1_isDigit_0 : decode cX1_isDigit 0 = .ok (.iload_n 0, 1) := by decide +kernel
theorem dX1_isDigit_1 : decode cX1_isDigit 1 = .ok (.bipush 48, 2) := by decide +kernel
theorem dX1_isDigit_3 : decode cX1_isDigit 3 = .ok (.if_icmp .lt 13, 3) := by decide +kernel
theorem dX1_isDigit_6 : decode cX1_isDigit 6 = .ok (.iload_n 0, 1) := by decide +kernel
theorem dX1_isDigit_7 : decode cX1_isDigit 7 = .ok (.bipush 57, 2) := by decide +kernel
theorem dX1_isDigit_9 : decode cX1_isDigit 9 = .ok (.if_icmp .gt 7, 3) := by decide +kernel
theorem dX1_isDigit_12 : decode cX1_isDigit 12 = .ok (.iconst 1, 1) := by decide +kernel
theorem dX1_isDigit_13 : decode cX1_isDigit 13 = .ok (.goto 4, 3) := by decide +kernel
theorem dX1_isDigit_16 : decode cX1_isDigit 16 = .ok (.iconst 0, 1) := by decide +kernel
theorem dX1_isDigit_17 : decode cX1_isDigit 17 = .ok (.ireturn, 1) := by decide +kernel
set_option maxRecDepth 20000 in
theorem ggX2_init_X0_init : GoodIn wsX2_init wsX0_init := goodIn_r _ [17, 18, 2, 3, 19, 20, 21, 22, 23, 24, 25, 26, 27, 28, 29, 30, 6, 31, 32, 33, 34, 35, 36, 37, 38, 39, 40, 41, 46, 47, 48, 49, 50, 51, 52, 53, 54, 55, 56, 57, 58, 59] (by decide +kernel) (by decide +kernel)
set_option maxRecDepth 20000 in
theorem gX2_init_X0_init : GoodIn wsX2_init (wsX0_init) := ggX2_init_X0_init
set_option maxRecDepth 20000 in
theorem ggX2_init_X1_init : GoodIn wsX2_init wsX1_init := goodIn_r _ [43, 44, 2, 3, 19, 45, 66, 67, 68] (by decide +kernel) (by decide +kernel)
set_option maxRecDepth 20000 in
theorem gX2_init_X1_init_n28 : GoodIn wsX2_init (wsX1_init) := ggX2_init_X1_init
theorem dX2_init_0 : decode cX2_init 0 = .ok (.aload_n 0, 1) := by decide +kernel
theorem dX2_init_1 : decode cX2_init 1 = .ok (.invokespecial 1, 3) := by decide +kernel
theorem dX2_init_4 : decode cX2_init 4 = .ok (.aload_n 0, 1) := by decide +kernel
theorem dX2_init_5 : decode cX2_init 5 = .ok (.new 7, 3) := by decide +kernel
theorem dX2_init_8 : decode cX2_init 8 = .ok (.dup, 1) := by decide +kernel
theorem dX2_init_9 : decode cX2_init 9 = .ok (.invokespecial 9, 3) := by decide +kernel
theorem dX2_init_12 : decode cX2_init 12 = .ok (.putfield 10, 3) := by decide +kernel
theorem dX2_init_15 : decode cX2_init 15 = .ok (.aload_n 0, 1) := by decide +kernel
theorem dX2_init_16 : decode cX2_init 16 = .ok (.new 7, 3) := by decide +kernel
theorem dX2_init_19 : decode cX2_init 19 = .ok (.dup, 1) := by decide +kernel
theorem dX2_init_20 : decode cX2_init 20 = .ok (.invokespecial 9, 3) := by decide +kernel
theorem dX2_init_23 : decode cX2_init 23 = .ok (.putfield 16, 3) := by decide +kernel
theorem dX2_init_26 : decode cX2_init 26 = .ok (.aload_n 0, 1) := by decide +kernel
theorem dX2_init_27 : decode cX2_init 27 = .ok (.new 7, 3) := by decide +kernel
theorem dX2_init_30 : decode cX2_init 30 = .ok (.dup, 1) := by decide +kernel
theorem dX2_init_31 : decode cX2_init 31 = .ok (.invokespecial 9, 3) := by decide +kernel
theorem dX2_init_34 : decode cX2_init 34 = .ok (.putfield 19, 3) := by decide +kernel
theorem dX2_init_37 : decode cX2_init 37 = .ok (.aload_n 0, 1) := by decide +kernel
theorem dX2_init_38 : decode cX2_init 38 = .ok (.iconst 5, 1) := by decide +kernel
theorem dX2_init_39 : decode cX2_init 39 = .ok (.anewarray 7, 3) := by decide +kernel
theorem dX2_init_42 : decode cX2_init 42 = .ok (.putfield 22, 3) := by decide +kernel
theorem dX2_init_45 : decode cX2_init 45 = .ok (.aload_n 0, 1) := by decide +kernel
theorem dX2_init_46 : decode cX2_init 46 = .ok (.new 26, 3) := by decide +kernel
theorem dX2_init_49 : decode cX2_init 49 = .ok (.dup, 1) := by decide +kernel
theorem dX2_init_50 : decode cX2_init 50 = .ok (.invokespecial 28, 3) := by decide +kernel
theorem dX2_init_53 : decode cX2_init 53 = .ok (.putfield 29, 3) := by decide +kernel
theorem dX2_init_56 : decode cX2_init 56 = .ok (.iconst 0, 1) := by decide +kernel
theorem dX2_init_57 : decode cX2_init 57 = .ok (.istore_n 1, 1) := by decide +kernel
theorem dX2_init_58 : decode cX2_init 58 = .ok (.iload_n 1, 1) := by decide +kernel
theorem dX2_init_59 : decode cX2_init 59 = .ok (.iconst 5, 1) := by decide +kernel
theorem dX2_init_60 : decode cX2_init 60 = .ok (.if_icmp .ge 22, 3) := by decide +kernel
theorem dX2_init_63 : decode cX2_init 63 = .ok (.aload_n 0, 1) := by decide +kernel
theorem dX2_init_64 : decode cX2_init 64 = .ok (.getfield 22, 3) := by decide +kernel
theorem dX2_init_67 : decode cX2_init 67 = .ok (.iload_n 1, 1) := by decide +kernel
theorem dX2_init_68 : decode cX2_init 68 = .ok (.new 7, 3) := by decide +kernel
theorem dX2_init_71 : decode cX2_init 71 = .ok (.dup, 1) := by decide +kernel
theorem dX2_init_72 : decode cX2_init 72 = .ok (.invokespecial 9, 3) := by decide +kernel
theorem dX2_init_75 : decode cX2_init 75 = .ok (.aastore, 1) := by decide +kernel
theorem dX2_init_76 : decode cX2_init 76 = .ok (.iinc 1 1, 3) := by decide +kernel
theorem dX2_init_79 : decode cX2_init 79 = .ok (.goto (-21), 3) := by decide +kernel
theorem dX2_init_82 : decode cX2_init 82 = .ok (.return_, 1) := by decide +kernel
set_option maxRecDepth 20000 in
theorem ggX2_call_X2_takeAsAction : GoodIn wsX2_call wsX2_takeAsAction := goodIn_r _ [5, 6, 7, 8, 9, 10, 11, 12, 13, 14, 15, 16, 17, 18, 19, 20, 21, 22, 23, 24, 25, 26, 27, 28, 29, 30, 31, 32, 33, 34, 35, 36, 37, 38, 39, 40, 41, 42, 43, 44, 45, 46, 47, 48, 49, 50, 51, 52, 53, 54, 55, 56, 57, 58, 59, 60, 61, 62, 63, 64, 65, 66, 67, 68, 69, 70, 71, 72, 73, 74, 75, 76, 77, 78, 79, 80, 81, 82, 83, 84, 85, 86, 87, 88, 89, 90, 91, 92, 93, 94, 95, 96, 97, 4, 98, 99, 100, 101, 102, 103, 104, 105, 106, 107, 108, 109, 110, 111, 112, 113, 114, 115, 116, 117, 118, 119, 120, 121, 122, 123, 124] (by decide +kernel) (by decide +kernel)
set_option maxRecDepth 20000 in
theorem gX2_call_X2_takeAsAction : GoodIn wsX2_call (wsV RX2 33 RX2 yX2_takeAsAction wsX2_takeAsAction) := goodIn_app (goodIn_of _ (by decide +kernel)) ggX2_call_X2_takeAsAction
theorem dX2_call_0 : decode cX2_call 0 = .ok (.aload_n 0, 1) := by decide +kernel
theorem dX2_call_1 : decode cX2_call 1 = .ok (.iconst 0, 1) := by decide +kernel
theorem dX2_call_2 : decode cX2_call 2 = .ok (.iload_n 1, 1) := by decide +kernel
theorem dX2_call_3 : decode cX2_call 3 = .ok (.iload_n 2, 1) := by decide +kernel
end
section
theorem dX2_call_4 : decode cX2_call 4 = .ok (.invokevirtual 33, 3) := by decide +kernel
theorem dX2_call_7 : decode cX2_call 7 = .ok (.ireturn, 1) := by decide +kernel
set_option maxRecDepth 20000 in
theorem ggX2_tail_X2_takeAsAction : GoodIn wsX2_tail wsX2_takeAsAction := goodIn_r _ [5, 6, 7, 8, 9, 10, 11, 12, 13, 14, 15, 16, 17, 18, 19, 20, 21, 22, 23, 24, 25, 26, 27, 28, 29, 30, 31, 32, 33, 34, 35, 36, 37, 38, 39, 40, 41, 42, 43, 44, 45, 46, 47, 48, 49, 50, 51, 52, 53, 54, 55, 56, 57, 58, 59, 60, 61, 62, 63, 64, 65, 66, 67, 68, 69, 70, 71, 72, 73, 74, 75, 76, 77, 78, 79, 80, 81, 82, 83, 84, 85, 86, 87, 88, 89, 90, 91, 92, 93, 94, 95, 96, 97, 4, 98, 99, 100, 101, 102, 103, 104, 105, 106, 107, 108, 109, 110, 111, 112, 113, 114, 115, 116, 117, 118, 119, 120, 121, 122, 123, 124] (by decide +kernel) (by decide +kernel)
set_option maxRecDepth 20000 in
theorem gX2_tail_X2_takeAsAction : GoodIn wsX2_tail (wsV RX2 33 RX2 yX2_takeAsAction wsX2_takeAsAction) := goodIn_app (goodIn_of _ (by decide +kernel)) ggX2_tail_X2_takeAsAction
theorem dX2_tail_0 : decode cX2_tail 0 = .ok (.aload_n 0, 1) := by decide +kernel
theorem dX2_tail_1 : decode cX2_tail 1 = .ok (.iconst 1, 1) := by decide +kernel
theorem dX2_tail_2 : decode cX2_tail 2 = .ok (.iload_n 1, 1) := by decide +kernel
theorem dX2_tail_3 : decode cX2_tail 3 = .ok (.iconst 0, 1) := by decide +kernel
theorem dX2_tail_4 : decode cX2_tail 4 = .ok (.invokevirtual 33, 3) := by decide +kernel
theorem dX2_tail_7 : decode cX2_tail 7 = .ok (.ireturn, 1) := by decide +kernel
set_option maxRecDepth 20000 in
theorem ggX2_ret_X2_takeAsAction : GoodIn wsX2_ret wsX2_takeAsAction := goodIn_r _ [5, 6, 7, 8, 9, 10, 11, 12, 13, 14, 15, 16, 17, 18, 19, 20, 21, 22, 23, 24, 25, 26, 27, 28, 29, 30, 31, 32, 33, 34, 35, 36, 37, 38, 39, 40, 41, 42, 43, 44, 45, 46, 47, 48, 49, 50, 51, 52, 53, 54, 55, 56, 57, 58, 59, 60, 61, 62, 63, 64, 65, 66, 67, 68, 69, 70, 71, 72, 73, 74, 75, 76, 77, 78, 79, 80, 81, 82, 83, 84, 85, 86, 87, 88, 89, 90, 91, 92, 93, 94, 95, 96, 97, 4, 98, 99, 100, 101, 102, 103, 104, 105, 106, 107, 108, 109, 110, 111, 112, 113, 114, 115, 116, 117, 118, 119, 120, 121, 122, 123, 124] (by decide +kernel) (by decide +kernel)
set_option maxRecDepth 20000 in
theorem gX2_ret_X2_takeAsAction : GoodIn wsX2_ret (wsV RX2 33 RX2 yX2_takeAsAction wsX2_takeAsAction) := goodIn_app (goodIn_of _ (by decide +kernel)) ggX2_ret_X2_takeAsAction
theorem dX2_ret_0 : decode cX2_ret 0 = .ok (.aload_n 0, 1) := by decide +kernel
theorem dX2_ret_1 : decode cX2_ret 1 = .ok (.iconst 2, 1) := by decide +kernel
theorem dX2_ret_2 : decode cX2_ret 2 = .ok (.iconst 0, 1) := by decide +kernel
theorem dX2_ret_3 : decode cX2_ret 3 = .ok (.iconst 0, 1) := by decide +kernel
theorem dX2_ret_4 : decode cX2_ret 4 = .ok (.invokevirtual 33, 3) := by decide +kernel
theorem dX2_ret_7 : decode cX2_ret 7 = .ok (.ireturn, 1) := by decide +kernel
set_option maxRecDepth 20000 in
theorem ggX2_raise_X2_takeAsAction : GoodIn wsX2_raise wsX2_takeAsAction := goodIn_r _ [5, 6, 7, 8, 9, 10, 11, 12, 13, 14, 15, 16, 17, 18, 19, 20, 21, 22, 23, 24, 25, 26, 27, 28, 29, 30, 31, 32, 33, 34, 35, 36, 37, 38, 39, 40, 41, 42, 43, 44, 45, 46, 47, 48, 49, 50, 51, 52, 53, 54, 55, 56, 57, 58, 59, 60, 61, 62, 63, 64, 65, 66, 67, 68, 69, 70, 71, 72, 73, 74, 75, 76, 77, 78, 79, 80, 81, 82, 83, 84, 85, 86, 87, 88, 89, 90, 91, 92, 93, 94, 95, 96, 97, 4, 98, 99, 100, 101, 102, 103, 104, 105, 106, 107, 108, 109, 110, 111, 112, 113, 114, 115, 116, 117, 118, 119, 120, 121, 122, 123, 124] (by decide +kernel) (by decide +kernel)
set_option maxRecDepth 20000 in
theorem gX2_raise_X2_takeAsAction : GoodIn wsX2_raise (wsV RX2 33 RX2 yX2_takeAsAction wsX2_takeAsAction) := goodIn_app (goodIn_of _ (by decide +kernel)) ggX2_raise_X2_takeAsAction
theorem dX2_raise_0 : decode cX2_raise 0 = .ok (.aload_n 0, 1) := by decide +kernel
theorem dX2_raise_1 : decode cX2_raise 1 = .ok (.iconst 3, 1) := by decide +kernel
theorem dX2_raise_2 : decode cX2_raise 2 = .ok (.iconst 0, 1) := by decide +kernel
theorem dX2_raise_3 : decode cX2_raise 3 = .ok (.iload_n 1, 1) := by decide +kernel
theorem dX2_raise_4 : decode cX2_raise 4 = .ok (.invokevirtual 33, 3) := by decide +kernel
theorem dX2_raise_7 : decode cX2_raise 7 = .ok (.ireturn, 1) := by decide +kernel
set_option maxRecDepth 20000 in
theorem ggX2_setRepair_X2_record : GoodIn wsX2_setRepair wsX2_record := goodIn_r _ [7, 8, 9, 10, 11, 12, 6, 13, 14, 15, 16, 17, 18, 19, 20, 21, 22, 23, 24, 25, 26, 27, 28, 29, 30, 31, 32, 33, 34, 35, 36, 37, 38, 39, 40, 41, 42, 43, 44, 45, 46, 47, 48, 49, 50, 51, 52, 53, 54, 55, 56, 57, 58, 59] (by decide +kernel) (by decide +kernel)
set_option maxRecDepth 20000 in
theorem gX2_setRepair_X2_record : GoodIn wsX2_setRepair (wsV RX2 37 RX2 yX2_record wsX2_record) := goodIn_app (goodIn_of _ (by decide +kernel)) ggX2_setRepair_X2_record
theorem dX2_setRepair_0 : decode cX2_setRepair 0 = .ok (.iload_n 1, 1) := by decide +kernel
theorem dX2_setRepair_1 : decode cX2_setRepair 1 = .ok (.ifCond .lt 8, 3) := by decide +kernel
theorem dX2_setRepair_4 : decode cX2_setRepair 4 = .ok (.iload_n 1, 1) := by decide +kernel
theorem dX2_setRepair_5 : decode cX2_setRepair 5 = .ok (.iconst 1, 1) := by decide +kernel
theorem dX2_setRepair_6 : decode cX2_setRepair 6 = .ok (.if_icmp .le 5, 3) := by decide +kernel
theorem dX2_setRepair_9 : decode cX2_setRepair 9 = .ok (.iconst (-1), 1) := by decide +kernel
theorem dX2_setRepair_10 : decode cX2_setRepair 10 = .ok (.ireturn, 1) := by decide +kernel
theorem dX2_setRepair_11 : decode cX2_setRepair 11 = .ok (.aload_n 0, 1) := by decide +kernel
theorem dX2_setRepair_12 : decode cX2_setRepair 12 = .ok (.aload_n 0, 1) := by decide +kernel
theorem dX2_setRepair_13 : decode cX2_setRepair 13 = .ok (.getfield 10, 3) := by decide +kernel
theorem dX2_setRepair_16 : decode cX2_setRepair 16 = .ok (.invokevirtual 37, 3) := by decide +kernel
theorem dX2_setRepair_19 : decode cX2_setRepair 19 = .ok (.aload_n 0, 1) := by decide +kernel
theorem dX2_setRepair_20 : decode cX2_setRepair 20 = .ok (.getfield 10, 3) := by decide +kernel
theorem dX2_setRepair_23 : decode cX2_setRepair 23 = .ok (.getfield 41, 3) := by decide +kernel
theorem dX2_setRepair_26 : decode cX2_setRepair 26 = .ok (.istore_n 2, 1) := by decide +kernel
theorem dX2_setRepair_27 : decode cX2_setRepair 27 = .ok (.aload_n 0, 1) := by decide +kernel
theorem dX2_setRepair_28 : decode cX2_setRepair 28 = .ok (.getfield 10, 3) := by decide +kernel
theorem dX2_setRepair_31 : decode cX2_setRepair 31 = .ok (.iload_n 1, 1) := by decide +kernel
theorem dX2_setRepair_32 : decode cX2_setRepair 32 = .ok (.putfield 41, 3) := by decide +kernel
theorem dX2_setRepair_35 : decode cX2_setRepair 35 = .ok (.iload_n 2, 1) := by decide +kernel
theorem dX2_setRepair_36 : decode cX2_setRepair 36 = .ok (.ireturn, 1) := by decide +kernel
set_option maxRecDepth 20000 in
theorem ggX2_begin_X2_isSize : GoodIn wsX2_begin wsX2_isSize := goodIn_r _ [6] (by decide +kernel) (by decide +kernel)
set_option maxRecDepth 20000 in
theorem gX2_begin_X2_isSize : GoodIn wsX2_begin (va_wsS RX2 45 yX2_isSize wsX2_isSize) := goodIn_app (goodIn_of _ (by decide +kernel)) ggX2_begin_X2_isSize
set_option maxRecDepth 20000 in
theorem ggX2_begin_X2_record : GoodIn wsX2_begin wsX2_record := goodIn_r _ [10, 11, 12, 13, 14, 15, 5, 16, 17, 18, 19, 20, 21, 22, 23, 24, 25, 26, 27, 28, 29, 30, 31, 32, 33, 34, 35, 36, 37, 38, 39, 40, 41, 42, 51, 52, 53, 54, 55, 56, 57, 58, 59, 60, 61, 62, 63, 64, 65, 66, 67, 68, 69, 70] (by decide +kernel) (by decide +kernel)
set_option maxRecDepth 20000 in
theorem gX2_begin_X2_record : GoodIn wsX2_begin (wsV RX2 37 RX2 yX2_record wsX2_record) := goodIn_app (goodIn_of _ (by decide +kernel)) ggX2_begin_X2_record
set_option maxRecDepth 20000 in
theorem ggX2_begin_X0_beginAnew : GoodIn wsX2_begin wsX0_beginAnew := goodIn_r _ [46, 23, 24, 25, 26, 27, 28, 29, 34, 35, 37, 47, 48, 49, 50, 57, 58, 59, 60, 61, 62, 63, 64, 65, 66, 67, 68, 69, 70] (by decide +kernel) (by decide +kernel)
set_option maxRecDepth 20000 in
theorem gX2_begin_X0_beginAnew : GoodIn wsX2_begin (wsV RX2 52 RX0 yX0_beginAnew wsX0_beginAnew) := goodIn_app (goodIn_of _ (by decide +kernel)) ggX2_begin_X0_beginAnew
theorem dX2_begin_0 : decode cX2_begin 0 = .ok (.iload_n 1, 1) := by decide +kernel
theorem dX2_begin_1 : decode cX2_begin 1 = .ok (.invokestatic 45, 3) := by decide +kernel
theorem dX2_begin_4 : decode cX2_begin 4 = .ok (.ifCond .ne 5, 3) := by decide +kernel
theorem dX2_begin_7 : decode cX2_begin 7 = .ok (.iconst (-1), 1) := by decide +kernel
theorem dX2_begin_8 : decode cX2_begin 8 = .ok (.ireturn, 1) := by decide +kernel
theorem dX2_begin_9 : decode cX2_begin 9 = .ok (.aload_n 0, 1) := by decide +kernel
theorem dX2_begin_10 : decode cX2_begin 10 = .ok (.aload_n 0, 1) := by decide +kernel
theorem dX2_begin_11 : decode cX2_begin 11 = .ok (.getfield 10, 3) := by decide +kernel
theorem dX2_begin_14 : decode cX2_begin 14 = .ok (.invokevirtual 37, 3) := by decide +kernel
theorem dX2_begin_17 : decode cX2_begin 17 = .ok (.aload_n 0, 1) := by decide +kernel
theorem dX2_begin_18 : decode cX2_begin 18 = .ok (.getfield 10, 3) := by decide +kernel
theorem dX2_begin_21 : decode cX2_begin 21 = .ok (.getfield 49, 3) := by decide +kernel
theorem dX2_begin_24 : decode cX2_begin 24 = .ok (.istore_n 2, 1) := by decide +kernel
theorem dX2_begin_25 : decode cX2_begin 25 = .ok (.aload_n 0, 1) := by decide +kernel
theorem dX2_begin_26 : decode cX2_begin 26 = .ok (.getfield 10, 3) := by decide +kernel
theorem dX2_begin_29 : decode cX2_begin 29 = .ok (.iload_n 1, 1) := by decide +kernel
theorem dX2_begin_30 : decode cX2_begin 30 = .ok (.invokevirtual 52, 3) := by decide +kernel
theorem dX2_begin_33 : decode cX2_begin 33 = .ok (.iload_n 2, 1) := by decide +kernel
theorem dX2_begin_34 : decode cX2_begin 34 = .ok (.ireturn, 1) := by decide +kernel
set_option maxRecDepth 20000 in
theorem ggX2_undo_X0_copyFrom : GoodIn wsX2_undo wsX0_copyFrom := goodIn_r _ [8, 9, 10, 11, 12, 13, 14, 15, 16, 17, 18, 19, 20, 21, 22, 23, 24, 25, 26, 27, 28, 7, 29, 36, 37, 38, 39, 40, 41, 42, 43, 44, 45, 46, 47, 48, 49] (by decide +kernel) (by decide +kernel)
set_option maxRecDepth 20000 in
theorem gX2_undo_X0_copyFrom : GoodIn wsX2_undo (wsV RX2 59 RX0 yX0_copyFrom wsX0_copyFrom) := goodIn_app (goodIn_of _ (by decide +kernel)) ggX2_undo_X0_copyFrom
theorem dX2_undo_0 : decode cX2_undo 0 = .ok (.aload_n 0, 1) := by decide +kernel
theorem dX2_undo_1 : decode cX2_undo 1 = .ok (.getfield 56, 3) := by decide +kernel
theorem dX2_undo_4 : decode cX2_undo 4 = .ok (.ifCond .ne 6, 3) := by decide +kernel
theorem dX2_undo_7 : decode cX2_undo 7 = .ok (.bipush (-2), 2) := by decide +kernel
theorem dX2_undo_9 : decode cX2_undo 9 = .ok (.ireturn, 1) := by decide +kernel
theorem dX2_undo_10 : decode cX2_undo 10 = .ok (.aload_n 0, 1) := by decide +kernel
theorem dX2_undo_11 : decode cX2_undo 11 = .ok (.dup, 1) := by decide +kernel
theorem dX2_undo_12 : decode cX2_undo 12 = .ok (.getfield 56, 3) := by decide +kernel
theorem dX2_undo_15 : decode cX2_undo 15 = .ok (.iconst 1, 1) := by decide +kernel
theorem dX2_undo_16 : decode cX2_undo 16 = .ok (.isub, 1) := by decide +kernel
theorem dX2_undo_17 : decode cX2_undo 17 = .ok (.putfield 56, 3) := by decide +kernel
theorem dX2_undo_20 : decode cX2_undo 20 = .ok (.aload_n 0, 1) := by decide +kernel
theorem dX2_undo_21 : decode cX2_undo 21 = .ok (.getfield 10, 3) := by decide +kernel
theorem dX2_undo_24 : decode cX2_undo 24 = .ok (.aload_n 0, 1) := by decide +kernel
theorem dX2_undo_25 : decode cX2_undo 25 = .ok (.getfield 22, 3) := by decide +kernel
theorem dX2_undo_28 : decode cX2_undo 28 = .ok (.aload_n 0, 1) := by decide +kernel
theorem dX2_undo_29 : decode cX2_undo 29 = .ok (.getfield 56, 3) := by decide +kernel
theorem dX2_undo_32 : decode cX2_undo 32 = .ok (.aaload, 1) := by decide +kernel
theorem dX2_undo_33 : decode cX2_undo 33 = .ok (.invokevirtual 59, 3) := by decide +kernel
theorem dX2_undo_36 : decode cX2_undo 36 = .ok (.aload_n 0, 1) := by decide +kernel
theorem dX2_undo_37 : decode cX2_undo 37 = .ok (.getfield 56, 3) := by decide +kernel
theorem dX2_undo_40 : decode cX2_undo 40 = .ok (.ireturn, 1) := by decide +kernel
set_option maxRecDepth 20000 in
theorem ggX2_append_X1_add : GoodIn wsX2_append wsX1_add := goodIn_r _ [7, 8, 9, 16, 17, 18] (by decide +kernel) (by decide +kernel)
set_option maxRecDepth 20000 in
theorem gX2_append_X1_add : GoodIn wsX2_append (wsV RX2 65 RX1 yX1_add wsX1_add) := goodIn_app (goodIn_of _ (by decide +kernel)) ggX2_append_X1_add
theorem dX2_append_0 : decode cX2_append 0 = .ok (.iload_n 1, 1) := by decide +kernel
theorem dX2_append_1 : decode cX2_append 1 = .ok (.iconst 1, 1) := by decide +kernel
theorem dX2_append_2 : decode cX2_append 2 = .ok (.if_icmp .lt 10, 3) := by decide +kernel
theorem dX2_append_5 : decode cX2_append 5 = .ok (.iload_n 1, 1) := by decide +kernel
theorem dX2_append_6 : decode cX2_append 6 = .ok (.sipush 255, 3) := by decide +kernel
theorem dX2_append_9 : decode cX2_append 9 = .ok (.if_icmp .le 5, 3) := by decide +kernel
theorem dX2_append_12 : decode cX2_append 12 = .ok (.iconst (-1), 1) := by decide +kernel
theorem dX2_append_13 : decode cX2_append 13 = .ok (.ireturn, 1) := by decide +kernel
theorem dX2_append_14 : decode cX2_append 14 = .ok (.aload_n 0, 1) := by decide +kernel
theorem dX2_append_15 : decode cX2_append 15 = .ok (.getfield 29, 3) := by decide +kernel
theorem dX2_append_18 : decode cX2_append 18 = .ok (.getfield 62, 3) := by decide +kernel
theorem dX2_append_21 : decode cX2_append 21 = .ok (.bipush 120, 2) := by decide +kernel
theorem dX2_append_23 : decode cX2_append 23 = .ok (.if_icmp .ne 6, 3) := by decide +kernel
theorem dX2_append_26 : decode cX2_append 26 = .ok (.bipush (-3), 2) := by decide +kernel
theorem dX2_append_28 : decode cX2_append 28 = .ok (.ireturn, 1) := by decide +kernel
theorem dX2_append_29 : decode cX2_append 29 = .ok (.aload_n 0, 1) := by decide +kernel
theorem dX2_append_30 : decode cX2_append 30 = .ok (.getfield 29, 3) := by decide +kernel
theorem dX2_append_33 : decode cX2_append 33 = .ok (.iload_n 1, 1) := by decide +kernel
theorem dX2_append_34 : decode cX2_append 34 = .ok (.invokevirtual 65, 3) := by decide +kernel
theorem dX2_append_37 : decode cX2_append 37 = .ok (.aload_n 0, 1) := by decide +kernel
theorem dX2_append_38 : decode cX2_append 38 = .ok (.getfield 29, 3) := by decide +kernel
theorem dX2_append_41 : decode cX2_append 41 = .ok (.getfield 62, 3) := by decide +kernel
theorem dX2_append_44 : decode cX2_append 44 = .ok (.ireturn, 1) := by decide +kernel
theorem dX2_clearText_0 : decode cX2_clearText 0 = .ok (.aload_n 0, 1) := by decide +kernel
theorem dX2_clearText_1 : decode cX2_clearText 1 = .ok (.getfield 29, 3) := by decide +kernel
theorem dX2_clearText_4 : decode cX2_clearText 4 = .ok (.getfield 62, 3) := by decide +kernel
theorem dX2_clearText_7 : decode cX2_clearText 7 = .ok (.istore_n 1, 1) := by decide +kernel
theorem dX2_clearText_8 : decode cX2_clearText 8 = .ok (.aload_n 0, 1) := by decide +kernel
theorem dX2_clearText_9 : decode cX2_clearText 9 = .ok (.getfield 29, 3) := by decide +kernel
theorem dX2_clearText_12 : decode cX2_clearText 12 = .ok (.iconst 0, 1) := by decide +kernel
theorem dX2_clearText_13 : decode cX2_clearText 13 = .ok (.putfield 62, 3) := by decide +kernel
theorem dX2_clearText_16 : decode cX2_clearText 16 = .ok (.iload_n 1, 1) := by decide +kernel
theorem dX2_clearText_17 : decode cX2_clearText 17 = .ok (.ireturn, 1) := by decide +kernel
set_option maxRecDepth 20000 in
theorem ggX2_run_X0_copyFrom : GoodIn wsX2_run wsX0_copyFrom := goodIn_r _ [10, 11, 12, 13, 14, 15, 16, 17, 18, 19, 20, 21, 22, 23, 24, 25, 26, 27, 28, 29, 30, 9, 31, 153, 154, 155, 156, 157, 158, 159, 160, 161, 162, 163, 164, 165, 166] (by decide +kernel) (by decide +kernel)
set_option maxRecDepth 20000 in
theorem gX2_run_X0_copyFrom : GoodIn wsX2_run (wsV RX2 59 RX0 yX0_copyFrom wsX0_copyFrom) := goodIn_app (goodIn_of _ (by decide +kernel)) ggX2_run_X0_copyFrom
set_option maxRecDepth 20000 in
theorem ggX2_run_X2_takeStepsOfText : GoodIn wsX2_run wsX2_takeStepsOfText := goodIn_r _ [36, 3, 4, 37, 38, 39, 40, 41, 42, 43, 44, 45, 46, 47, 48, 49, 50, 51, 35, 52, 2, 53, 54, 55, 56, 57, 58, 59, 60, 61, 62, 63, 64, 65, 66, 67, 68, 69, 70, 71, 72, 73, 74, 75, 9, 76, 77, 78, 79, 80, 14, 16, 81, 82, 83, 84, 85, 86, 87, 88, 89, 90, 18, 13, 12, 26, 25, 15, 91, 92, 93, 94, 95, 96, 97, 98, 99, 100, 101, 102, 103, 104, 105, 106, 107, 108, 109, 110, 23, 111, 112, 113, 114, 115, 116, 117, 118, 28, 19, 20, 21, 22, 17, 119, 120, 121, 24, 122, 123, 124, 125, 126, 127, 128, 129, 11, 130, 131, 132, 133, 27, 144, 145, 146, 147, 148, 149, 150, 151, 152, 153, 154, 155, 156, 157, 158, 159, 160, 161, 162, 163, 164, 165, 166] (by decide +kernel) (by decide +kernel)
set_option maxRecDepth 20000 in
theorem gX2_run_X2_takeStepsOfText : GoodIn wsX2_run (wsV RX2 68 RX2 yX2_takeStepsOfText wsX2_takeStepsOfText) := goodIn_app (goodIn_of _ (by decide +kernel)) ggX2_run_X2_takeStepsOfText
set_option maxRecDepth 20000 in
theorem ggX2_run_X2_record : GoodIn wsX2_run wsX2_record := goodIn_r _ [137, 138, 139, 140, 141, 142, 35, 143, 6, 7, 8, 9, 10, 11, 12, 13, 14, 15, 16, 17, 18, 19, 20, 21, 22, 23, 24, 25, 26, 27, 28, 29, 30, 31, 144, 145, 146, 147, 148, 149, 153, 154, 155, 156, 157, 158, 159, 160, 161, 162, 163, 164, 165, 166] (by decide +kernel) (by decide +kernel)
set_option maxRecDepth 20000 in
theorem gX2_run_X2_record : GoodIn wsX2_run (wsV RX2 37 RX2 yX2_record wsX2_record) := goodIn_app (goodIn_of _ (by decide +kernel)) ggX2_run_X2_record
theorem dX2_run_0 : decode cX2_run 0 = .ok (.aload_n 0, 1) := by decide +kernel
theorem dX2_run_1 : decode cX2_run 1 = .ok (.getfield 16, 3) := by decide +kernel
theorem dX2_run_4 : decode cX2_run 4 = .ok (.aload_n 0, 1) := by decide +kernel
theorem dX2_run_5 : decode cX2_run 5 = .ok (.getfield 10, 3) := by decide +kernel
theorem dX2_run_8 : decode cX2_run 8 = .ok (.invokevirtual 59, 3) := by decide +kernel
theorem dX2_run_11 : decode cX2_run 11 = .ok (.aload_n 0, 1) := by decide +kernel
theorem dX2_run_12 : decode cX2_run 12 = .ok (.invokevirtual 68, 3) := by decide +kernel
theorem dX2_run_15 : decode cX2_run 15 = .ok (.istore_n 1, 1) := by decide +kernel
theorem dX2_run_16 : decode cX2_run 16 = .ok (.iload_n 1, 1) := by decide +kernel
theorem dX2_run_17 : decode cX2_run 17 = .ok (.ifCond .ge 26, 3) := by decide +kernel
theorem dX2_run_20 : decode cX2_run 20 = .ok (.aload_n 0, 1) := by decide +kernel
theorem dX2_run_21 : decode cX2_run 21 = .ok (.getfield 10, 3) := by decide +kernel
theorem dX2_run_24 : decode cX2_run 24 = .ok (.aload_n 0, 1) := by decide +kernel
theorem dX2_run_25 : decode cX2_run 25 = .ok (.getfield 16, 3) := by decide +kernel
theorem dX2_run_28 : decode cX2_run 28 = .ok (.invokevirtual 59, 3) := by decide +kernel
theorem dX2_run_31 : decode cX2_run 31 = .ok (.sipush (-1000), 3) := by decide +kernel
theorem dX2_run_34 : decode cX2_run 34 = .ok (.aload_n 0, 1) := by decide +kernel
theorem dX2_run_35 : decode cX2_run 35 = .ok (.getfield 29, 3) := by decide +kernel
theorem dX2_run_38 : decode cX2_run 38 = .ok (.getfield 72, 3) := by decide +kernel
theorem dX2_run_41 : decode cX2_run 41 = .ok (.isub, 1) := by decide +kernel
theorem dX2_run_42 : decode cX2_run 42 = .ok (.ireturn, 1) := by decide +kernel
theorem dX2_run_43 : decode cX2_run 43 = .ok (.aload_n 0, 1) := by decide +kernel
theorem dX2_run_44 : decode cX2_run 44 = .ok (.aload_n 0, 1) := by decide +kernel
theorem dX2_run_45 : decode cX2_run 45 = .ok (.getfield 16, 3) := by decide +kernel
theorem dX2_run_48 : decode cX2_run 48 = .ok (.invokevirtual 37, 3) := by decide +kernel
theorem dX2_run_51 : decode cX2_run 51 = .ok (.aload_n 0, 1) := by decide +kernel
theorem dX2_run_52 : decode cX2_run 52 = .ok (.getfield 29, 3) := by decide +kernel
theorem dX2_run_55 : decode cX2_run 55 = .ok (.iconst 0, 1) := by decide +kernel
theorem dX2_run_56 : decode cX2_run 56 = .ok (.putfield 62, 3) := by decide +kernel
theorem dX2_run_59 : decode cX2_run 59 = .ok (.iload_n 1, 1) := by decide +kernel
theorem dX2_run_60 : decode cX2_run 60 = .ok (.ireturn, 1) := by decide +kernel
set_option maxRecDepth 20000 in
theorem ggX2_count_X0_overrunFrames : GoodIn wsX2_count wsX0_overrunFrames := goodIn_r _ [18, 19, 20, 21, 22, 17, 23, 24, 31, 32, 33, 34, 35, 36, 37, 38, 39, 40, 41, 42, 43, 44] (by decide +kernel) (by decide +kernel)
set_option maxRecDepth 20000 in
theorem gX2_count_X0_overrunFrames : GoodIn wsX2_count (wsV RX2 97 RX0 yX0_overrunFrames wsX0_overrunFrames) := goodIn_app (goodIn_of _ (by decide +kernel)) ggX2_count_X0_overrunFrames
theorem dX2_count_0 : decode cX2_count 0 = .ok (.iload_n 1, 1) := by decide +kernel
theorem dX2_count_1 : decode cX2_count 1 = .ok (.tableswitch 254 0 17 #[87, 95, 103, 113, 123, 133, 143, 163, 173, 183, 193, 201, 209, 217, 225, 233, 238, 246], 87) := by decide +kernel
theorem dX2_count_88 : decode cX2_count 88 = .ok (.aload_n 0, 1) := by decide +kernel
theorem dX2_count_89 : decode cX2_count 89 = .ok (.getfield 10, 3) := by decide +kernel
theorem dX2_count_92 : decode cX2_count 92 = .ok (.getfield 75, 3) := by decide +kernel
theorem dX2_count_95 : decode cX2_count 95 = .ok (.ireturn, 1) := by decide +kernel
theorem dX2_count_96 : decode cX2_count 96 = .ok (.aload_n 0, 1) := by decide +kernel
theorem dX2_count_97 : decode cX2_count 97 = .ok (.getfield 10, 3) := by decide +kernel
theorem dX2_count_100 : decode cX2_count 100 = .ok (.getfield 78, 3) := by decide +kernel
theorem dX2_count_103 : decode cX2_count 103 = .ok (.ireturn, 1) := by decide +kernel
theorem dX2_count_104 : decode cX2_count 104 = .ok (.aload_n 0, 1) := by decide +kernel
theorem dX2_count_105 : decode cX2_count 105 = .ok (.getfield 10, 3) := by decide +kernel
theorem dX2_count_108 : decode cX2_count 108 = .ok (.getfield 81, 3) := by decide +kernel
theorem dX2_count_111 : decode cX2_count 111 = .ok (.iconst 0, 1) := by decide +kernel
theorem dX2_count_112 : decode cX2_count 112 = .ok (.iaload, 1) := by decide +kernel
theorem dX2_count_113 : decode cX2_count 113 = .ok (.ireturn, 1) := by decide +kernel
theorem dX2_count_114 : decode cX2_count 114 = .ok (.aload_n 0, 1) := by decide +kernel
theorem dX2_count_115 : decode cX2_count 115 = .ok (.getfield 10, 3) := by decide +kernel
theorem dX2_count_118 : decode cX2_count 118 = .ok (.getfield 81, 3) := by decide +kernel
theorem dX2_count_121 : decode cX2_count 121 = .ok (.iconst 1, 1) := by decide +kernel
theorem dX2_count_122 : decode cX2_count 122 = .ok (.iaload, 1) := by decide +kernel
theorem dX2_count_123 : decode cX2_count 123 = .ok (.ireturn, 1) := by decide +kernel
theorem dX2_count_124 : decode cX2_count 124 = .ok (.aload_n 0, 1) := by decide +kernel
theorem dX2_count_125 : decode cX2_count 125 = .ok (.getfield 10, 3) := by decide +kernel
theorem dX2_count_128 : decode cX2_count 128 = .ok (.getfield 81, 3) := by decide +kernel
theorem dX2_count_131 : decode cX2_count 131 = .ok (.iconst 2, 1) := by decide +kernel
theorem dX2_count_132 : decode cX2_count 132 = .ok (.iaload, 1) := by decide +kernel
theorem dX2_count_133 : decode cX2_count 133 = .ok (.ireturn, 1) := by decide +kernel
theorem dX2_count_134 : decode cX2_count 134 = .ok (.aload_n 0, 1) := by decide +kernel
theorem dX2_count_135 : decode cX2_count 135 = .ok (.getfield 10, 3) := by decide +kernel
theorem dX2_count_138 : decode cX2_count 138 = .ok (.getfield 81, 3) := by decide +kernel
theorem dX2_count_141 : decode cX2_count 141 = .ok (.iconst 3, 1) := by decide +kernel
theorem dX2_count_142 : decode cX2_count 142 = .ok (.iaload, 1) := by decide +kernel
theorem dX2_count_143 : decode cX2_count 143 = .ok (.ireturn, 1) := by decide +kernel
theorem dX2_count_144 : decode cX2_count 144 = .ok (.aload_n 0, 1) := by decide +kernel
theorem dX2_count_145 : decode cX2_count 145 = .ok (.getfield 10, 3) := by decide +kernel
theorem dX2_count_148 : decode cX2_count 148 = .ok (.getfield 85, 3) := by decide +kernel
theorem dX2_count_151 : decode cX2_count 151 = .ok (.iconst 0, 1) := by decide +kernel
theorem dX2_count_152 : decode cX2_count 152 = .ok (.iaload, 1) := by decide +kernel
theorem dX2_count_153 : decode cX2_count 153 = .ok (.aload_n 0, 1) := by decide +kernel
theorem dX2_count_154 : decode cX2_count 154 = .ok (.getfield 10, 3) := by decide +kernel
theorem dX2_count_157 : decode cX2_count 157 = .ok (.getfield 85, 3) := by decide +kernel
theorem dX2_count_160 : decode cX2_count 160 = .ok (.iconst 1, 1) := by decide +kernel
theorem dX2_count_161 : decode cX2_count 161 = .ok (.iaload, 1) := by decide +kernel
theorem dX2_count_162 : decode cX2_count 162 = .ok (.iadd, 1) := by decide +kernel
theorem dX2_count_163 : decode cX2_count 163 = .ok (.ireturn, 1) := by decide +kernel
theorem dX2_count_164 : decode cX2_count 164 = .ok (.aload_n 0, 1) := by decide +kernel
theorem dX2_count_165 : decode cX2_count 165 = .ok (.getfield 10, 3) := by decide +kernel
theorem dX2_count_168 : decode cX2_count 168 = .ok (.getfield 85, 3) := by decide +kernel
theorem dX2_count_171 : decode cX2_count 171 = .ok (.iconst 1, 1) := by decide +kernel
theorem dX2_count_172 : decode cX2_count 172 = .ok (.iaload, 1) := by decide +kernel
theorem dX2_count_173 : decode cX2_count 173 = .ok (.ireturn, 1) := by decide +kernel
theorem dX2_count_174 : decode cX2_count 174 = .ok (.aload_n 0, 1) := by decide +kernel
theorem dX2_count_175 : decode cX2_count 175 = .ok (.getfield 10, 3) := by decide +kernel
theorem dX2_count_178 : decode cX2_count 178 = .ok (.getfield 85, 3) := by decide +kernel
theorem dX2_count_181 : decode cX2_count 181 = .ok (.iconst 2, 1) := by decide +kernel
theorem dX2_count_182 : decode cX2_count 182 = .ok (.iaload, 1) := by decide +kernel
theorem dX2_count_183 : decode cX2_count 183 = .ok (.ireturn, 1) := by decide +kernel
theorem dX2_count_184 : decode cX2_count 184 = .ok (.aload_n 0, 1) := by decide +kernel
theorem dX2_count_185 : decode cX2_count 185 = .ok (.getfield 10, 3) := by decide +kernel
theorem dX2_count_188 : decode cX2_count 188 = .ok (.getfield 85, 3) := by decide +kernel
theorem dX2_count_191 : decode cX2_count 191 = .ok (.iconst 3, 1) := by decide +kernel
theorem dX2_count_192 : decode cX2_count 192 = .ok (.iaload, 1) := by decide +kernel
theorem dX2_count_193 : decode cX2_count 193 = .ok (.ireturn, 1) := by decide +kernel
theorem dX2_count_194 : decode cX2_count 194 = .ok (.aload_n 0, 1) := by decide +kernel
theorem dX2_count_195 : decode cX2_count 195 = .ok (.getfield 10, 3) := by decide +kernel
theorem dX2_count_198 : decode cX2_count 198 = .ok (.getfield 88, 3) := by decide +kernel
theorem dX2_count_201 : decode cX2_count 201 = .ok (.ireturn, 1) := by decide +kernel
theorem dX2_count_202 : decode cX2_count 202 = .ok (.aload_n 0, 1) := by decide +kernel
theorem dX2_count_203 : decode cX2_count 203 = .ok (.getfield 10, 3) := by decide +kernel
theorem dX2_count_206 : decode cX2_count 206 = .ok (.getfield 49, 3) := by decide +kernel
theorem dX2_count_209 : decode cX2_count 209 = .ok (.ireturn, 1) := by decide +kernel
theorem dX2_count_210 : decode cX2_count 210 = .ok (.aload_n 0, 1) := by decide +kernel
theorem dX2_count_211 : decode cX2_count 211 = .ok (.getfield 10, 3) := by decide +kernel
theorem dX2_count_214 : decode cX2_count 214 = .ok (.getfield 91, 3) := by decide +kernel
theorem dX2_count_217 : decode cX2_count 217 = .ok (.ireturn, 1) := by decide +kernel
theorem dX2_count_218 : decode cX2_count 218 = .ok (.aload_n 0, 1) := by decide +kernel
theorem dX2_count_219 : decode cX2_count 219 = .ok (.getfield 10, 3) := by decide +kernel
theorem dX2_count_222 : decode cX2_count 222 = .ok (.getfield 94, 3) := by decide +kernel
theorem dX2_count_225 : decode cX2_count 225 = .ok (.ireturn, 1) := by decide +kernel
theorem dX2_count_226 : decode cX2_count 226 = .ok (.aload_n 0, 1) := by decide +kernel
theorem dX2_count_227 : decode cX2_count 227 = .ok (.getfield 10, 3) := by decide +kernel
theorem dX2_count_230 : decode cX2_count 230 = .ok (.getfield 41, 3) := by decide +kernel
theorem dX2_count_233 : decode cX2_count 233 = .ok (.ireturn, 1) := by decide +kernel
theorem dX2_count_234 : decode cX2_count 234 = .ok (.aload_n 0, 1) := by decide +kernel
theorem dX2_count_235 : decode cX2_count 235 = .ok (.getfield 56, 3) := by decide +kernel
theorem dX2_count_238 : decode cX2_count 238 = .ok (.ireturn, 1) := by decide +kernel
theorem dX2_count_239 : decode cX2_count 239 = .ok (.aload_n 0, 1) := by decide +kernel
theorem dX2_count_240 : decode cX2_count 240 = .ok (.getfield 29, 3) := by decide +kernel
theorem dX2_count_243 : decode cX2_count 243 = .ok (.getfield 62, 3) := by decide +kernel
theorem dX2_count_246 : decode cX2_count 246 = .ok (.ireturn, 1) := by decide +kernel
theorem dX2_count_247 : decode cX2_count 247 = .ok (.aload_n 0, 1) := by decide +kernel
theorem dX2_count_248 : decode cX2_count 248 = .ok (.getfield 10, 3) := by decide +kernel
theorem dX2_count_251 : decode cX2_count 251 = .ok (.invokevirtual 97, 3) := by decide +kernel
theorem dX2_count_254 : decode cX2_count 254 = .ok (.ireturn, 1) := by decide +kernel
theorem dX2_count_255 : decode cX2_count 255 = .ok (.iconst (-1), 1) := by decide +kernel
theorem dX2_count_256 : decode cX2_count 256 = .ok (.ireturn, 1) := by decide +kernel
theorem dX2_frame_0 : decode cX2_frame 0 = .ok (.iload_n 1, 1) := by decide +kernel
theorem dX2_frame_1 : decode cX2_frame 1 = .ok (.ifCond .lt 23, 3) := by decide +kernel
theorem dX2_frame_4 : decode cX2_frame 4 = .ok (.iload_n 1, 1) := by decide +kernel
theorem dX2_frame_5 : decode cX2_frame 5 = .ok (.aload_n 0, 1) := by decide +kernel
theorem dX2_frame_6 : decode cX2_frame 6 = .ok (.getfield 10, 3) := by decide +kernel
theorem dX2_frame_9 : decode cX2_frame 9 = .ok (.getfield 75, 3) := by decide +kernel
theorem dX2_frame_12 : decode cX2_frame 12 = .ok (.if_icmp .ge 12, 3) := by decide +kernel
theorem dX2_frame_15 : decode cX2_frame 15 = .ok (.iload_n 2, 1) := by decide +kernel
theorem dX2_frame_16 : decode cX2_frame 16 = .ok (.ifCond .lt 8, 3) := by decide +kernel
theorem dX2_frame_19 : decode cX2_frame 19 = .ok (.iload_n 2, 1) := by decide +kernel
theorem dX2_frame_20 : decode cX2_frame 20 = .ok (.iconst 5, 1) := by decide +kernel
theorem dX2_frame_21 : decode cX2_frame 21 = .ok (.if_icmp .lt 5, 3) := by decide +kernel
theorem dX2_frame_24 : decode cX2_frame 24 = .ok (.iconst (-1), 1) := by decide +kernel
theorem dX2_frame_25 : decode cX2_frame 25 = .ok (.ireturn, 1) := by decide +kernel
theorem dX2_frame_26 : decode cX2_frame 26 = .ok (.aload_n 0, 1) := by decide +kernel
theorem dX2_frame_27 : decode cX2_frame 27 = .ok (.getfield 10, 3) := by decide +kernel
theorem dX2_frame_30 : decode cX2_frame 30 = .ok (.getfield 100, 3) := by decide +kernel
theorem dX2_frame_33 : decode cX2_frame 33 = .ok (.iload_n 2, 1) := by decide +kernel
theorem dX2_frame_34 : decode cX2_frame 34 = .ok (.aaload, 1) := by decide +kernel
theorem dX2_frame_35 : decode cX2_frame 35 = .ok (.aload_n 0, 1) := by decide +kernel
theorem dX2_frame_36 : decode cX2_frame 36 = .ok (.getfield 10, 3) := by decide +kernel
theorem dX2_frame_39 : decode cX2_frame 39 = .ok (.getfield 75, 3) := by decide +kernel
theorem dX2_frame_42 : decode cX2_frame 42 = .ok (.iconst 1, 1) := by decide +kernel
theorem dX2_frame_43 : decode cX2_frame 43 = .ok (.isub, 1) := by decide +kernel
theorem dX2_frame_44 : decode cX2_frame 44 = .ok (.iload_n 1, 1) := by decide +kernel
theorem dX2_frame_45 : decode cX2_frame 45 = .ok (.isub, 1) := by decide +kernel
theorem dX2_frame_46 : decode cX2_frame 46 = .ok (.iaload, 1) := by decide +kernel
theorem dX2_frame_47 : decode cX2_frame 47 = .ok (.ireturn, 1) := by decide +kernel
theorem dX2_slot_0 : decode cX2_slot 0 = .ok (.iload_n 1, 1) := by decide +kernel
theorem dX2_slot_1 : decode cX2_slot 1 = .ok (.ifCond .lt 23, 3) := by decide +kernel
theorem dX2_slot_4 : decode cX2_slot 4 = .ok (.iload_n 1, 1) := by decide +kernel
theorem dX2_slot_5 : decode cX2_slot 5 = .ok (.aload_n 0, 1) := by decide +kernel
theorem dX2_slot_6 : decode cX2_slot 6 = .ok (.getfield 10, 3) := by decide +kernel
theorem dX2_slot_9 : decode cX2_slot 9 = .ok (.getfield 49, 3) := by decide +kernel
theorem dX2_slot_12 : decode cX2_slot 12 = .ok (.if_icmp .ge 12, 3) := by decide +kernel
theorem dX2_slot_15 : decode cX2_slot 15 = .ok (.iload_n 2, 1) := by decide +kernel
theorem dX2_slot_16 : decode cX2_slot 16 = .ok (.ifCond .lt 8, 3) := by decide +kernel
theorem dX2_slot_19 : decode cX2_slot 19 = .ok (.iload_n 2, 1) := by decide +kernel
theorem dX2_slot_20 : decode cX2_slot 20 = .ok (.iconst 3, 1) := by decide +kernel
theorem dX2_slot_21 : decode cX2_slot 21 = .ok (.if_icmp .lt 5, 3) := by decide +kernel
theorem dX2_slot_24 : decode cX2_slot 24 = .ok (.iconst (-1), 1) := by decide +kernel
theorem dX2_slot_25 : decode cX2_slot 25 = .ok (.ireturn, 1) := by decide +kernel
theorem dX2_slot_26 : decode cX2_slot 26 = .ok (.aload_n 0, 1) := by decide +kernel
theorem dX2_slot_27 : decode cX2_slot 27 = .ok (.getfield 10, 3) := by decide +kernel
theorem dX2_slot_30 : decode cX2_slot 30 = .ok (.getfield 104, 3) := by decide +kernel
theorem dX2_slot_33 : decode cX2_slot 33 = .ok (.iload_n 2, 1) := by decide +kernel
theorem dX2_slot_34 : decode cX2_slot 34 = .ok (.aaload, 1) := by decide +kernel
theorem dX2_slot_35 : decode cX2_slot 35 = .ok (.iload_n 1, 1) := by decide +kernel
theorem dX2_slot_36 : decode cX2_slot 36 = .ok (.iaload, 1) := by decide +kernel
theorem dX2_slot_37 : decode cX2_slot 37 = .ok (.ireturn, 1) := by decide +kernel
theorem dX2_confession_0 : decode cX2_confession 0 = .ok (.iload_n 1, 1) := by decide +kernel
theorem dX2_confession_1 : decode cX2_confession 1 = .ok (.ifCond .lt 13, 3) := by decide +kernel
theorem dX2_confession_4 : decode cX2_confession 4 = .ok (.iload_n 2, 1) := by decide +kernel
theorem dX2_confession_5 : decode cX2_confession 5 = .ok (.ifCond .lt 9, 3) := by decide +kernel
theorem dX2_confession_8 : decode cX2_confession 8 = .ok (.iload_n 2, 1) := by decide +kernel
theorem dX2_confession_9 : decode cX2_confession 9 = .ok (.bipush 6, 2) := by decide +kernel
theorem dX2_confession_11 : decode cX2_confession 11 = .ok (.if_icmp .lt 5, 3) := by decide +kernel
theorem dX2_confession_14 : decode cX2_confession 14 = .ok (.iconst (-1), 1) := by decide +kernel
theorem dX2_confession_15 : decode cX2_confession 15 = .ok (.ireturn, 1) := by decide +kernel
theorem dX2_confession_16 : decode cX2_confession 16 = .ok (.iload_n 1, 1) := by decide +kernel
theorem dX2_confession_17 : decode cX2_confession 17 = .ok (.aload_n 0, 1) := by decide +kernel
theorem dX2_confession_18 : decode cX2_confession 18 = .ok (.getfield 10, 3) := by decide +kernel
theorem dX2_confession_21 : decode cX2_confession 21 = .ok (.getfield 88, 3) := by decide +kernel
theorem dX2_confession_24 : decode cX2_confession 24 = .ok (.if_icmp .lt 6, 3) := by decide +kernel
theorem dX2_confession_27 : decode cX2_confession 27 = .ok (.bipush (-9), 2) := by decide +kernel
theorem dX2_confession_29 : decode cX2_confession 29 = .ok (.ireturn, 1) := by decide +kernel
theorem dX2_confession_30 : decode cX2_confession 30 = .ok (.aload_n 0, 1) := by decide +kernel
theorem dX2_confession_31 : decode cX2_confession 31 = .ok (.getfield 10, 3) := by decide +kernel
theorem dX2_confession_34 : decode cX2_confession 34 = .ok (.getfield 107, 3) := by decide +kernel
theorem dX2_confession_37 : decode cX2_confession 37 = .ok (.iload_n 2, 1) := by decide +kernel
theorem dX2_confession_38 : decode cX2_confession 38 = .ok (.aaload, 1) := by decide +kernel
theorem dX2_confession_39 : decode cX2_confession 39 = .ok (.iload_n 1, 1) := by decide +kernel
theorem dX2_confession_40 : decode cX2_confession 40 = .ok (.iaload, 1) := by decide +kernel
theorem dX2_confession_41 : decode cX2_confession 41 = .ok (.ireturn, 1) := by decide +kernel
theorem dX2_named_0 : decode cX2_named 0 = .ok (.iload_n 1, 1) := by decide +kernel
theorem dX2_named_1 : decode cX2_named 1 = .ok (.ifCond .lt 16, 3) := by decide +kernel
theorem dX2_named_4 : decode cX2_named 4 = .ok (.iload_n 1, 1) := by decide +kernel
theorem dX2_named_5 : decode cX2_named 5 = .ok (.aload_n 0, 1) := by decide +kernel
theorem dX2_named_6 : decode cX2_named 6 = .ok (.getfield 10, 3) := by decide +kernel
theorem dX2_named_9 : decode cX2_named 9 = .ok (.getfield 81, 3) := by decide +kernel
theorem dX2_named_12 : decode cX2_named 12 = .ok (.iconst 0, 1) := by decide +kernel
theorem dX2_named_13 : decode cX2_named 13 = .ok (.iaload, 1) := by decide +kernel
theorem dX2_named_14 : decode cX2_named 14 = .ok (.if_icmp .lt 5, 3) := by decide +kernel
theorem dX2_named_17 : decode cX2_named 17 = .ok (.iconst (-1), 1) := by decide +kernel
theorem dX2_named_18 : decode cX2_named 18 = .ok (.ireturn, 1) := by decide +kernel
theorem dX2_named_19 : decode cX2_named 19 = .ok (.aload_n 0, 1) := by decide +kernel
theorem dX2_named_20 : decode cX2_named 20 = .ok (.getfield 10, 3) := by decide +kernel
theorem dX2_named_23 : decode cX2_named 23 = .ok (.getfield 110, 3) := by decide +kernel
theorem dX2_named_26 : decode cX2_named 26 = .ok (.iload_n 1, 1) := by decide +kernel
theorem dX2_named_27 : decode cX2_named 27 = .ok (.iaload, 1) := by decide +kernel
theorem dX2_named_28 : decode cX2_named 28 = .ok (.ireturn, 1) := by decide +kernel
theorem dX2_worst_0 : decode cX2_worst 0 = .ok (.bipush (-9), 2) := by decide +kernel
theorem dX2_worst_2 : decode cX2_worst 2 = .ok (.istore_n 1, 1) := by decide +kernel
theorem dX2_worst_3 : decode cX2_worst 3 = .ok (.iconst 0, 1) := by decide +kernel
theorem dX2_worst_4 : decode cX2_worst 4 = .ok (.istore_n 2, 1) := by decide +kernel
theorem dX2_worst_5 : decode cX2_worst 5 = .ok (.iconst 0, 1) := by decide +kernel
theorem dX2_worst_6 : decode cX2_worst 6 = .ok (.istore_n 3, 1) := by decide +kernel
theorem dX2_worst_7 : decode cX2_worst 7 = .ok (.iload_n 3, 1) := by decide +kernel
theorem dX2_worst_8 : decode cX2_worst 8 = .ok (.aload_n 0, 1) := by decide +kernel
theorem dX2_worst_9 : decode cX2_worst 9 = .ok (.getfield 10, 3) := by decide +kernel
theorem dX2_worst_12 : decode cX2_worst 12 = .ok (.getfield 81, 3) := by decide +kernel
theorem dX2_worst_15 : decode cX2_worst 15 = .ok (.iconst 0, 1) := by decide +kernel
theorem dX2_worst_16 : decode cX2_worst 16 = .ok (.iaload, 1) := by decide +kernel
theorem dX2_worst_17 : decode cX2_worst 17 = .ok (.if_icmp .ge 34, 3) := by decide +kernel
theorem dX2_worst_20 : decode cX2_worst 20 = .ok (.aload_n 0, 1) := by decide +kernel
theorem dX2_worst_21 : decode cX2_worst 21 = .ok (.getfield 10, 3) := by decide +kernel
theorem dX2_worst_24 : decode cX2_worst 24 = .ok (.getfield 110, 3) := by decide +kernel
theorem dX2_worst_27 : decode cX2_worst 27 = .ok (.iload_n 3, 1) := by decide +kernel
theorem dX2_worst_28 : decode cX2_worst 28 = .ok (.iaload, 1) := by decide +kernel
theorem dX2_worst_29 : decode cX2_worst 29 = .ok (.iload_n 2, 1) := by decide +kernel
theorem dX2_worst_30 : decode cX2_worst 30 = .ok (.if_icmp .le 15, 3) := by decide +kernel
theorem dX2_worst_33 : decode cX2_worst 33 = .ok (.aload_n 0, 1) := by decide +kernel
theorem dX2_worst_34 : decode cX2_worst 34 = .ok (.getfield 10, 3) := by decide +kernel
theorem dX2_worst_37 : decode cX2_worst 37 = .ok (.getfield 110, 3) := by decide +kernel
theorem dX2_worst_40 : decode cX2_worst 40 = .ok (.iload_n 3, 1) := by decide +kernel
theorem dX2_worst_41 : decode cX2_worst 41 = .ok (.iaload, 1) := by decide +kernel
theorem dX2_worst_42 : decode cX2_worst 42 = .ok (.istore_n 2, 1) := by decide +kernel
theorem dX2_worst_43 : decode cX2_worst 43 = .ok (.iload_n 3, 1) := by decide +kernel
theorem dX2_worst_44 : decode cX2_worst 44 = .ok (.istore_n 1, 1) := by decide +kernel
theorem dX2_worst_45 : decode cX2_worst 45 = .ok (.iinc 3 1, 3) := by decide +kernel
theorem dX2_worst_48 : decode cX2_worst 48 = .ok (.goto (-41), 3) := by decide +kernel
theorem dX2_worst_51 : decode cX2_worst 51 = .ok (.iload_n 1, 1) := by decide +kernel
theorem dX2_worst_52 : decode cX2_worst 52 = .ok (.ireturn, 1) := by decide +kernel
set_option maxRecDepth 20000 in
theorem ggX2_ahead_X0_hitsAhead : GoodIn wsX2_ahead wsX0_hitsAhead := goodIn_r _ [7, 8, 9, 10, 11, 12, 6, 13, 14, 15, 16, 17, 18, 19, 20, 21, 22, 23, 24, 31, 32, 33, 34, 35, 36, 37, 38, 39, 40, 41, 42, 43, 44] (by decide +kernel) (by decide +kernel)
set_option maxRecDepth 20000 in
theorem gX2_ahead_X0_hitsAhead : GoodIn wsX2_ahead (wsV RX2 113 RX0 yX0_hitsAhead wsX0_hitsAhead) := goodIn_app (goodIn_of _ (by decide +kernel)) ggX2_ahead_X0_hitsAhead
theorem dX2_ahead_0 : decode cX2_ahead 0 = .ok (.iload_n 1, 1) := by decide +kernel
theorem dX2_ahead_1 : decode cX2_ahead 1 = .ok (.iconst 1, 1) := by decide +kernel
theorem dX2_ahead_2 : decode cX2_ahead 2 = .ok (.if_icmp .lt 18, 3) := by decide +kernel
theorem dX2_ahead_5 : decode cX2_ahead 5 = .ok (.iload_n 1, 1) := by decide +kernel
theorem dX2_ahead_6 : decode cX2_ahead 6 = .ok (.bipush 40, 2) := by decide +kernel
theorem dX2_ahead_8 : decode cX2_ahead 8 = .ok (.if_icmp .gt 12, 3) := by decide +kernel
theorem dX2_ahead_11 : decode cX2_ahead 11 = .ok (.iload_n 2, 1) := by decide +kernel
theorem dX2_ahead_12 : decode cX2_ahead 12 = .ok (.ifCond .lt 8, 3) := by decide +kernel
theorem dX2_ahead_15 : decode cX2_ahead 15 = .ok (.iload_n 2, 1) := by decide +kernel
theorem dX2_ahead_16 : decode cX2_ahead 16 = .ok (.iconst 1, 1) := by decide +kernel
theorem dX2_ahead_17 : decode cX2_ahead 17 = .ok (.if_icmp .le 5, 3) := by decide +kernel
theorem dX2_ahead_20 : decode cX2_ahead 20 = .ok (.iconst (-1), 1) := by decide +kernel
theorem dX2_ahead_21 : decode cX2_ahead 21 = .ok (.ireturn, 1) := by decide +kernel
theorem dX2_ahead_22 : decode cX2_ahead 22 = .ok (.iload_n 1, 1) := by decide +kernel
theorem dX2_ahead_23 : decode cX2_ahead 23 = .ok (.aload_n 0, 1) := by decide +kernel
theorem dX2_ahead_24 : decode cX2_ahead 24 = .ok (.getfield 10, 3) := by decide +kernel
theorem dX2_ahead_27 : decode cX2_ahead 27 = .ok (.getfield 75, 3) := by decide +kernel
theorem dX2_ahead_30 : decode cX2_ahead 30 = .ok (.if_icmp .le 6, 3) := by decide +kernel
theorem dX2_ahead_33 : decode cX2_ahead 33 = .ok (.bipush (-2), 2) := by decide +kernel
theorem dX2_ahead_35 : decode cX2_ahead 35 = .ok (.ireturn, 1) := by decide +kernel
theorem dX2_ahead_36 : decode cX2_ahead 36 = .ok (.aload_n 0, 1) := by decide +kernel
theorem dX2_ahead_37 : decode cX2_ahead 37 = .ok (.getfield 10, 3) := by decide +kernel
theorem dX2_ahead_40 : decode cX2_ahead 40 = .ok (.iload_n 1, 1) := by decide +kernel
theorem dX2_ahead_41 : decode cX2_ahead 41 = .ok (.invokevirtual 113, 3) := by decide +kernel
theorem dX2_ahead_44 : decode cX2_ahead 44 = .ok (.istore_n 3, 1) := by decide +kernel
theorem dX2_ahead_45 : decode cX2_ahead 45 = .ok (.iload_n 2, 1) := by decide +kernel
theorem dX2_ahead_46 : decode cX2_ahead 46 = .ok (.ifCond .ne 7, 3) := by decide +kernel
theorem dX2_ahead_49 : decode cX2_ahead 49 = .ok (.iload_n 3, 1) := by decide +kernel
theorem dX2_ahead_50 : decode cX2_ahead 50 = .ok (.goto 6, 3) := by decide +kernel
theorem dX2_ahead_53 : decode cX2_ahead 53 = .ok (.iload_n 1, 1) := by decide +kernel
theorem dX2_ahead_54 : decode cX2_ahead 54 = .ok (.iload_n 3, 1) := by decide +kernel
theorem dX2_ahead_55 : decode cX2_ahead 55 = .ok (.isub, 1) := by decide +kernel
theorem dX2_ahead_56 : decode cX2_ahead 56 = .ok (.ireturn, 1) := by decide +kernel
set_option maxRecDepth 20000 in
theorem ggX2_missesWith_X2_isSize : GoodIn wsX2_missesWith wsX2_isSize := goodIn_r _ [4] (by decide +kernel) (by decide +kernel)
set_option maxRecDepth 20000 in
theorem gX2_missesWith_X2_isSize : GoodIn wsX2_missesWith (va_wsS RX2 45 yX2_isSize wsX2_isSize) := goodIn_app (goodIn_of _ (by decide +kernel)) ggX2_missesWith_X2_isSize
set_option maxRecDepth 20000 in
theorem ggX2_missesWith_X2_missesInTrial : GoodIn wsX2_missesWith wsX2_missesInTrial := goodIn_r _ [8, 9, 10, 11, 12, 13, 14, 15, 16, 17, 18, 19, 20, 21, 22, 23, 24, 25, 26, 27, 28, 29, 30, 31, 32, 33, 34, 35, 36, 37, 38, 39, 40, 41, 42, 43, 44, 45, 46, 47, 48, 49, 50, 51, 52, 53, 54, 55, 56, 57, 58, 59, 60, 61, 62, 63, 64, 65, 66, 67, 68, 69, 70, 71, 72, 73, 74, 75, 76, 77, 78, 79, 80, 81, 82, 83, 84, 85, 86, 87, 88, 89, 90, 91, 92, 93, 94, 95, 96, 97, 98, 99, 100, 101, 102, 103, 104, 105, 106, 107, 108, 109, 110, 111, 112, 113, 114, 115, 116, 117, 118, 119, 120, 121, 122, 123, 124, 125] (by decide +kernel) (by decide +kernel)
set_option maxRecDepth 20000 in
theorem gX2_missesWith_X2_missesInTrial : GoodIn wsX2_missesWith (wsV RX2 117 RX2 yX2_missesInTrial wsX2_missesInTrial) := goodIn_app (goodIn_of _ (by decide +kernel)) ggX2_missesWith_X2_missesInTrial
theorem dX2_missesWith_0 : decode cX2_missesWith 0 = .ok (.iload_n 1, 1) := by decide +kernel
theorem dX2_missesWith_1 : decode cX2_missesWith 1 = .ok (.invokestatic 45, 3) := by decide +kernel
theorem dX2_missesWith_4 : decode cX2_missesWith 4 = .ok (.ifCond .ne 5, 3) := by decide +kernel
theorem dX2_missesWith_7 : decode cX2_missesWith 7 = .ok (.iconst (-1), 1) := by decide +kernel
theorem dX2_missesWith_8 : decode cX2_missesWith 8 = .ok (.ireturn, 1) := by decide +kernel
theorem dX2_missesWith_9 : decode cX2_missesWith 9 = .ok (.aload_n 0, 1) := by decide +kernel
theorem dX2_missesWith_10 : decode cX2_missesWith 10 = .ok (.iload_n 1, 1) := by decide +kernel
theorem dX2_missesWith_11 : decode cX2_missesWith 11 = .ok (.invokevirtual 117, 3) := by decide +kernel
theorem dX2_missesWith_14 : decode cX2_missesWith 14 = .ok (.ireturn, 1) := by decide +kernel
set_option maxRecDepth 20000 in
theorem ggX2_bestSize_X2_missesInTrial : GoodIn wsX2_bestSize wsX2_missesInTrial := goodIn_r _ [5, 6, 7, 8, 9, 10, 11, 12, 13, 14, 15, 16, 17, 18, 19, 20, 21, 22, 23, 24, 25, 26, 27, 28, 29, 30, 31, 32, 33, 34, 35, 36, 37, 38, 39, 40, 41, 42, 43, 44, 45, 46, 47, 48, 49, 50, 51, 52, 53, 54, 55, 56, 57, 58, 59, 60, 61, 62, 63, 64, 65, 66, 67, 68, 69, 70, 71, 72, 73, 74, 75, 76, 77, 78, 79, 80, 81, 82, 83, 84, 85, 86, 87, 88, 89, 90, 91, 92, 93, 94, 95, 96, 97, 98, 99, 100, 101, 102, 103, 104, 105, 106, 107, 108, 109, 110, 111, 112, 113, 114, 115, 116, 117, 118, 119, 120, 121, 122] (by decide +kernel) (by decide +kernel)
set_option maxRecDepth 20000 in
theorem gX2_bestSize_X2_missesInTrial : GoodIn wsX2_bestSize (wsV RX2 117 RX2 yX2_missesInTrial wsX2_missesInTrial) := goodIn_app (goodIn_of _ (by decide +kernel)) ggX2_bestSize_X2_missesInTrial
theorem dX2_bestSize_0 : decode cX2_bestSize 0 = .ok (.iconst 2, 1) := by decide +kernel
theorem dX2_bestSize_1 : decode cX2_bestSize 1 = .ok (.istore_n 1, 1) := by decide +kernel
theorem dX2_bestSize_2 : decode cX2_bestSize 2 = .ok (.aload_n 0, 1) := by decide +kernel
theorem dX2_bestSize_3 : decode cX2_bestSize 3 = .ok (.iconst 2, 1) := by decide +kernel
theorem dX2_bestSize_4 : decode cX2_bestSize 4 = .ok (.invokevirtual 117, 3) := by decide +kernel
theorem dX2_bestSize_7 : decode cX2_bestSize 7 = .ok (.istore_n 2, 1) := by decide +kernel
theorem dX2_bestSize_8 : decode cX2_bestSize 8 = .ok (.iconst 3, 1) := by decide +kernel
theorem dX2_bestSize_9 : decode cX2_bestSize 9 = .ok (.istore_n 3, 1) := by decide +kernel
theorem dX2_bestSize_10 : decode cX2_bestSize 10 = .ok (.iload_n 3, 1) := by decide +kernel
theorem dX2_bestSize_11 : decode cX2_bestSize 11 = .ok (.bipush 16, 2) := by decide +kernel
theorem dX2_bestSize_13 : decode cX2_bestSize 13 = .ok (.if_icmp .gt 27, 3) := by decide +kernel
theorem dX2_bestSize_16 : decode cX2_bestSize 16 = .ok (.aload_n 0, 1) := by decide +kernel
theorem dX2_bestSize_17 : decode cX2_bestSize 17 = .ok (.iload_n 3, 1) := by decide +kernel
theorem dX2_bestSize_18 : decode cX2_bestSize 18 = .ok (.invokevirtual 117, 3) := by decide +kernel
theorem dX2_bestSize_21 : decode cX2_bestSize 21 = .ok (.istore 4, 2) := by decide +kernel
theorem dX2_bestSize_23 : decode cX2_bestSize 23 = .ok (.iload 4, 2) := by decide +kernel
theorem dX2_bestSize_25 : decode cX2_bestSize 25 = .ok (.iload_n 2, 1) := by decide +kernel
theorem dX2_bestSize_26 : decode cX2_bestSize 26 = .ok (.if_icmp .ge 8, 3) := by decide +kernel
theorem dX2_bestSize_29 : decode cX2_bestSize 29 = .ok (.iload 4, 2) := by decide +kernel
theorem dX2_bestSize_31 : decode cX2_bestSize 31 = .ok (.istore_n 2, 1) := by decide +kernel
theorem dX2_bestSize_32 : decode cX2_bestSize 32 = .ok (.iload_n 3, 1) := by decide +kernel
theorem dX2_bestSize_33 : decode cX2_bestSize 33 = .ok (.istore_n 1, 1) := by decide +kernel
theorem dX2_bestSize_34 : decode cX2_bestSize 34 = .ok (.iinc 3 1, 3) := by decide +kernel
theorem dX2_bestSize_37 : decode cX2_bestSize 37 = .ok (.goto (-27), 3) := by decide +kernel
theorem dX2_bestSize_40 : decode cX2_bestSize 40 = .ok (.iload_n 1, 1) := by decide +kernel
theorem dX2_bestSize_41 : decode cX2_bestSize 41 = .ok (.ireturn, 1) := by decide +kernel
set_option maxRecDepth 20000 in
theorem ggX2_callsUntil_X0_isOverrun : GoodIn wsX2_callsUntil wsX0_isOverrun := goodIn_r _ [10, 11, 18, 19, 20, 21, 22, 23, 24, 25, 26, 27, 28, 29, 30, 31] (by decide +kernel) (by decide +kernel)
set_option maxRecDepth 20000 in
theorem gX2_callsUntil_X0_isOverrun : GoodIn wsX2_callsUntil (wsV RX2 120 RX0 yX0_isOverrun wsX0_isOverrun) := goodIn_app (goodIn_of _ (by decide +kernel)) ggX2_callsUntil_X0_isOverrun
theorem dX2_callsUntil_0 : decode cX2_callsUntil 0 = .ok (.iload_n 1, 1) := by decide +kernel
theorem dX2_callsUntil_1 : decode cX2_callsUntil 1 = .ok (.ifCond .lt 14, 3) := by decide +kernel
theorem dX2_callsUntil_4 : decode cX2_callsUntil 4 = .ok (.iload_n 1, 1) := by decide +kernel
theorem dX2_callsUntil_5 : decode cX2_callsUntil 5 = .ok (.aload_n 0, 1) := by decide +kernel
theorem dX2_callsUntil_6 : decode cX2_callsUntil 6 = .ok (.getfield 10, 3) := by decide +kernel
theorem dX2_callsUntil_9 : decode cX2_callsUntil 9 = .ok (.getfield 75, 3) := by decide +kernel
theorem dX2_callsUntil_12 : decode cX2_callsUntil 12 = .ok (.if_icmp .lt 5, 3) := by decide +kernel
theorem dX2_callsUntil_15 : decode cX2_callsUntil 15 = .ok (.iconst (-1), 1) := by decide +kernel
theorem dX2_callsUntil_16 : decode cX2_callsUntil 16 = .ok (.ireturn, 1) := by decide +kernel
theorem dX2_callsUntil_17 : decode cX2_callsUntil 17 = .ok (.aload_n 0, 1) := by decide +kernel
theorem dX2_callsUntil_18 : decode cX2_callsUntil 18 = .ok (.getfield 10, 3) := by decide +kernel
theorem dX2_callsUntil_21 : decode cX2_callsUntil 21 = .ok (.getfield 75, 3) := by decide +kernel
theorem dX2_callsUntil_24 : decode cX2_callsUntil 24 = .ok (.iconst 1, 1) := by decide +kernel
theorem dX2_callsUntil_25 : decode cX2_callsUntil 25 = .ok (.isub, 1) := by decide +kernel
theorem dX2_callsUntil_26 : decode cX2_callsUntil 26 = .ok (.iload_n 1, 1) := by decide +kernel
theorem dX2_callsUntil_27 : decode cX2_callsUntil 27 = .ok (.isub, 1) := by decide +kernel
theorem dX2_callsUntil_28 : decode cX2_callsUntil 28 = .ok (.istore_n 2, 1) := by decide +kernel
theorem dX2_callsUntil_29 : decode cX2_callsUntil 29 = .ok (.aload_n 0, 1) := by decide +kernel
theorem dX2_callsUntil_30 : decode cX2_callsUntil 30 = .ok (.getfield 10, 3) := by decide +kernel
theorem dX2_callsUntil_33 : decode cX2_callsUntil 33 = .ok (.iload_n 2, 1) := by decide +kernel
theorem dX2_callsUntil_34 : decode cX2_callsUntil 34 = .ok (.invokevirtual 120, 3) := by decide +kernel
theorem dX2_callsUntil_37 : decode cX2_callsUntil 37 = .ok (.ifCond .eq 5, 3) := by decide +kernel
theorem dX2_callsUntil_40 : decode cX2_callsUntil 40 = .ok (.iconst 0, 1) := by decide +kernel
theorem dX2_callsUntil_41 : decode cX2_callsUntil 41 = .ok (.ireturn, 1) := by decide +kernel
theorem dX2_callsUntil_42 : decode cX2_callsUntil 42 = .ok (.aload_n 0, 1) := by decide +kernel
theorem dX2_callsUntil_43 : decode cX2_callsUntil 43 = .ok (.getfield 10, 3) := by decide +kernel
theorem dX2_callsUntil_46 : decode cX2_callsUntil 46 = .ok (.getfield 100, 3) := by decide +kernel
theorem dX2_callsUntil_49 : decode cX2_callsUntil 49 = .ok (.iconst 3, 1) := by decide +kernel
theorem dX2_callsUntil_50 : decode cX2_callsUntil 50 = .ok (.aaload, 1) := by decide +kernel
theorem dX2_callsUntil_51 : decode cX2_callsUntil 51 = .ok (.iload_n 2, 1) := by decide +kernel
theorem dX2_callsUntil_52 : decode cX2_callsUntil 52 = .ok (.iaload, 1) := by decide +kernel
theorem dX2_callsUntil_53 : decode cX2_callsUntil 53 = .ok (.aload_n 0, 1) := by decide +kernel
theorem dX2_callsUntil_54 : decode cX2_callsUntil 54 = .ok (.getfield 10, 3) := by decide +kernel
theorem dX2_callsUntil_57 : decode cX2_callsUntil 57 = .ok (.getfield 91, 3) := by decide +kernel
theorem dX2_callsUntil_60 : decode cX2_callsUntil 60 = .ok (.isub, 1) := by decide +kernel
theorem dX2_callsUntil_61 : decode cX2_callsUntil 61 = .ok (.istore_n 3, 1) := by decide +kernel
theorem dX2_callsUntil_62 : decode cX2_callsUntil 62 = .ok (.iload_n 3, 1) := by decide +kernel
theorem dX2_callsUntil_63 : decode cX2_callsUntil 63 = .ok (.ifCond .le 7, 3) := by decide +kernel
theorem dX2_callsUntil_66 : decode cX2_callsUntil 66 = .ok (.iload_n 3, 1) := by decide +kernel
theorem dX2_callsUntil_67 : decode cX2_callsUntil 67 = .ok (.goto 12, 3) := by decide +kernel
theorem dX2_callsUntil_70 : decode cX2_callsUntil 70 = .ok (.iload_n 3, 1) := by decide +kernel
theorem dX2_callsUntil_71 : decode cX2_callsUntil 71 = .ok (.aload_n 0, 1) := by decide +kernel
theorem dX2_callsUntil_72 : decode cX2_callsUntil 72 = .ok (.getfield 10, 3) := by decide +kernel
theorem dX2_callsUntil_75 : decode cX2_callsUntil 75 = .ok (.getfield 49, 3) := by decide +kernel
theorem dX2_callsUntil_78 : decode cX2_callsUntil 78 = .ok (.iadd, 1) := by decide +kernel
theorem dX2_callsUntil_79 : decode cX2_callsUntil 79 = .ok (.ireturn, 1) := by decide +kernel
theorem dX2_isSize_0 : decode cX2_isSize 0 = .ok (.iload_n 0, 1) := by decide +kernel
theorem dX2_isSize_1 : decode cX2_isSize 1 = .ok (.iconst 2, 1) := by decide +kernel
theorem dX2_isSize_2 : decode cX2_isSize 2 = .ok (.if_icmp .lt 13, 3) := by decide +kernel
theorem dX2_isSize_5 : decode cX2_isSize 5 = .ok (.iload_n 0, 1) := by decide +kernel
theorem dX2_isSize_6 : decode cX2_isSize 6 = .ok (.bipush 16, 2) := by decide +kernel
theorem dX2_isSize_8 : decode cX2_isSize 8 = .ok (.if_icmp .gt 7, 3) := by decide +kernel
theorem dX2_isSize_11 : decode cX2_isSize 11 = .ok (.iconst 1, 1) := by decide +kernel
theorem dX2_isSize_12 : decode cX2_isSize 12 = .ok (.goto 4, 3) := by decide +kernel
theorem dX2_isSize_15 : decode cX2_isSize 15 = .ok (.iconst 0, 1) := by decide +kernel
end
section
theorem dX2_isSize_16 : decode cX2_isSize 16 = .ok (.ireturn, 1) := by decide +kernel
set_option maxRecDepth 20000 in
theorem ggX2_takeAsAction_X0_copyFrom : GoodIn wsX2_takeAsAction wsX0_copyFrom := goodIn_r _ [7, 8, 9, 10, 11, 12, 13, 14, 15, 16, 17, 18, 19, 20, 21, 22, 23, 24, 25, 26, 27, 6, 28, 107, 108, 109, 110, 111, 112, 113, 114, 115, 116, 117, 118, 119, 120] (by decide +kernel) (by decide +kernel)
set_option maxRecDepth 20000 in
theorem gX2_takeAsAction_X0_copyFrom : GoodIn wsX2_takeAsAction (wsV RX2 59 RX0 yX0_copyFrom wsX0_copyFrom) := goodIn_app (goodIn_of _ (by decide +kernel)) ggX2_takeAsAction_X0_copyFrom
set_option maxRecDepth 20000 in
theorem ggX2_takeAsAction_X0_take : GoodIn wsX2_takeAsAction wsX0_take := goodIn_r _ [32, 33, 34, 35, 6, 36, 11, 13, 37, 38, 39, 40, 41, 42, 43, 44, 45, 46, 15, 10, 9, 23, 22, 12, 47, 48, 49, 50, 51, 52, 53, 54, 55, 56, 57, 58, 59, 60, 61, 62, 63, 64, 65, 66, 20, 67, 68, 69, 70, 71, 72, 73, 74, 25, 16, 17, 18, 19, 14, 75, 76, 77, 21, 78, 79, 80, 81, 82, 83, 84, 85, 8, 86, 87, 88, 89, 24, 107, 108, 109, 110, 111, 112, 113, 114, 115, 116, 117, 118, 119, 120] (by decide +kernel) (by decide +kernel)
set_option maxRecDepth 20000 in
theorem gX2_takeAsAction_X0_take : GoodIn wsX2_takeAsAction (wsV RX2 123 RX0 yX0_take wsX0_take) := goodIn_app (goodIn_of _ (by decide +kernel)) ggX2_takeAsAction_X0_take
set_option maxRecDepth 20000 in
theorem ggX2_takeAsAction_X2_record : GoodIn wsX2_takeAsAction wsX2_record := goodIn_r _ [94, 95, 96, 97, 98, 99, 93, 100, 3, 4, 5, 6, 7, 8, 9, 10, 11, 12, 13, 14, 15, 16, 17, 18, 19, 20, 21, 22, 23, 24, 25, 26, 27, 28, 101, 102, 103, 104, 105, 106, 107, 108, 109, 110, 111, 112, 113, 114, 115, 116, 117, 118, 119, 120] (by decide +kernel) (by decide +kernel)
set_option maxRecDepth 20000 in
theorem gX2_takeAsAction_X2_record : GoodIn wsX2_takeAsAction (wsV RX2 37 RX2 yX2_record wsX2_record) := goodIn_app (goodIn_of _ (by decide +kernel)) ggX2_takeAsAction_X2_record
theorem dX2_takeAsAction_0 : decode cX2_takeAsAction 0 = .ok (.aload_n 0, 1) := by decide +kernel
theorem dX2_takeAsAction_1 : decode cX2_takeAsAction 1 = .ok (.getfield 16, 3) := by decide +kernel
theorem dX2_takeAsAction_4 : decode cX2_takeAsAction 4 = .ok (.aload_n 0, 1) := by decide +kernel
theorem dX2_takeAsAction_5 : decode cX2_takeAsAction 5 = .ok (.getfield 10, 3) := by decide +kernel
theorem dX2_takeAsAction_8 : decode cX2_takeAsAction 8 = .ok (.invokevirtual 59, 3) := by decide +kernel
theorem dX2_takeAsAction_11 : decode cX2_takeAsAction 11 = .ok (.aload_n 0, 1) := by decide +kernel
theorem dX2_takeAsAction_12 : decode cX2_takeAsAction 12 = .ok (.getfield 10, 3) := by decide +kernel
theorem dX2_takeAsAction_15 : decode cX2_takeAsAction 15 = .ok (.iload_n 1, 1) := by decide +kernel
theorem dX2_takeAsAction_16 : decode cX2_takeAsAction 16 = .ok (.iload_n 2, 1) := by decide +kernel
theorem dX2_takeAsAction_17 : decode cX2_takeAsAction 17 = .ok (.iload_n 3, 1) := by decide +kernel
theorem dX2_takeAsAction_18 : decode cX2_takeAsAction 18 = .ok (.invokevirtual 123, 3) := by decide +kernel
theorem dX2_takeAsAction_21 : decode cX2_takeAsAction 21 = .ok (.istore 4, 2) := by decide +kernel
theorem dX2_takeAsAction_23 : decode cX2_takeAsAction 23 = .ok (.iload 4, 2) := by decide +kernel
theorem dX2_takeAsAction_25 : decode cX2_takeAsAction 25 = .ok (.ifCond .lt 11, 3) := by decide +kernel
theorem dX2_takeAsAction_28 : decode cX2_takeAsAction 28 = .ok (.aload_n 0, 1) := by decide +kernel
theorem dX2_takeAsAction_29 : decode cX2_takeAsAction 29 = .ok (.aload_n 0, 1) := by decide +kernel
theorem dX2_takeAsAction_30 : decode cX2_takeAsAction 30 = .ok (.getfield 16, 3) := by decide +kernel
theorem dX2_takeAsAction_33 : decode cX2_takeAsAction 33 = .ok (.invokevirtual 37, 3) := by decide +kernel
theorem dX2_takeAsAction_36 : decode cX2_takeAsAction 36 = .ok (.iload 4, 2) := by decide +kernel
theorem dX2_takeAsAction_38 : decode cX2_takeAsAction 38 = .ok (.ireturn, 1) := by decide +kernel
set_option maxRecDepth 20000 in
theorem ggX2_record_X2_dropOldest : GoodIn wsX2_record wsX2_dropOldest := goodIn_r _ [7, 2, 1, 34, 35, 36, 37, 38, 39] (by decide +kernel) (by decide +kernel)
set_option maxRecDepth 20000 in
theorem gX2_record_X2_dropOldest : GoodIn wsX2_record (wsV RX2 126 RX2 yX2_dropOldest wsX2_dropOldest) := goodIn_app (goodIn_of _ (by decide +kernel)) ggX2_record_X2_dropOldest
set_option maxRecDepth 20000 in
theorem ggX2_record_X0_copyFrom : GoodIn wsX2_record wsX0_copyFrom := goodIn_r _ [12, 13, 14, 15, 16, 17, 18, 19, 20, 21, 22, 23, 24, 25, 26, 27, 28, 29, 30, 31, 32, 11, 33, 40, 41, 42, 43, 44, 45, 46, 47, 48, 49, 50, 51, 52, 53] (by decide +kernel) (by decide +kernel)
set_option maxRecDepth 20000 in
theorem gX2_record_X0_copyFrom : GoodIn wsX2_record (wsV RX2 59 RX0 yX0_copyFrom wsX0_copyFrom) := goodIn_app (goodIn_of _ (by decide +kernel)) ggX2_record_X0_copyFrom
theorem dX2_record_0 : decode cX2_record 0 = .ok (.aload_n 0, 1) := by decide +kernel
theorem dX2_record_1 : decode cX2_record 1 = .ok (.getfield 56, 3) := by decide +kernel
theorem dX2_record_4 : decode cX2_record 4 = .ok (.iconst 5, 1) := by decide +kernel
theorem dX2_record_5 : decode cX2_record 5 = .ok (.if_icmp .ne 7, 3) := by decide +kernel
theorem dX2_record_8 : decode cX2_record 8 = .ok (.aload_n 0, 1) := by decide +kernel
theorem dX2_record_9 : decode cX2_record 9 = .ok (.invokevirtual 126, 3) := by decide +kernel
theorem dX2_record_12 : decode cX2_record 12 = .ok (.aload_n 0, 1) := by decide +kernel
theorem dX2_record_13 : decode cX2_record 13 = .ok (.getfield 22, 3) := by decide +kernel
theorem dX2_record_16 : decode cX2_record 16 = .ok (.aload_n 0, 1) := by decide +kernel
theorem dX2_record_17 : decode cX2_record 17 = .ok (.getfield 56, 3) := by decide +kernel
theorem dX2_record_20 : decode cX2_record 20 = .ok (.aaload, 1) := by decide +kernel
theorem dX2_record_21 : decode cX2_record 21 = .ok (.aload_n 1, 1) := by decide +kernel
theorem dX2_record_22 : decode cX2_record 22 = .ok (.invokevirtual 59, 3) := by decide +kernel
theorem dX2_record_25 : decode cX2_record 25 = .ok (.aload_n 0, 1) := by decide +kernel
theorem dX2_record_26 : decode cX2_record 26 = .ok (.dup, 1) := by decide +kernel
theorem dX2_record_27 : decode cX2_record 27 = .ok (.getfield 56, 3) := by decide +kernel
theorem dX2_record_30 : decode cX2_record 30 = .ok (.iconst 1, 1) := by decide +kernel
theorem dX2_record_31 : decode cX2_record 31 = .ok (.iadd, 1) := by decide +kernel
theorem dX2_record_32 : decode cX2_record 32 = .ok (.putfield 56, 3) := by decide +kernel
theorem dX2_record_35 : decode cX2_record 35 = .ok (.return_, 1) := by decide +kernel
theorem dX2_dropOldest_0 : decode cX2_dropOldest 0 = .ok (.aload_n 0, 1) := by decide +kernel
theorem dX2_dropOldest_1 : decode cX2_dropOldest 1 = .ok (.getfield 22, 3) := by decide +kernel
theorem dX2_dropOldest_4 : decode cX2_dropOldest 4 = .ok (.iconst 0, 1) := by decide +kernel
theorem dX2_dropOldest_5 : decode cX2_dropOldest 5 = .ok (.aaload, 1) := by decide +kernel
theorem dX2_dropOldest_6 : decode cX2_dropOldest 6 = .ok (.astore_n 1, 1) := by decide +kernel
theorem dX2_dropOldest_7 : decode cX2_dropOldest 7 = .ok (.iconst 1, 1) := by decide +kernel
theorem dX2_dropOldest_8 : decode cX2_dropOldest 8 = .ok (.istore_n 2, 1) := by decide +kernel
theorem dX2_dropOldest_9 : decode cX2_dropOldest 9 = .ok (.iload_n 2, 1) := by decide +kernel
theorem dX2_dropOldest_10 : decode cX2_dropOldest 10 = .ok (.iconst 5, 1) := by decide +kernel
theorem dX2_dropOldest_11 : decode cX2_dropOldest 11 = .ok (.if_icmp .ge 23, 3) := by decide +kernel
theorem dX2_dropOldest_14 : decode cX2_dropOldest 14 = .ok (.aload_n 0, 1) := by decide +kernel
theorem dX2_dropOldest_15 : decode cX2_dropOldest 15 = .ok (.getfield 22, 3) := by decide +kernel
theorem dX2_dropOldest_18 : decode cX2_dropOldest 18 = .ok (.iload_n 2, 1) := by decide +kernel
theorem dX2_dropOldest_19 : decode cX2_dropOldest 19 = .ok (.iconst 1, 1) := by decide +kernel
theorem dX2_dropOldest_20 : decode cX2_dropOldest 20 = .ok (.isub, 1) := by decide +kernel
theorem dX2_dropOldest_21 : decode cX2_dropOldest 21 = .ok (.aload_n 0, 1) := by decide +kernel
theorem dX2_dropOldest_22 : decode cX2_dropOldest 22 = .ok (.getfield 22, 3) := by decide +kernel
theorem dX2_dropOldest_25 : decode cX2_dropOldest 25 = .ok (.iload_n 2, 1) := by decide +kernel
theorem dX2_dropOldest_26 : decode cX2_dropOldest 26 = .ok (.aaload, 1) := by decide +kernel
theorem dX2_dropOldest_27 : decode cX2_dropOldest 27 = .ok (.aastore, 1) := by decide +kernel
theorem dX2_dropOldest_28 : decode cX2_dropOldest 28 = .ok (.iinc 2 1, 3) := by decide +kernel
theorem dX2_dropOldest_31 : decode cX2_dropOldest 31 = .ok (.goto (-22), 3) := by decide +kernel
theorem dX2_dropOldest_34 : decode cX2_dropOldest 34 = .ok (.aload_n 0, 1) := by decide +kernel
theorem dX2_dropOldest_35 : decode cX2_dropOldest 35 = .ok (.getfield 22, 3) := by decide +kernel
theorem dX2_dropOldest_38 : decode cX2_dropOldest 38 = .ok (.iconst 4, 1) := by decide +kernel
theorem dX2_dropOldest_39 : decode cX2_dropOldest 39 = .ok (.aload_n 1, 1) := by decide +kernel
theorem dX2_dropOldest_40 : decode cX2_dropOldest 40 = .ok (.aastore, 1) := by decide +kernel
theorem dX2_dropOldest_41 : decode cX2_dropOldest 41 = .ok (.aload_n 0, 1) := by decide +kernel
theorem dX2_dropOldest_42 : decode cX2_dropOldest 42 = .ok (.iconst 4, 1) := by decide +kernel
theorem dX2_dropOldest_43 : decode cX2_dropOldest 43 = .ok (.putfield 56, 3) := by decide +kernel
theorem dX2_dropOldest_46 : decode cX2_dropOldest 46 = .ok (.return_, 1) := by decide +kernel
set_option maxRecDepth 20000 in
theorem ggX2_missesInTrial_X0_beginAnew : GoodIn wsX2_missesInTrial wsX0_beginAnew := goodIn_r _ [10, 11, 12, 13, 14, 15, 16, 17, 18, 19, 20, 21, 22, 23, 24, 104, 105, 106, 107, 108, 109, 110, 111, 112, 113, 114, 115, 116, 117] (by decide +kernel) (by decide +kernel)
set_option maxRecDepth 20000 in
theorem gX2_missesInTrial_X0_beginAnew : GoodIn wsX2_missesInTrial (wsV RX2 52 RX0 yX0_beginAnew wsX0_beginAnew) := goodIn_app (goodIn_of _ (by decide +kernel)) ggX2_missesInTrial_X0_beginAnew
set_option maxRecDepth 20000 in
theorem ggX2_missesInTrial_X0_take : GoodIn wsX2_missesInTrial wsX0_take := goodIn_r _ [28, 29, 30, 31, 9, 32, 13, 15, 33, 34, 35, 36, 37, 38, 39, 40, 41, 42, 17, 12, 11, 20, 43, 14, 44, 45, 46, 47, 48, 49, 50, 51, 52, 53, 54, 55, 56, 57, 58, 59, 60, 61, 62, 63, 18, 64, 65, 66, 67, 68, 69, 70, 71, 72, 73, 74, 75, 76, 16, 77, 78, 79, 19, 80, 81, 82, 83, 84, 85, 86, 87, 88, 89, 90, 91, 92, 93, 104, 105, 106, 107, 108, 109, 110, 111, 112, 113, 114, 115, 116, 117] (by decide +kernel) (by decide +kernel)
set_option maxRecDepth 20000 in
theorem gX2_missesInTrial_X0_take : GoodIn wsX2_missesInTrial (wsV RX2 123 RX0 yX0_take wsX0_take) := goodIn_app (goodIn_of _ (by decide +kernel)) ggX2_missesInTrial_X0_take
set_option maxRecDepth 20000 in
theorem ggX2_missesInTrial_X0_misses : GoodIn wsX2_missesInTrial wsX0_misses := goodIn_r _ [97, 18, 104, 105, 106, 107, 108, 109, 110, 111, 112, 113, 114, 115, 116, 117] (by decide +kernel) (by decide +kernel)
set_option maxRecDepth 20000 in
theorem gX2_missesInTrial_X0_misses : GoodIn wsX2_missesInTrial (wsV RX2 132 RX0 yX0_misses wsX0_misses) := goodIn_app (goodIn_of _ (by decide +kernel)) ggX2_missesInTrial_X0_misses
theorem dX2_missesInTrial_0 : decode cX2_missesInTrial 0 = .ok (.aload_n 0, 1) := by decide +kernel
theorem dX2_missesInTrial_1 : decode cX2_missesInTrial 1 = .ok (.getfield 19, 3) := by decide +kernel
theorem dX2_missesInTrial_4 : decode cX2_missesInTrial 4 = .ok (.aload_n 0, 1) := by decide +kernel
theorem dX2_missesInTrial_5 : decode cX2_missesInTrial 5 = .ok (.getfield 10, 3) := by decide +kernel
theorem dX2_missesInTrial_8 : decode cX2_missesInTrial 8 = .ok (.getfield 41, 3) := by decide +kernel
theorem dX2_missesInTrial_11 : decode cX2_missesInTrial 11 = .ok (.putfield 41, 3) := by decide +kernel
theorem dX2_missesInTrial_14 : decode cX2_missesInTrial 14 = .ok (.aload_n 0, 1) := by decide +kernel
theorem dX2_missesInTrial_15 : decode cX2_missesInTrial 15 = .ok (.getfield 19, 3) := by decide +kernel
theorem dX2_missesInTrial_18 : decode cX2_missesInTrial 18 = .ok (.iload_n 1, 1) := by decide +kernel
theorem dX2_missesInTrial_19 : decode cX2_missesInTrial 19 = .ok (.invokevirtual 52, 3) := by decide +kernel
theorem dX2_missesInTrial_22 : decode cX2_missesInTrial 22 = .ok (.iconst 0, 1) := by decide +kernel
theorem dX2_missesInTrial_23 : decode cX2_missesInTrial 23 = .ok (.istore_n 2, 1) := by decide +kernel
theorem dX2_missesInTrial_24 : decode cX2_missesInTrial 24 = .ok (.iload_n 2, 1) := by decide +kernel
theorem dX2_missesInTrial_25 : decode cX2_missesInTrial 25 = .ok (.aload_n 0, 1) := by decide +kernel
theorem dX2_missesInTrial_26 : decode cX2_missesInTrial 26 = .ok (.getfield 10, 3) := by decide +kernel
theorem dX2_missesInTrial_29 : decode cX2_missesInTrial 29 = .ok (.getfield 78, 3) := by decide +kernel
theorem dX2_missesInTrial_32 : decode cX2_missesInTrial 32 = .ok (.if_icmp .ge 50, 3) := by decide +kernel
theorem dX2_missesInTrial_35 : decode cX2_missesInTrial 35 = .ok (.aload_n 0, 1) := by decide +kernel
theorem dX2_missesInTrial_36 : decode cX2_missesInTrial 36 = .ok (.getfield 19, 3) := by decide +kernel
theorem dX2_missesInTrial_39 : decode cX2_missesInTrial 39 = .ok (.aload_n 0, 1) := by decide +kernel
theorem dX2_missesInTrial_40 : decode cX2_missesInTrial 40 = .ok (.getfield 10, 3) := by decide +kernel
theorem dX2_missesInTrial_43 : decode cX2_missesInTrial 43 = .ok (.getfield 129, 3) := by decide +kernel
theorem dX2_missesInTrial_46 : decode cX2_missesInTrial 46 = .ok (.iconst 0, 1) := by decide +kernel
theorem dX2_missesInTrial_47 : decode cX2_missesInTrial 47 = .ok (.aaload, 1) := by decide +kernel
theorem dX2_missesInTrial_48 : decode cX2_missesInTrial 48 = .ok (.iload_n 2, 1) := by decide +kernel
theorem dX2_missesInTrial_49 : decode cX2_missesInTrial 49 = .ok (.iaload, 1) := by decide +kernel
theorem dX2_missesInTrial_50 : decode cX2_missesInTrial 50 = .ok (.aload_n 0, 1) := by decide +kernel
theorem dX2_missesInTrial_51 : decode cX2_missesInTrial 51 = .ok (.getfield 10, 3) := by decide +kernel
theorem dX2_missesInTrial_54 : decode cX2_missesInTrial 54 = .ok (.getfield 129, 3) := by decide +kernel
theorem dX2_missesInTrial_57 : decode cX2_missesInTrial 57 = .ok (.iconst 1, 1) := by decide +kernel
theorem dX2_missesInTrial_58 : decode cX2_missesInTrial 58 = .ok (.aaload, 1) := by decide +kernel
theorem dX2_missesInTrial_59 : decode cX2_missesInTrial 59 = .ok (.iload_n 2, 1) := by decide +kernel
theorem dX2_missesInTrial_60 : decode cX2_missesInTrial 60 = .ok (.iaload, 1) := by decide +kernel
theorem dX2_missesInTrial_61 : decode cX2_missesInTrial 61 = .ok (.aload_n 0, 1) := by decide +kernel
theorem dX2_missesInTrial_62 : decode cX2_missesInTrial 62 = .ok (.getfield 10, 3) := by decide +kernel
theorem dX2_missesInTrial_65 : decode cX2_missesInTrial 65 = .ok (.getfield 129, 3) := by decide +kernel
theorem dX2_missesInTrial_68 : decode cX2_missesInTrial 68 = .ok (.iconst 2, 1) := by decide +kernel
theorem dX2_missesInTrial_69 : decode cX2_missesInTrial 69 = .ok (.aaload, 1) := by decide +kernel
theorem dX2_missesInTrial_70 : decode cX2_missesInTrial 70 = .ok (.iload_n 2, 1) := by decide +kernel
theorem dX2_missesInTrial_71 : decode cX2_missesInTrial 71 = .ok (.iaload, 1) := by decide +kernel
theorem dX2_missesInTrial_72 : decode cX2_missesInTrial 72 = .ok (.invokevirtual 123, 3) := by decide +kernel
theorem dX2_missesInTrial_75 : decode cX2_missesInTrial 75 = .ok (.pop, 1) := by decide +kernel
theorem dX2_missesInTrial_76 : decode cX2_missesInTrial 76 = .ok (.iinc 2 1, 3) := by decide +kernel
theorem dX2_missesInTrial_79 : decode cX2_missesInTrial 79 = .ok (.goto (-55), 3) := by decide +kernel
theorem dX2_missesInTrial_82 : decode cX2_missesInTrial 82 = .ok (.aload_n 0, 1) := by decide +kernel
theorem dX2_missesInTrial_83 : decode cX2_missesInTrial 83 = .ok (.getfield 19, 3) := by decide +kernel
theorem dX2_missesInTrial_86 : decode cX2_missesInTrial 86 = .ok (.invokevirtual 132, 3) := by decide +kernel
theorem dX2_missesInTrial_89 : decode cX2_missesInTrial 89 = .ok (.ireturn, 1) := by decide +kernel
set_option maxRecDepth 20000 in
theorem ggX2_takeStepsOfText_X1_skipSpaces : GoodIn wsX2_takeStepsOfText wsX1_skipSpaces := goodIn_r _ [7, 8, 9, 10, 127, 128, 129] (by decide +kernel) (by decide +kernel)
set_option maxRecDepth 20000 in
theorem gX2_takeStepsOfText_X1_skipSpaces : GoodIn wsX2_takeStepsOfText (wsV RX2 135 RX1 yX1_skipSpaces wsX1_skipSpaces) := goodIn_app (goodIn_of _ (by decide +kernel)) ggX2_takeStepsOfText_X1_skipSpaces
set_option maxRecDepth 20000 in
theorem ggX2_takeStepsOfText_X1_isAtEnd : GoodIn wsX2_takeStepsOfText wsX1_isAtEnd := goodIn_r _ [14, 8, 9, 127, 128, 129] (by decide +kernel) (by decide +kernel)
set_option maxRecDepth 20000 in
theorem gX2_takeStepsOfText_X1_isAtEnd : GoodIn wsX2_takeStepsOfText (wsV RX2 138 RX1 yX1_isAtEnd wsX1_isAtEnd) := goodIn_app (goodIn_of _ (by decide +kernel)) ggX2_takeStepsOfText_X1_isAtEnd
set_option maxRecDepth 20000 in
theorem ggX2_takeStepsOfText_X2_takeStepOfText : GoodIn wsX2_takeStepsOfText wsX2_takeStepOfText := goodIn_r _ [19, 1, 2, 20, 21, 22, 23, 6, 24, 8, 9, 10, 25, 26, 18, 27, 28, 29, 30, 31, 32, 4, 5, 7, 33, 34, 35, 36, 37, 38, 39, 40, 41, 42, 43, 44, 45, 46, 47, 48, 49, 50, 51, 52, 53, 54, 55, 56, 57, 58, 59, 60, 61, 62, 63, 64, 65, 66, 67, 68, 69, 70, 71, 72, 73, 74, 75, 76, 77, 78, 79, 80, 81, 82, 83, 84, 85, 86, 87, 88, 89, 90, 91, 92, 93, 94, 95, 96, 97, 98, 99, 100, 101, 102, 103, 104, 105, 106, 107, 108, 109, 110, 111, 112, 113, 114, 115, 116, 117, 118, 119, 120, 121, 122, 123, 124, 125, 126, 127, 128, 129, 130, 131, 132, 133, 134, 135, 136, 137, 138, 139, 140, 141, 142, 143] (by decide +kernel) (by decide +kernel)
set_option maxRecDepth 20000 in
theorem gX2_takeStepsOfText_X2_takeStepOfText : GoodIn wsX2_takeStepsOfText (wsV RX2 142 RX2 yX2_takeStepOfText wsX2_takeStepOfText) := goodIn_app (goodIn_of _ (by decide +kernel)) ggX2_takeStepsOfText_X2_takeStepOfText
theorem dX2_takeStepsOfText_0 : decode cX2_takeStepsOfText 0 = .ok (.aload_n 0, 1) := by decide +kernel
theorem dX2_takeStepsOfText_1 : decode cX2_takeStepsOfText 1 = .ok (.getfield 29, 3) := by decide +kernel
theorem dX2_takeStepsOfText_4 : decode cX2_takeStepsOfText 4 = .ok (.iconst 0, 1) := by decide +kernel
theorem dX2_takeStepsOfText_5 : decode cX2_takeStepsOfText 5 = .ok (.putfield 72, 3) := by decide +kernel
theorem dX2_takeStepsOfText_8 : decode cX2_takeStepsOfText 8 = .ok (.iconst 0, 1) := by decide +kernel
theorem dX2_takeStepsOfText_9 : decode cX2_takeStepsOfText 9 = .ok (.istore_n 1, 1) := by decide +kernel
theorem dX2_takeStepsOfText_10 : decode cX2_takeStepsOfText 10 = .ok (.iload_n 1, 1) := by decide +kernel
theorem dX2_takeStepsOfText_11 : decode cX2_takeStepsOfText 11 = .ok (.bipush 120, 2) := by decide +kernel
theorem dX2_takeStepsOfText_13 : decode cX2_takeStepsOfText 13 = .ok (.if_icmp .gt 37, 3) := by decide +kernel
theorem dX2_takeStepsOfText_16 : decode cX2_takeStepsOfText 16 = .ok (.aload_n 0, 1) := by decide +kernel
theorem dX2_takeStepsOfText_17 : decode cX2_takeStepsOfText 17 = .ok (.getfield 29, 3) := by decide +kernel
theorem dX2_takeStepsOfText_20 : decode cX2_takeStepsOfText 20 = .ok (.invokevirtual 135, 3) := by decide +kernel
theorem dX2_takeStepsOfText_23 : decode cX2_takeStepsOfText 23 = .ok (.aload_n 0, 1) := by decide +kernel
theorem dX2_takeStepsOfText_24 : decode cX2_takeStepsOfText 24 = .ok (.getfield 29, 3) := by decide +kernel
theorem dX2_takeStepsOfText_27 : decode cX2_takeStepsOfText 27 = .ok (.invokevirtual 138, 3) := by decide +kernel
theorem dX2_takeStepsOfText_30 : decode cX2_takeStepsOfText 30 = .ok (.ifCond .eq 5, 3) := by decide +kernel
theorem dX2_takeStepsOfText_33 : decode cX2_takeStepsOfText 33 = .ok (.iload_n 1, 1) := by decide +kernel
theorem dX2_takeStepsOfText_34 : decode cX2_takeStepsOfText 34 = .ok (.ireturn, 1) := by decide +kernel
theorem dX2_takeStepsOfText_35 : decode cX2_takeStepsOfText 35 = .ok (.aload_n 0, 1) := by decide +kernel
theorem dX2_takeStepsOfText_36 : decode cX2_takeStepsOfText 36 = .ok (.invokevirtual 142, 3) := by decide +kernel
theorem dX2_takeStepsOfText_39 : decode cX2_takeStepsOfText 39 = .ok (.ifCond .ne 5, 3) := by decide +kernel
theorem dX2_takeStepsOfText_42 : decode cX2_takeStepsOfText 42 = .ok (.iconst (-1), 1) := by decide +kernel
theorem dX2_takeStepsOfText_43 : decode cX2_takeStepsOfText 43 = .ok (.ireturn, 1) := by decide +kernel
theorem dX2_takeStepsOfText_44 : decode cX2_takeStepsOfText 44 = .ok (.iinc 1 1, 3) := by decide +kernel
theorem dX2_takeStepsOfText_47 : decode cX2_takeStepsOfText 47 = .ok (.goto (-37), 3) := by decide +kernel
theorem dX2_takeStepsOfText_50 : decode cX2_takeStepsOfText 50 = .ok (.iconst (-1), 1) := by decide +kernel
theorem dX2_takeStepsOfText_51 : decode cX2_takeStepsOfText 51 = .ok (.ireturn, 1) := by decide +kernel
set_option maxRecDepth 20000 in
theorem ggX2_takeStepOfText_X1_sign : GoodIn wsX2_takeStepOfText wsX1_sign := goodIn_r _ [8, 9, 10, 11, 118, 119, 120] (by decide +kernel) (by decide +kernel)
set_option maxRecDepth 20000 in
theorem gX2_takeStepOfText_X1_sign : GoodIn wsX2_takeStepOfText (wsV RX2 145 RX1 yX1_sign wsX1_sign) := goodIn_app (goodIn_of _ (by decide +kernel)) ggX2_takeStepOfText_X1_sign
set_option maxRecDepth 20000 in
theorem ggX2_takeStepOfText_X2_kindOf : GoodIn wsX2_takeStepOfText wsX2_kindOf := goodIn_r _ [15] (by decide +kernel) (by decide +kernel)
set_option maxRecDepth 20000 in
theorem gX2_takeStepOfText_X2_kindOf : GoodIn wsX2_takeStepOfText (va_wsS RX2 148 yX2_kindOf wsX2_kindOf) := goodIn_app (goodIn_of _ (by decide +kernel)) ggX2_takeStepOfText_X2_kindOf
set_option maxRecDepth 20000 in
theorem ggX2_takeStepOfText_X1_readNumber : GoodIn wsX2_takeStepOfText wsX1_readNumber := goodIn_r _ [19, 9, 10, 11, 20, 21, 22, 7, 23, 24, 25, 26, 118, 119, 120] (by decide +kernel) (by decide +kernel)
set_option maxRecDepth 20000 in
theorem gX2_takeStepOfText_X1_readNumber : GoodIn wsX2_takeStepOfText (wsV RX2 151 RX1 yX1_readNumber wsX1_readNumber) := goodIn_app (goodIn_of _ (by decide +kernel)) ggX2_takeStepOfText_X1_readNumber
set_option maxRecDepth 20000 in
theorem ggX2_takeStepOfText_X1_readSign : GoodIn wsX2_takeStepOfText wsX1_readSign := goodIn_r _ [30, 9, 20, 21, 22, 7, 23, 10, 11, 31, 5, 6, 8, 118, 119, 120] (by decide +kernel) (by decide +kernel)
set_option maxRecDepth 20000 in
theorem gX2_takeStepOfText_X1_readSign : GoodIn wsX2_takeStepOfText (wsV RX2 154 RX1 yX1_readSign wsX1_readSign) := goodIn_app (goodIn_of _ (by decide +kernel)) ggX2_takeStepOfText_X1_readSign
set_option maxRecDepth 20000 in
theorem ggX2_takeStepOfText_X0_take : GoodIn wsX2_takeStepOfText wsX0_take := goodIn_r _ [36, 37, 38, 39, 35, 40, 41, 42, 43, 44, 45, 46, 47, 48, 49, 50, 51, 52, 53, 54, 55, 56, 57, 58, 59, 60, 61, 62, 63, 64, 65, 66, 67, 68, 69, 70, 71, 72, 73, 74, 75, 76, 77, 78, 79, 80, 81, 82, 83, 84, 85, 86, 87, 88, 89, 90, 91, 92, 93, 94, 95, 96, 97, 98, 99, 100, 101, 102, 103, 104, 105, 106, 107, 108, 109, 110, 111, 121, 122, 123, 124, 125, 126, 127, 128, 129, 130, 131, 132, 133, 134] (by decide +kernel) (by decide +kernel)
set_option maxRecDepth 20000 in
theorem gX2_takeStepOfText_X0_take : GoodIn wsX2_takeStepOfText (wsV RX2 123 RX0 yX0_take wsX0_take) := goodIn_app (goodIn_of _ (by decide +kernel)) ggX2_takeStepOfText_X0_take
theorem dX2_takeStepOfText_0 : decode cX2_takeStepOfText 0 = .ok (.aload_n 0, 1) := by decide +kernel
theorem dX2_takeStepOfText_1 : decode cX2_takeStepOfText 1 = .ok (.getfield 29, 3) := by decide +kernel
theorem dX2_takeStepOfText_4 : decode cX2_takeStepOfText 4 = .ok (.getfield 72, 3) := by decide +kernel
theorem dX2_takeStepOfText_7 : decode cX2_takeStepOfText 7 = .ok (.istore_n 1, 1) := by decide +kernel
theorem dX2_takeStepOfText_8 : decode cX2_takeStepOfText 8 = .ok (.aload_n 0, 1) := by decide +kernel
theorem dX2_takeStepOfText_9 : decode cX2_takeStepOfText 9 = .ok (.getfield 29, 3) := by decide +kernel
theorem dX2_takeStepOfText_12 : decode cX2_takeStepOfText 12 = .ok (.invokevirtual 145, 3) := by decide +kernel
theorem dX2_takeStepOfText_15 : decode cX2_takeStepOfText 15 = .ok (.invokestatic 148, 3) := by decide +kernel
theorem dX2_takeStepOfText_18 : decode cX2_takeStepOfText 18 = .ok (.istore_n 2, 1) := by decide +kernel
theorem dX2_takeStepOfText_19 : decode cX2_takeStepOfText 19 = .ok (.iload_n 2, 1) := by decide +kernel
theorem dX2_takeStepOfText_20 : decode cX2_takeStepOfText 20 = .ok (.iconst (-1), 1) := by decide +kernel
theorem dX2_takeStepOfText_21 : decode cX2_takeStepOfText 21 = .ok (.if_icmp .ne 5, 3) := by decide +kernel
theorem dX2_takeStepOfText_24 : decode cX2_takeStepOfText 24 = .ok (.iconst 0, 1) := by decide +kernel
theorem dX2_takeStepOfText_25 : decode cX2_takeStepOfText 25 = .ok (.ireturn, 1) := by decide +kernel
theorem dX2_takeStepOfText_26 : decode cX2_takeStepOfText 26 = .ok (.aload_n 0, 1) := by decide +kernel
theorem dX2_takeStepOfText_27 : decode cX2_takeStepOfText 27 = .ok (.getfield 29, 3) := by decide +kernel
theorem dX2_takeStepOfText_30 : decode cX2_takeStepOfText 30 = .ok (.dup, 1) := by decide +kernel
theorem dX2_takeStepOfText_31 : decode cX2_takeStepOfText 31 = .ok (.getfield 72, 3) := by decide +kernel
theorem dX2_takeStepOfText_34 : decode cX2_takeStepOfText 34 = .ok (.iconst 1, 1) := by decide +kernel
theorem dX2_takeStepOfText_35 : decode cX2_takeStepOfText 35 = .ok (.iadd, 1) := by decide +kernel
theorem dX2_takeStepOfText_36 : decode cX2_takeStepOfText 36 = .ok (.putfield 72, 3) := by decide +kernel
theorem dX2_takeStepOfText_39 : decode cX2_takeStepOfText 39 = .ok (.iconst 0, 1) := by decide +kernel
theorem dX2_takeStepOfText_40 : decode cX2_takeStepOfText 40 = .ok (.istore_n 3, 1) := by decide +kernel
theorem dX2_takeStepOfText_41 : decode cX2_takeStepOfText 41 = .ok (.iconst 0, 1) := by decide +kernel
theorem dX2_takeStepOfText_42 : decode cX2_takeStepOfText 42 = .ok (.istore 4, 2) := by decide +kernel
theorem dX2_takeStepOfText_44 : decode cX2_takeStepOfText 44 = .ok (.iload_n 2, 1) := by decide +kernel
theorem dX2_takeStepOfText_45 : decode cX2_takeStepOfText 45 = .ok (.ifCond .eq 8, 3) := by decide +kernel
theorem dX2_takeStepOfText_48 : decode cX2_takeStepOfText 48 = .ok (.iload_n 2, 1) := by decide +kernel
theorem dX2_takeStepOfText_49 : decode cX2_takeStepOfText 49 = .ok (.iconst 1, 1) := by decide +kernel
theorem dX2_takeStepOfText_50 : decode cX2_takeStepOfText 50 = .ok (.if_icmp .ne 11, 3) := by decide +kernel
theorem dX2_takeStepOfText_53 : decode cX2_takeStepOfText 53 = .ok (.aload_n 0, 1) := by decide +kernel
theorem dX2_takeStepOfText_54 : decode cX2_takeStepOfText 54 = .ok (.getfield 29, 3) := by decide +kernel
theorem dX2_takeStepOfText_57 : decode cX2_takeStepOfText 57 = .ok (.invokevirtual 151, 3) := by decide +kernel
theorem dX2_takeStepOfText_60 : decode cX2_takeStepOfText 60 = .ok (.istore_n 3, 1) := by decide +kernel
theorem dX2_takeStepOfText_61 : decode cX2_takeStepOfText 61 = .ok (.iload_n 3, 1) := by decide +kernel
theorem dX2_takeStepOfText_62 : decode cX2_takeStepOfText 62 = .ok (.ifCond .lt 19, 3) := by decide +kernel
theorem dX2_takeStepOfText_65 : decode cX2_takeStepOfText 65 = .ok (.iload_n 2, 1) := by decide +kernel
theorem dX2_takeStepOfText_66 : decode cX2_takeStepOfText 66 = .ok (.ifCond .ne 17, 3) := by decide +kernel
theorem dX2_takeStepOfText_69 : decode cX2_takeStepOfText 69 = .ok (.aload_n 0, 1) := by decide +kernel
theorem dX2_takeStepOfText_70 : decode cX2_takeStepOfText 70 = .ok (.getfield 29, 3) := by decide +kernel
theorem dX2_takeStepOfText_73 : decode cX2_takeStepOfText 73 = .ok (.bipush 64, 2) := by decide +kernel
theorem dX2_takeStepOfText_75 : decode cX2_takeStepOfText 75 = .ok (.invokevirtual 154, 3) := by decide +kernel
theorem dX2_takeStepOfText_78 : decode cX2_takeStepOfText 78 = .ok (.ifCond .ne 5, 3) := by decide +kernel
theorem dX2_takeStepOfText_81 : decode cX2_takeStepOfText 81 = .ok (.iconst 0, 1) := by decide +kernel
theorem dX2_takeStepOfText_82 : decode cX2_takeStepOfText 82 = .ok (.ireturn, 1) := by decide +kernel
theorem dX2_takeStepOfText_83 : decode cX2_takeStepOfText 83 = .ok (.iload_n 2, 1) := by decide +kernel
theorem dX2_takeStepOfText_84 : decode cX2_takeStepOfText 84 = .ok (.ifCond .eq 8, 3) := by decide +kernel
theorem dX2_takeStepOfText_87 : decode cX2_takeStepOfText 87 = .ok (.iload_n 2, 1) := by decide +kernel
theorem dX2_takeStepOfText_88 : decode cX2_takeStepOfText 88 = .ok (.iconst 3, 1) := by decide +kernel
theorem dX2_takeStepOfText_89 : decode cX2_takeStepOfText 89 = .ok (.if_icmp .ne 12, 3) := by decide +kernel
theorem dX2_takeStepOfText_92 : decode cX2_takeStepOfText 92 = .ok (.aload_n 0, 1) := by decide +kernel
theorem dX2_takeStepOfText_93 : decode cX2_takeStepOfText 93 = .ok (.getfield 29, 3) := by decide +kernel
theorem dX2_takeStepOfText_96 : decode cX2_takeStepOfText 96 = .ok (.invokevirtual 151, 3) := by decide +kernel
theorem dX2_takeStepOfText_99 : decode cX2_takeStepOfText 99 = .ok (.istore 4, 2) := by decide +kernel
theorem dX2_takeStepOfText_101 : decode cX2_takeStepOfText 101 = .ok (.iload 4, 2) := by decide +kernel
theorem dX2_takeStepOfText_103 : decode cX2_takeStepOfText 103 = .ok (.ifCond .ge 5, 3) := by decide +kernel
theorem dX2_takeStepOfText_106 : decode cX2_takeStepOfText 106 = .ok (.iconst 0, 1) := by decide +kernel
theorem dX2_takeStepOfText_107 : decode cX2_takeStepOfText 107 = .ok (.ireturn, 1) := by decide +kernel
theorem dX2_takeStepOfText_108 : decode cX2_takeStepOfText 108 = .ok (.aload_n 0, 1) := by decide +kernel
theorem dX2_takeStepOfText_109 : decode cX2_takeStepOfText 109 = .ok (.getfield 10, 3) := by decide +kernel
theorem dX2_takeStepOfText_112 : decode cX2_takeStepOfText 112 = .ok (.iload_n 2, 1) := by decide +kernel
theorem dX2_takeStepOfText_113 : decode cX2_takeStepOfText 113 = .ok (.iload_n 3, 1) := by decide +kernel
theorem dX2_takeStepOfText_114 : decode cX2_takeStepOfText 114 = .ok (.iload 4, 2) := by decide +kernel
theorem dX2_takeStepOfText_116 : decode cX2_takeStepOfText 116 = .ok (.invokevirtual 123, 3) := by decide +kernel
theorem dX2_takeStepOfText_119 : decode cX2_takeStepOfText 119 = .ok (.ifCond .ge 13, 3) := by decide +kernel
theorem dX2_takeStepOfText_122 : decode cX2_takeStepOfText 122 = .ok (.aload_n 0, 1) := by decide +kernel
theorem dX2_takeStepOfText_123 : decode cX2_takeStepOfText 123 = .ok (.getfield 29, 3) := by decide +kernel
theorem dX2_takeStepOfText_126 : decode cX2_takeStepOfText 126 = .ok (.iload_n 1, 1) := by decide +kernel
theorem dX2_takeStepOfText_127 : decode cX2_takeStepOfText 127 = .ok (.putfield 72, 3) := by decide +kernel
theorem dX2_takeStepOfText_130 : decode cX2_takeStepOfText 130 = .ok (.iconst 0, 1) := by decide +kernel
theorem dX2_takeStepOfText_131 : decode cX2_takeStepOfText 131 = .ok (.ireturn, 1) := by decide +kernel
theorem dX2_takeStepOfText_132 : decode cX2_takeStepOfText 132 = .ok (.iconst 1, 1) := by decide +kernel
theorem dX2_takeStepOfText_133 : decode cX2_takeStepOfText 133 = .ok (.ireturn, 1) := by decide +kernel
theorem dX2_kindOf_0 : decode cX2_kindOf 0 = .ok (.iload_n 0, 1) := by decide +kernel
theorem dX2_kindOf_1 : decode cX2_kindOf 1 = .ok (.lookupswitch 51 #[(99, 43), (114, 47), (116, 45), (120, 49)], 43) := by decide +kernel
theorem dX2_kindOf_44 : decode cX2_kindOf 44 = .ok (.iconst 0, 1) := by decide +kernel
theorem dX2_kindOf_45 : decode cX2_kindOf 45 = .ok (.ireturn, 1) := by decide +kernel
theorem dX2_kindOf_46 : decode cX2_kindOf 46 = .ok (.iconst 1, 1) := by decide +kernel
theorem dX2_kindOf_47 : decode cX2_kindOf 47 = .ok (.ireturn, 1) := by decide +kernel
theorem dX2_kindOf_48 : decode cX2_kindOf 48 = .ok (.iconst 2, 1) := by decide +kernel
theorem dX2_kindOf_49 : decode cX2_kindOf 49 = .ok (.ireturn, 1) := by decide +kernel
theorem dX2_kindOf_50 : decode cX2_kindOf 50 = .ok (.iconst 3, 1) := by decide +kernel
theorem dX2_kindOf_51 : decode cX2_kindOf 51 = .ok (.ireturn, 1) := by decide +kernel
theorem dX2_kindOf_52 : decode cX2_kindOf 52 = .ok (.iconst (-1), 1) := by decide +kernel
theorem dX2_kindOf_53 : decode cX2_kindOf 53 = .ok (.ireturn, 1) := by decide +kernel
set_option maxRecDepth 20000 in
theorem ggX3_init_X3_begins : GoodIn wsX3_init wsX3_begins := goodIn_r _ [15, 5, 16, 17, 18, 19, 20, 21, 22, 23, 24, 25, 26] (by decide +kernel) (by decide +kernel)
set_option maxRecDepth 20000 in
theorem gX3_init_X3_begins : GoodIn wsX3_init (wsV RX3 28 RX3 yX3_begins wsX3_begins) := goodIn_app (goodIn_of _ (by decide +kernel)) ggX3_init_X3_begins
theorem dX3_init_0 : decode cX3_init 0 = .ok (.aload_n 0, 1) := by decide +kernel
theorem dX3_init_1 : decode cX3_init 1 = .ok (.invokespecial 1, 3) := by decide +kernel
theorem dX3_init_4 : decode cX3_init 4 = .ok (.aload_n 0, 1) := by decide +kernel
theorem dX3_init_5 : decode cX3_init 5 = .ok (.sipush 935, 3) := by decide +kernel
theorem dX3_init_8 : decode cX3_init 8 = .ok (.newarray .int, 2) := by decide +kernel
theorem dX3_init_10 : decode cX3_init 10 = .ok (.putfield 7, 3) := by decide +kernel
theorem dX3_init_13 : decode cX3_init 13 = .ok (.aload_n 0, 1) := by decide +kernel
theorem dX3_init_14 : decode cX3_init 14 = .ok (.sipush 4675, 3) := by decide +kernel
theorem dX3_init_17 : decode cX3_init 17 = .ok (.newarray .int, 2) := by decide +kernel
theorem dX3_init_19 : decode cX3_init 19 = .ok (.putfield 13, 3) := by decide +kernel
theorem dX3_init_22 : decode cX3_init 22 = .ok (.aload_n 0, 1) := by decide +kernel
theorem dX3_init_23 : decode cX3_init 23 = .ok (.sipush 935, 3) := by decide +kernel
theorem dX3_init_26 : decode cX3_init 26 = .ok (.newarray .int, 2) := by decide +kernel
theorem dX3_init_28 : decode cX3_init 28 = .ok (.putfield 16, 3) := by decide +kernel
theorem dX3_init_31 : decode cX3_init 31 = .ok (.aload_n 0, 1) := by decide +kernel
theorem dX3_init_32 : decode cX3_init 32 = .ok (.bipush 120, 2) := by decide +kernel
theorem dX3_init_34 : decode cX3_init 34 = .ok (.newarray .int, 2) := by decide +kernel
theorem dX3_init_36 : decode cX3_init 36 = .ok (.putfield 19, 3) := by decide +kernel
theorem dX3_init_39 : decode cX3_init 39 = .ok (.aload_n 0, 1) := by decide +kernel
theorem dX3_init_40 : decode cX3_init 40 = .ok (.bipush 16, 2) := by decide +kernel
theorem dX3_init_42 : decode cX3_init 42 = .ok (.newarray .int, 2) := by decide +kernel
theorem dX3_init_44 : decode cX3_init 44 = .ok (.putfield 22, 3) := by decide +kernel
theorem dX3_init_47 : decode cX3_init 47 = .ok (.aload_n 0, 1) := by decide +kernel
theorem dX3_init_48 : decode cX3_init 48 = .ok (.bipush 40, 2) := by decide +kernel
theorem dX3_init_50 : decode cX3_init 50 = .ok (.newarray .int, 2) := by decide +kernel
theorem dX3_init_52 : decode cX3_init 52 = .ok (.putfield 25, 3) := by decide +kernel
theorem dX3_init_55 : decode cX3_init 55 = .ok (.aload_n 0, 1) := by decide +kernel
theorem dX3_init_56 : decode cX3_init 56 = .ok (.bipush 8, 2) := by decide +kernel
theorem dX3_init_58 : decode cX3_init 58 = .ok (.invokevirtual 28, 3) := by decide +kernel
theorem dX3_init_61 : decode cX3_init 61 = .ok (.return_, 1) := by decide +kernel
theorem dX3_in_0 : decode cX3_in 0 = .ok (.iload_n 0, 1) := by decide +kernel
theorem dX3_in_1 : decode cX3_in 1 = .ok (.iload_n 1, 1) := by decide +kernel
theorem dX3_in_2 : decode cX3_in 2 = .ok (.if_icmp .lt 12, 3) := by decide +kernel
theorem dX3_in_5 : decode cX3_in 5 = .ok (.iload_n 0, 1) := by decide +kernel
theorem dX3_in_6 : decode cX3_in 6 = .ok (.iload_n 2, 1) := by decide +kernel
theorem dX3_in_7 : decode cX3_in 7 = .ok (.if_icmp .gt 7, 3) := by decide +kernel
theorem dX3_in_10 : decode cX3_in 10 = .ok (.iconst 1, 1) := by decide +kernel
theorem dX3_in_11 : decode cX3_in 11 = .ok (.goto 4, 3) := by decide +kernel
theorem dX3_in_14 : decode cX3_in 14 = .ok (.iconst 0, 1) := by decide +kernel
theorem dX3_in_15 : decode cX3_in 15 = .ok (.ireturn, 1) := by decide +kernel
theorem dX3_acts_0 : decode cX3_acts 0 = .ok (.aload_n 0, 1) := by decide +kernel
theorem dX3_acts_1 : decode cX3_acts 1 = .ok (.getfield 32, 3) := by decide +kernel
theorem dX3_acts_4 : decode cX3_acts 4 = .ok (.ifCond .eq 4, 3) := by decide +kernel
theorem dX3_acts_7 : decode cX3_acts 7 = .ok (.return_, 1) := by decide +kernel
theorem dX3_acts_8 : decode cX3_acts 8 = .ok (.aload_n 0, 1) := by decide +kernel
theorem dX3_acts_9 : decode cX3_acts 9 = .ok (.getfield 36, 3) := by decide +kernel
theorem dX3_acts_12 : decode cX3_acts 12 = .ok (.iconst 5, 1) := by decide +kernel
theorem dX3_acts_13 : decode cX3_acts 13 = .ok (.if_icmp .ne 44, 3) := by decide +kernel
theorem dX3_acts_16 : decode cX3_acts 16 = .ok (.iconst 0, 1) := by decide +kernel
theorem dX3_acts_17 : decode cX3_acts 17 = .ok (.istore_n 1, 1) := by decide +kernel
theorem dX3_acts_18 : decode cX3_acts 18 = .ok (.iload_n 1, 1) := by decide +kernel
theorem dX3_acts_19 : decode cX3_acts 19 = .ok (.sipush 3740, 3) := by decide +kernel
theorem dX3_acts_22 : decode cX3_acts 22 = .ok (.if_icmp .ge 25, 3) := by decide +kernel
theorem dX3_acts_25 : decode cX3_acts 25 = .ok (.aload_n 0, 1) := by decide +kernel
theorem dX3_acts_26 : decode cX3_acts 26 = .ok (.getfield 13, 3) := by decide +kernel
theorem dX3_acts_29 : decode cX3_acts 29 = .ok (.iload_n 1, 1) := by decide +kernel
theorem dX3_acts_30 : decode cX3_acts 30 = .ok (.aload_n 0, 1) := by decide +kernel
theorem dX3_acts_31 : decode cX3_acts 31 = .ok (.getfield 13, 3) := by decide +kernel
theorem dX3_acts_34 : decode cX3_acts 34 = .ok (.iload_n 1, 1) := by decide +kernel
theorem dX3_acts_35 : decode cX3_acts 35 = .ok (.sipush 935, 3) := by decide +kernel
theorem dX3_acts_38 : decode cX3_acts 38 = .ok (.iadd, 1) := by decide +kernel
theorem dX3_acts_39 : decode cX3_acts 39 = .ok (.iaload, 1) := by decide +kernel
theorem dX3_acts_40 : decode cX3_acts 40 = .ok (.iastore, 1) := by decide +kernel
theorem dX3_acts_41 : decode cX3_acts 41 = .ok (.iinc 1 1, 3) := by decide +kernel
theorem dX3_acts_44 : decode cX3_acts 44 = .ok (.goto (-26), 3) := by decide +kernel
theorem dX3_acts_47 : decode cX3_acts 47 = .ok (.aload_n 0, 1) := by decide +kernel
theorem dX3_acts_48 : decode cX3_acts 48 = .ok (.dup, 1) := by decide +kernel
theorem dX3_acts_49 : decode cX3_acts 49 = .ok (.getfield 36, 3) := by decide +kernel
theorem dX3_acts_52 : decode cX3_acts 52 = .ok (.iconst 1, 1) := by decide +kernel
theorem dX3_acts_53 : decode cX3_acts 53 = .ok (.isub, 1) := by decide +kernel
theorem dX3_acts_54 : decode cX3_acts 54 = .ok (.putfield 36, 3) := by decide +kernel
theorem dX3_acts_57 : decode cX3_acts 57 = .ok (.iconst 0, 1) := by decide +kernel
theorem dX3_acts_58 : decode cX3_acts 58 = .ok (.istore_n 1, 1) := by decide +kernel
theorem dX3_acts_59 : decode cX3_acts 59 = .ok (.iload_n 1, 1) := by decide +kernel
theorem dX3_acts_60 : decode cX3_acts 60 = .ok (.sipush 935, 3) := by decide +kernel
theorem dX3_acts_63 : decode cX3_acts 63 = .ok (.if_icmp .ge 30, 3) := by decide +kernel
theorem dX3_acts_66 : decode cX3_acts 66 = .ok (.aload_n 0, 1) := by decide +kernel
theorem dX3_acts_67 : decode cX3_acts 67 = .ok (.getfield 13, 3) := by decide +kernel
theorem dX3_acts_70 : decode cX3_acts 70 = .ok (.sipush 935, 3) := by decide +kernel
theorem dX3_acts_73 : decode cX3_acts 73 = .ok (.aload_n 0, 1) := by decide +kernel
theorem dX3_acts_74 : decode cX3_acts 74 = .ok (.getfield 36, 3) := by decide +kernel
theorem dX3_acts_77 : decode cX3_acts 77 = .ok (.imul, 1) := by decide +kernel
theorem dX3_acts_78 : decode cX3_acts 78 = .ok (.iload_n 1, 1) := by decide +kernel
theorem dX3_acts_79 : decode cX3_acts 79 = .ok (.iadd, 1) := by decide +kernel
theorem dX3_acts_80 : decode cX3_acts 80 = .ok (.aload_n 0, 1) := by decide +kernel
theorem dX3_acts_81 : decode cX3_acts 81 = .ok (.getfield 7, 3) := by decide +kernel
theorem dX3_acts_84 : decode cX3_acts 84 = .ok (.iload_n 1, 1) := by decide +kernel
theorem dX3_acts_85 : decode cX3_acts 85 = .ok (.iaload, 1) := by decide +kernel
theorem dX3_acts_86 : decode cX3_acts 86 = .ok (.iastore, 1) := by decide +kernel
theorem dX3_acts_87 : decode cX3_acts 87 = .ok (.iinc 1 1, 3) := by decide +kernel
theorem dX3_acts_90 : decode cX3_acts 90 = .ok (.goto (-31), 3) := by decide +kernel
theorem dX3_acts_93 : decode cX3_acts 93 = .ok (.aload_n 0, 1) := by decide +kernel
theorem dX3_acts_94 : decode cX3_acts 94 = .ok (.dup, 1) := by decide +kernel
theorem dX3_acts_95 : decode cX3_acts 95 = .ok (.getfield 36, 3) := by decide +kernel
theorem dX3_acts_98 : decode cX3_acts 98 = .ok (.iconst 1, 1) := by decide +kernel
theorem dX3_acts_99 : decode cX3_acts 99 = .ok (.iadd, 1) := by decide +kernel
theorem dX3_acts_100 : decode cX3_acts 100 = .ok (.putfield 36, 3) := by decide +kernel
theorem dX3_acts_103 : decode cX3_acts 103 = .ok (.return_, 1) := by decide +kernel
theorem dX3_begins_0 : decode cX3_begins 0 = .ok (.aload_n 0, 1) := by decide +kernel
theorem dX3_begins_1 : decode cX3_begins 1 = .ok (.getfield 7, 3) := by decide +kernel
theorem dX3_begins_4 : decode cX3_begins 4 = .ok (.bipush 14, 2) := by decide +kernel
theorem dX3_begins_6 : decode cX3_begins 6 = .ok (.iaload, 1) := by decide +kernel
theorem dX3_begins_7 : decode cX3_begins 7 = .ok (.istore_n 2, 1) := by decide +kernel
theorem dX3_begins_8 : decode cX3_begins 8 = .ok (.iconst 0, 1) := by decide +kernel
theorem dX3_begins_9 : decode cX3_begins 9 = .ok (.istore_n 3, 1) := by decide +kernel
theorem dX3_begins_10 : decode cX3_begins 10 = .ok (.iload_n 3, 1) := by decide +kernel
theorem dX3_begins_11 : decode cX3_begins 11 = .ok (.sipush 935, 3) := by decide +kernel
theorem dX3_begins_14 : decode cX3_begins 14 = .ok (.if_icmp .ge 16, 3) := by decide +kernel
theorem dX3_begins_17 : decode cX3_begins 17 = .ok (.aload_n 0, 1) := by decide +kernel
theorem dX3_begins_18 : decode cX3_begins 18 = .ok (.getfield 7, 3) := by decide +kernel
theorem dX3_begins_21 : decode cX3_begins 21 = .ok (.iload_n 3, 1) := by decide +kernel
theorem dX3_begins_22 : decode cX3_begins 22 = .ok (.iconst 0, 1) := by decide +kernel
theorem dX3_begins_23 : decode cX3_begins 23 = .ok (.iastore, 1) := by decide +kernel
theorem dX3_begins_24 : decode cX3_begins 24 = .ok (.iinc 3 1, 3) := by decide +kernel
theorem dX3_begins_27 : decode cX3_begins 27 = .ok (.goto (-17), 3) := by decide +kernel
theorem dX3_begins_30 : decode cX3_begins 30 = .ok (.aload_n 0, 1) := by decide +kernel
theorem dX3_begins_31 : decode cX3_begins 31 = .ok (.getfield 7, 3) := by decide +kernel
theorem dX3_begins_34 : decode cX3_begins 34 = .ok (.bipush 14, 2) := by decide +kernel
theorem dX3_begins_36 : decode cX3_begins 36 = .ok (.iload_n 2, 1) := by decide +kernel
theorem dX3_begins_37 : decode cX3_begins 37 = .ok (.iastore, 1) := by decide +kernel
theorem dX3_begins_38 : decode cX3_begins 38 = .ok (.aload_n 0, 1) := by decide +kernel
theorem dX3_begins_39 : decode cX3_begins 39 = .ok (.getfield 7, 3) := by decide +kernel
theorem dX3_begins_42 : decode cX3_begins 42 = .ok (.bipush 11, 2) := by decide +kernel
theorem dX3_begins_44 : decode cX3_begins 44 = .ok (.iload_n 1, 1) := by decide +kernel
theorem dX3_begins_45 : decode cX3_begins 45 = .ok (.iastore, 1) := by decide +kernel
theorem dX3_begins_46 : decode cX3_begins 46 = .ok (.aload_n 0, 1) := by decide +kernel
theorem dX3_begins_47 : decode cX3_begins 47 = .ok (.getfield 7, 3) := by decide +kernel
theorem dX3_begins_50 : decode cX3_begins 50 = .ok (.bipush 12, 2) := by decide +kernel
theorem dX3_begins_52 : decode cX3_begins 52 = .ok (.iload_n 1, 1) := by decide +kernel
theorem dX3_begins_53 : decode cX3_begins 53 = .ok (.iconst 1, 1) := by decide +kernel
theorem dX3_begins_54 : decode cX3_begins 54 = .ok (.isub, 1) := by decide +kernel
theorem dX3_begins_55 : decode cX3_begins 55 = .ok (.iastore, 1) := by decide +kernel
theorem dX3_begins_56 : decode cX3_begins 56 = .ok (.iconst 0, 1) := by decide +kernel
theorem dX3_begins_57 : decode cX3_begins 57 = .ok (.istore_n 3, 1) := by decide +kernel
theorem dX3_begins_58 : decode cX3_begins 58 = .ok (.iload_n 3, 1) := by decide +kernel
theorem dX3_begins_59 : decode cX3_begins 59 = .ok (.bipush 16, 2) := by decide +kernel
theorem dX3_begins_61 : decode cX3_begins 61 = .ok (.if_icmp .ge 41, 3) := by decide +kernel
theorem dX3_begins_64 : decode cX3_begins 64 = .ok (.aload_n 0, 1) := by decide +kernel
theorem dX3_begins_65 : decode cX3_begins 65 = .ok (.getfield 7, 3) := by decide +kernel
theorem dX3_begins_68 : decode cX3_begins 68 = .ok (.sipush 215, 3) := by decide +kernel
theorem dX3_begins_71 : decode cX3_begins 71 = .ok (.iconst 3, 1) := by decide +kernel
theorem dX3_begins_72 : decode cX3_begins 72 = .ok (.iload_n 3, 1) := by decide +kernel
theorem dX3_begins_73 : decode cX3_begins 73 = .ok (.imul, 1) := by decide +kernel
theorem dX3_begins_74 : decode cX3_begins 74 = .ok (.iadd, 1) := by decide +kernel
theorem dX3_begins_75 : decode cX3_begins 75 = .ok (.iconst 0, 1) := by decide +kernel
theorem dX3_begins_76 : decode cX3_begins 76 = .ok (.iadd, 1) := by decide +kernel
theorem dX3_begins_77 : decode cX3_begins 77 = .ok (.bipush (-9), 2) := by decide +kernel
theorem dX3_begins_79 : decode cX3_begins 79 = .ok (.iastore, 1) := by decide +kernel
theorem dX3_begins_80 : decode cX3_begins 80 = .ok (.aload_n 0, 1) := by decide +kernel
theorem dX3_begins_81 : decode cX3_begins 81 = .ok (.getfield 7, 3) := by decide +kernel
theorem dX3_begins_84 : decode cX3_begins 84 = .ok (.sipush 215, 3) := by decide +kernel
theorem dX3_begins_87 : decode cX3_begins 87 = .ok (.iconst 3, 1) := by decide +kernel
theorem dX3_begins_88 : decode cX3_begins 88 = .ok (.iload_n 3, 1) := by decide +kernel
theorem dX3_begins_89 : decode cX3_begins 89 = .ok (.imul, 1) := by decide +kernel
theorem dX3_begins_90 : decode cX3_begins 90 = .ok (.iadd, 1) := by decide +kernel
theorem dX3_begins_91 : decode cX3_begins 91 = .ok (.iconst 1, 1) := by decide +kernel
theorem dX3_begins_92 : decode cX3_begins 92 = .ok (.iadd, 1) := by decide +kernel
theorem dX3_begins_93 : decode cX3_begins 93 = .ok (.bipush (-9), 2) := by decide +kernel
theorem dX3_begins_95 : decode cX3_begins 95 = .ok (.iastore, 1) := by decide +kernel
theorem dX3_begins_96 : decode cX3_begins 96 = .ok (.iinc 3 1, 3) := by decide +kernel
theorem dX3_begins_99 : decode cX3_begins 99 = .ok (.goto (-41), 3) := by decide +kernel
theorem dX3_begins_102 : decode cX3_begins 102 = .ok (.return_, 1) := by decide +kernel
theorem dX3_ofFrame_0 : decode cX3_ofFrame 0 = .ok (.aload_n 0, 1) := by decide +kernel
theorem dX3_ofFrame_1 : decode cX3_ofFrame 1 = .ok (.getfield 7, 3) := by decide +kernel
theorem dX3_ofFrame_4 : decode cX3_ofFrame 4 = .ok (.bipush 15, 2) := by decide +kernel
theorem dX3_ofFrame_6 : decode cX3_ofFrame 6 = .ok (.iconst 5, 1) := by decide +kernel
theorem dX3_ofFrame_7 : decode cX3_ofFrame 7 = .ok (.iload_n 1, 1) := by decide +kernel
theorem dX3_ofFrame_8 : decode cX3_ofFrame 8 = .ok (.imul, 1) := by decide +kernel
theorem dX3_ofFrame_9 : decode cX3_ofFrame 9 = .ok (.iadd, 1) := by decide +kernel
theorem dX3_ofFrame_10 : decode cX3_ofFrame 10 = .ok (.iload_n 2, 1) := by decide +kernel
theorem dX3_ofFrame_11 : decode cX3_ofFrame 11 = .ok (.iadd, 1) := by decide +kernel
theorem dX3_ofFrame_12 : decode cX3_ofFrame 12 = .ok (.iaload, 1) := by decide +kernel
theorem dX3_ofFrame_13 : decode cX3_ofFrame 13 = .ok (.ireturn, 1) := by decide +kernel
theorem dX3_ofSlot_0 : decode cX3_ofSlot 0 = .ok (.aload_n 0, 1) := by decide +kernel
theorem dX3_ofSlot_1 : decode cX3_ofSlot 1 = .ok (.getfield 7, 3) := by decide +kernel
theorem dX3_ofSlot_4 : decode cX3_ofSlot 4 = .ok (.sipush 215, 3) := by decide +kernel
theorem dX3_ofSlot_7 : decode cX3_ofSlot 7 = .ok (.iconst 3, 1) := by decide +kernel
theorem dX3_ofSlot_8 : decode cX3_ofSlot 8 = .ok (.iload_n 1, 1) := by decide +kernel
theorem dX3_ofSlot_9 : decode cX3_ofSlot 9 = .ok (.imul, 1) := by decide +kernel
theorem dX3_ofSlot_10 : decode cX3_ofSlot 10 = .ok (.iadd, 1) := by decide +kernel
theorem dX3_ofSlot_11 : decode cX3_ofSlot 11 = .ok (.iload_n 2, 1) := by decide +kernel
theorem dX3_ofSlot_12 : decode cX3_ofSlot 12 = .ok (.iadd, 1) := by decide +kernel
theorem dX3_ofSlot_13 : decode cX3_ofSlot 13 = .ok (.iaload, 1) := by decide +kernel
theorem dX3_ofSlot_14 : decode cX3_ofSlot 14 = .ok (.ireturn, 1) := by decide +kernel
theorem dX3_notes_0 : decode cX3_notes 0 = .ok (.aload_n 0, 1) := by decide +kernel
theorem dX3_notes_1 : decode cX3_notes 1 = .ok (.getfield 7, 3) := by decide +kernel
theorem dX3_notes_4 : decode cX3_notes 4 = .ok (.sipush 335, 3) := by decide +kernel
theorem dX3_notes_7 : decode cX3_notes 7 = .ok (.iconst 2, 1) := by decide +kernel
theorem dX3_notes_8 : decode cX3_notes 8 = .ok (.aload_n 0, 1) := by decide +kernel
theorem dX3_notes_9 : decode cX3_notes 9 = .ok (.getfield 7, 3) := by decide +kernel
theorem dX3_notes_12 : decode cX3_notes 12 = .ok (.iconst 1, 1) := by decide +kernel
theorem dX3_notes_13 : decode cX3_notes 13 = .ok (.iaload, 1) := by decide +kernel
theorem dX3_notes_14 : decode cX3_notes 14 = .ok (.imul, 1) := by decide +kernel
theorem dX3_notes_15 : decode cX3_notes 15 = .ok (.iadd, 1) := by decide +kernel
theorem dX3_notes_16 : decode cX3_notes 16 = .ok (.iload_n 1, 1) := by decide +kernel
theorem dX3_notes_17 : decode cX3_notes 17 = .ok (.iastore, 1) := by decide +kernel
theorem dX3_notes_18 : decode cX3_notes 18 = .ok (.aload_n 0, 1) := by decide +kernel
theorem dX3_notes_19 : decode cX3_notes 19 = .ok (.getfield 7, 3) := by decide +kernel
theorem dX3_notes_22 : decode cX3_notes 22 = .ok (.sipush 335, 3) := by decide +kernel
theorem dX3_notes_25 : decode cX3_notes 25 = .ok (.iconst 2, 1) := by decide +kernel
theorem dX3_notes_26 : decode cX3_notes 26 = .ok (.aload_n 0, 1) := by decide +kernel
theorem dX3_notes_27 : decode cX3_notes 27 = .ok (.getfield 7, 3) := by decide +kernel
theorem dX3_notes_30 : decode cX3_notes 30 = .ok (.iconst 1, 1) := by decide +kernel
theorem dX3_notes_31 : decode cX3_notes 31 = .ok (.iaload, 1) := by decide +kernel
theorem dX3_notes_32 : decode cX3_notes 32 = .ok (.imul, 1) := by decide +kernel
theorem dX3_notes_33 : decode cX3_notes 33 = .ok (.iadd, 1) := by decide +kernel
theorem dX3_notes_34 : decode cX3_notes 34 = .ok (.iconst 1, 1) := by decide +kernel
theorem dX3_notes_35 : decode cX3_notes 35 = .ok (.iadd, 1) := by decide +kernel
theorem dX3_notes_36 : decode cX3_notes 36 = .ok (.iload_n 2, 1) := by decide +kernel
theorem dX3_notes_37 : decode cX3_notes 37 = .ok (.iastore, 1) := by decide +kernel
theorem dX3_notes_38 : decode cX3_notes 38 = .ok (.aload_n 0, 1) := by decide +kernel
theorem dX3_notes_39 : decode cX3_notes 39 = .ok (.getfield 7, 3) := by decide +kernel
theorem dX3_notes_42 : decode cX3_notes 42 = .ok (.iconst 1, 1) := by decide +kernel
theorem dX3_notes_43 : decode cX3_notes 43 = .ok (.dup2, 1) := by decide +kernel
theorem dX3_notes_44 : decode cX3_notes 44 = .ok (.iaload, 1) := by decide +kernel
theorem dX3_notes_45 : decode cX3_notes 45 = .ok (.iconst 1, 1) := by decide +kernel
theorem dX3_notes_46 : decode cX3_notes 46 = .ok (.iadd, 1) := by decide +kernel
theorem dX3_notes_47 : decode cX3_notes 47 = .ok (.iastore, 1) := by decide +kernel
theorem dX3_notes_48 : decode cX3_notes 48 = .ok (.aload_n 0, 1) := by decide +kernel
theorem dX3_notes_49 : decode cX3_notes 49 = .ok (.getfield 7, 3) := by decide +kernel
theorem dX3_notes_52 : decode cX3_notes 52 = .ok (.iconst 2, 1) := by decide +kernel
theorem dX3_notes_53 : decode cX3_notes 53 = .ok (.iload_n 1, 1) := by decide +kernel
theorem dX3_notes_54 : decode cX3_notes 54 = .ok (.iadd, 1) := by decide +kernel
theorem dX3_notes_55 : decode cX3_notes 55 = .ok (.dup2, 1) := by decide +kernel
theorem dX3_notes_56 : decode cX3_notes 56 = .ok (.iaload, 1) := by decide +kernel
theorem dX3_notes_57 : decode cX3_notes 57 = .ok (.iconst 1, 1) := by decide +kernel
theorem dX3_notes_58 : decode cX3_notes 58 = .ok (.iadd, 1) := by decide +kernel
theorem dX3_notes_59 : decode cX3_notes 59 = .ok (.iastore, 1) := by decide +kernel
theorem dX3_notes_60 : decode cX3_notes 60 = .ok (.return_, 1) := by decide +kernel
set_option maxRecDepth 20000 in
theorem ggX3_call_X3_in : GoodIn wsX3_call wsX3_in := goodIn_r _ [5] (by decide +kernel) (by decide +kernel)
set_option maxRecDepth 20000 in
theorem gX3_call_X3_in : GoodIn wsX3_call (va_wsS RX3 40 yX3_in wsX3_in) := goodIn_app (goodIn_of _ (by decide +kernel)) ggX3_call_X3_in
set_option maxRecDepth 20000 in
theorem ggX3_call_X3_acts : GoodIn wsX3_call wsX3_acts := goodIn_r _ [9, 10, 11, 12, 1, 21, 22, 23, 24, 25, 26, 27, 28, 29, 30, 31] (by decide +kernel) (by decide +kernel)
set_option maxRecDepth 20000 in
theorem gX3_call_X3_acts : GoodIn wsX3_call (wsV RX3 44 RX3 yX3_acts wsX3_acts) := goodIn_app (goodIn_of _ (by decide +kernel)) ggX3_call_X3_acts
set_option maxRecDepth 20000 in
theorem ggX3_call_X3_ofFrame : GoodIn wsX3_call wsX3_ofFrame := goodIn_r _ [16, 1, 21, 22, 23, 24, 25, 26, 27, 28, 29, 30, 31] (by decide +kernel) (by decide +kernel)
set_option maxRecDepth 20000 in
theorem gX3_call_X3_ofFrame : GoodIn wsX3_call (wsV RX3 47 RX3 yX3_ofFrame wsX3_ofFrame) := goodIn_app (goodIn_of _ (by decide +kernel)) ggX3_call_X3_ofFrame
set_option maxRecDepth 20000 in
theorem ggX3_call_X3_notes : GoodIn wsX3_call wsX3_notes := goodIn_r _ [20, 1, 21, 22, 23, 24, 25, 26, 27, 28, 29, 30, 31] (by decide +kernel) (by decide +kernel)
set_option maxRecDepth 20000 in
theorem gX3_call_X3_notes : GoodIn wsX3_call (wsV RX3 51 RX3 yX3_notes wsX3_notes) := goodIn_app (goodIn_of _ (by decide +kernel)) ggX3_call_X3_notes
theorem dX3_call_0 : decode cX3_call 0 = .ok (.iload_n 1, 1) := by decide +kernel
theorem dX3_call_1 : decode cX3_call 1 = .ok (.iconst 0, 1) := by decide +kernel
theorem dX3_call_2 : decode cX3_call 2 = .ok (.bipush 15, 2) := by decide +kernel
theorem dX3_call_4 : decode cX3_call 4 = .ok (.invokestatic 40, 3) := by decide +kernel
theorem dX3_call_7 : decode cX3_call 7 = .ok (.ifCond .eq 14, 3) := by decide +kernel
theorem dX3_call_10 : decode cX3_call 10 = .ok (.iload_n 2, 1) := by decide +kernel
theorem dX3_call_11 : decode cX3_call 11 = .ok (.iconst 0, 1) := by decide +kernel
theorem dX3_call_12 : decode cX3_call 12 = .ok (.sipush 999, 3) := by decide +kernel
theorem dX3_call_15 : decode cX3_call 15 = .ok (.invokestatic 40, 3) := by decide +kernel
theorem dX3_call_18 : decode cX3_call 18 = .ok (.ifCond .ne 5, 3) := by decide +kernel
theorem dX3_call_21 : decode cX3_call 21 = .ok (.iconst (-1), 1) := by decide +kernel
theorem dX3_call_22 : decode cX3_call 22 = .ok (.ireturn, 1) := by decide +kernel
theorem dX3_call_23 : decode cX3_call 23 = .ok (.aload_n 0, 1) := by decide +kernel
theorem dX3_call_24 : decode cX3_call 24 = .ok (.getfield 7, 3) := by decide +kernel
theorem dX3_call_27 : decode cX3_call 27 = .ok (.iconst 0, 1) := by decide +kernel
theorem dX3_call_28 : decode cX3_call 28 = .ok (.iaload, 1) := by decide +kernel
end
section
theorem dX3_call_29 : decode cX3_call 29 = .ok (.bipush 40, 2) := by decide +kernel
theorem dX3_call_31 : decode cX3_call 31 = .ok (.if_icmp .eq 15, 3) := by decide +kernel
theorem dX3_call_34 : decode cX3_call 34 = .ok (.aload_n 0, 1) := by decide +kernel
theorem dX3_call_35 : decode cX3_call 35 = .ok (.getfield 7, 3) := by decide +kernel
theorem dX3_call_38 : decode cX3_call 38 = .ok (.iconst 1, 1) := by decide +kernel
theorem dX3_call_39 : decode cX3_call 39 = .ok (.iaload, 1) := by decide +kernel
theorem dX3_call_40 : decode cX3_call 40 = .ok (.sipush 200, 3) := by decide +kernel
theorem dX3_call_43 : decode cX3_call 43 = .ok (.if_icmp .ne 6, 3) := by decide +kernel
theorem dX3_call_46 : decode cX3_call 46 = .ok (.bipush (-3), 2) := by decide +kernel
theorem dX3_call_48 : decode cX3_call 48 = .ok (.ireturn, 1) := by decide +kernel
theorem dX3_call_49 : decode cX3_call 49 = .ok (.aload_n 0, 1) := by decide +kernel
theorem dX3_call_50 : decode cX3_call 50 = .ok (.invokevirtual 44, 3) := by decide +kernel
theorem dX3_call_53 : decode cX3_call 53 = .ok (.aload_n 0, 1) := by decide +kernel
theorem dX3_call_54 : decode cX3_call 54 = .ok (.getfield 7, 3) := by decide +kernel
theorem dX3_call_57 : decode cX3_call 57 = .ok (.iconst 2, 1) := by decide +kernel
theorem dX3_call_58 : decode cX3_call 58 = .ok (.iaload, 1) := by decide +kernel
theorem dX3_call_59 : decode cX3_call 59 = .ok (.istore_n 3, 1) := by decide +kernel
theorem dX3_call_60 : decode cX3_call 60 = .ok (.aload_n 0, 1) := by decide +kernel
theorem dX3_call_61 : decode cX3_call 61 = .ok (.getfield 7, 3) := by decide +kernel
theorem dX3_call_64 : decode cX3_call 64 = .ok (.bipush 12, 2) := by decide +kernel
theorem dX3_call_66 : decode cX3_call 66 = .ok (.iaload, 1) := by decide +kernel
theorem dX3_call_67 : decode cX3_call 67 = .ok (.iconst 1, 1) := by decide +kernel
theorem dX3_call_68 : decode cX3_call 68 = .ok (.iadd, 1) := by decide +kernel
theorem dX3_call_69 : decode cX3_call 69 = .ok (.aload_n 0, 1) := by decide +kernel
theorem dX3_call_70 : decode cX3_call 70 = .ok (.getfield 7, 3) := by decide +kernel
theorem dX3_call_73 : decode cX3_call 73 = .ok (.bipush 11, 2) := by decide +kernel
theorem dX3_call_75 : decode cX3_call 75 = .ok (.iaload, 1) := by decide +kernel
theorem dX3_call_76 : decode cX3_call 76 = .ok (.irem, 1) := by decide +kernel
theorem dX3_call_77 : decode cX3_call 77 = .ok (.istore 4, 2) := by decide +kernel
theorem dX3_call_79 : decode cX3_call 79 = .ok (.iconst 0, 1) := by decide +kernel
theorem dX3_call_80 : decode cX3_call 80 = .ok (.istore 5, 2) := by decide +kernel
theorem dX3_call_82 : decode cX3_call 82 = .ok (.iload 5, 2) := by decide +kernel
theorem dX3_call_84 : decode cX3_call 84 = .ok (.aload_n 0, 1) := by decide +kernel
theorem dX3_call_85 : decode cX3_call 85 = .ok (.getfield 7, 3) := by decide +kernel
theorem dX3_call_88 : decode cX3_call 88 = .ok (.iconst 0, 1) := by decide +kernel
theorem dX3_call_89 : decode cX3_call 89 = .ok (.iaload, 1) := by decide +kernel
theorem dX3_call_90 : decode cX3_call 90 = .ok (.if_icmp .ge 70, 3) := by decide +kernel
theorem dX3_call_93 : decode cX3_call 93 = .ok (.aload_n 0, 1) := by decide +kernel
theorem dX3_call_94 : decode cX3_call 94 = .ok (.iload 5, 2) := by decide +kernel
theorem dX3_call_96 : decode cX3_call 96 = .ok (.iconst 3, 1) := by decide +kernel
theorem dX3_call_97 : decode cX3_call 97 = .ok (.invokevirtual 47, 3) := by decide +kernel
theorem dX3_call_100 : decode cX3_call 100 = .ok (.iload 4, 2) := by decide +kernel
theorem dX3_call_102 : decode cX3_call 102 = .ok (.if_icmp .ne 19, 3) := by decide +kernel
theorem dX3_call_105 : decode cX3_call 105 = .ok (.aload_n 0, 1) := by decide +kernel
theorem dX3_call_106 : decode cX3_call 106 = .ok (.iload 5, 2) := by decide +kernel
theorem dX3_call_108 : decode cX3_call 108 = .ok (.iconst 4, 1) := by decide +kernel
theorem dX3_call_109 : decode cX3_call 109 = .ok (.invokevirtual 47, 3) := by decide +kernel
theorem dX3_call_112 : decode cX3_call 112 = .ok (.bipush (-9), 2) := by decide +kernel
theorem dX3_call_114 : decode cX3_call 114 = .ok (.if_icmp .ne 7, 3) := by decide +kernel
theorem dX3_call_117 : decode cX3_call 117 = .ok (.iconst 1, 1) := by decide +kernel
theorem dX3_call_118 : decode cX3_call 118 = .ok (.goto 4, 3) := by decide +kernel
theorem dX3_call_121 : decode cX3_call 121 = .ok (.iconst 0, 1) := by decide +kernel
theorem dX3_call_122 : decode cX3_call 122 = .ok (.istore 6, 2) := by decide +kernel
theorem dX3_call_124 : decode cX3_call 124 = .ok (.aload_n 0, 1) := by decide +kernel
theorem dX3_call_125 : decode cX3_call 125 = .ok (.getfield 7, 3) := by decide +kernel
theorem dX3_call_128 : decode cX3_call 128 = .ok (.bipush 15, 2) := by decide +kernel
theorem dX3_call_130 : decode cX3_call 130 = .ok (.iconst 5, 1) := by decide +kernel
theorem dX3_call_131 : decode cX3_call 131 = .ok (.iload 5, 2) := by decide +kernel
theorem dX3_call_133 : decode cX3_call 133 = .ok (.imul, 1) := by decide +kernel
theorem dX3_call_134 : decode cX3_call 134 = .ok (.iadd, 1) := by decide +kernel
theorem dX3_call_135 : decode cX3_call 135 = .ok (.iconst 4, 1) := by decide +kernel
theorem dX3_call_136 : decode cX3_call 136 = .ok (.iadd, 1) := by decide +kernel
theorem dX3_call_137 : decode cX3_call 137 = .ok (.iload 6, 2) := by decide +kernel
theorem dX3_call_139 : decode cX3_call 139 = .ok (.ifCond .eq 7, 3) := by decide +kernel
theorem dX3_call_142 : decode cX3_call 142 = .ok (.iload_n 3, 1) := by decide +kernel
theorem dX3_call_143 : decode cX3_call 143 = .ok (.goto 10, 3) := by decide +kernel
theorem dX3_call_146 : decode cX3_call 146 = .ok (.aload_n 0, 1) := by decide +kernel
theorem dX3_call_147 : decode cX3_call 147 = .ok (.iload 5, 2) := by decide +kernel
theorem dX3_call_149 : decode cX3_call 149 = .ok (.iconst 4, 1) := by decide +kernel
theorem dX3_call_150 : decode cX3_call 150 = .ok (.invokevirtual 47, 3) := by decide +kernel
theorem dX3_call_153 : decode cX3_call 153 = .ok (.iastore, 1) := by decide +kernel
theorem dX3_call_154 : decode cX3_call 154 = .ok (.iinc 5 1, 3) := by decide +kernel
theorem dX3_call_157 : decode cX3_call 157 = .ok (.goto (-75), 3) := by decide +kernel
theorem dX3_call_160 : decode cX3_call 160 = .ok (.aload_n 0, 1) := by decide +kernel
theorem dX3_call_161 : decode cX3_call 161 = .ok (.getfield 7, 3) := by decide +kernel
theorem dX3_call_164 : decode cX3_call 164 = .ok (.bipush 12, 2) := by decide +kernel
theorem dX3_call_166 : decode cX3_call 166 = .ok (.iload 4, 2) := by decide +kernel
theorem dX3_call_168 : decode cX3_call 168 = .ok (.iastore, 1) := by decide +kernel
theorem dX3_call_169 : decode cX3_call 169 = .ok (.aload_n 0, 1) := by decide +kernel
theorem dX3_call_170 : decode cX3_call 170 = .ok (.getfield 7, 3) := by decide +kernel
theorem dX3_call_173 : decode cX3_call 173 = .ok (.sipush 215, 3) := by decide +kernel
theorem dX3_call_176 : decode cX3_call 176 = .ok (.iconst 3, 1) := by decide +kernel
theorem dX3_call_177 : decode cX3_call 177 = .ok (.iload 4, 2) := by decide +kernel
theorem dX3_call_179 : decode cX3_call 179 = .ok (.imul, 1) := by decide +kernel
theorem dX3_call_180 : decode cX3_call 180 = .ok (.iadd, 1) := by decide +kernel
theorem dX3_call_181 : decode cX3_call 181 = .ok (.iconst 0, 1) := by decide +kernel
theorem dX3_call_182 : decode cX3_call 182 = .ok (.iadd, 1) := by decide +kernel
theorem dX3_call_183 : decode cX3_call 183 = .ok (.iload_n 3, 1) := by decide +kernel
theorem dX3_call_184 : decode cX3_call 184 = .ok (.iastore, 1) := by decide +kernel
theorem dX3_call_185 : decode cX3_call 185 = .ok (.aload_n 0, 1) := by decide +kernel
theorem dX3_call_186 : decode cX3_call 186 = .ok (.getfield 7, 3) := by decide +kernel
theorem dX3_call_189 : decode cX3_call 189 = .ok (.sipush 215, 3) := by decide +kernel
theorem dX3_call_192 : decode cX3_call 192 = .ok (.iconst 3, 1) := by decide +kernel
theorem dX3_call_193 : decode cX3_call 193 = .ok (.iload 4, 2) := by decide +kernel
theorem dX3_call_195 : decode cX3_call 195 = .ok (.imul, 1) := by decide +kernel
theorem dX3_call_196 : decode cX3_call 196 = .ok (.iadd, 1) := by decide +kernel
theorem dX3_call_197 : decode cX3_call 197 = .ok (.iconst 1, 1) := by decide +kernel
theorem dX3_call_198 : decode cX3_call 198 = .ok (.iadd, 1) := by decide +kernel
theorem dX3_call_199 : decode cX3_call 199 = .ok (.iload_n 2, 1) := by decide +kernel
theorem dX3_call_200 : decode cX3_call 200 = .ok (.iastore, 1) := by decide +kernel
theorem dX3_call_201 : decode cX3_call 201 = .ok (.aload_n 0, 1) := by decide +kernel
theorem dX3_call_202 : decode cX3_call 202 = .ok (.getfield 7, 3) := by decide +kernel
theorem dX3_call_205 : decode cX3_call 205 = .ok (.sipush 215, 3) := by decide +kernel
theorem dX3_call_208 : decode cX3_call 208 = .ok (.iconst 3, 1) := by decide +kernel
theorem dX3_call_209 : decode cX3_call 209 = .ok (.iload 4, 2) := by decide +kernel
theorem dX3_call_211 : decode cX3_call 211 = .ok (.imul, 1) := by decide +kernel
theorem dX3_call_212 : decode cX3_call 212 = .ok (.iadd, 1) := by decide +kernel
theorem dX3_call_213 : decode cX3_call 213 = .ok (.iconst 2, 1) := by decide +kernel
theorem dX3_call_214 : decode cX3_call 214 = .ok (.iadd, 1) := by decide +kernel
theorem dX3_call_215 : decode cX3_call 215 = .ok (.dup2, 1) := by decide +kernel
theorem dX3_call_216 : decode cX3_call 216 = .ok (.iaload, 1) := by decide +kernel
theorem dX3_call_217 : decode cX3_call 217 = .ok (.iconst 1, 1) := by decide +kernel
theorem dX3_call_218 : decode cX3_call 218 = .ok (.iadd, 1) := by decide +kernel
theorem dX3_call_219 : decode cX3_call 219 = .ok (.iastore, 1) := by decide +kernel
theorem dX3_call_220 : decode cX3_call 220 = .ok (.bipush 15, 2) := by decide +kernel
theorem dX3_call_222 : decode cX3_call 222 = .ok (.iconst 5, 1) := by decide +kernel
theorem dX3_call_223 : decode cX3_call 223 = .ok (.aload_n 0, 1) := by decide +kernel
theorem dX3_call_224 : decode cX3_call 224 = .ok (.getfield 7, 3) := by decide +kernel
theorem dX3_call_227 : decode cX3_call 227 = .ok (.iconst 0, 1) := by decide +kernel
theorem dX3_call_228 : decode cX3_call 228 = .ok (.iaload, 1) := by decide +kernel
theorem dX3_call_229 : decode cX3_call 229 = .ok (.imul, 1) := by decide +kernel
theorem dX3_call_230 : decode cX3_call 230 = .ok (.iadd, 1) := by decide +kernel
theorem dX3_call_231 : decode cX3_call 231 = .ok (.istore 5, 2) := by decide +kernel
theorem dX3_call_233 : decode cX3_call 233 = .ok (.aload_n 0, 1) := by decide +kernel
theorem dX3_call_234 : decode cX3_call 234 = .ok (.getfield 7, 3) := by decide +kernel
theorem dX3_call_237 : decode cX3_call 237 = .ok (.iload 5, 2) := by decide +kernel
theorem dX3_call_239 : decode cX3_call 239 = .ok (.iconst 0, 1) := by decide +kernel
theorem dX3_call_240 : decode cX3_call 240 = .ok (.iadd, 1) := by decide +kernel
theorem dX3_call_241 : decode cX3_call 241 = .ok (.iload_n 3, 1) := by decide +kernel
theorem dX3_call_242 : decode cX3_call 242 = .ok (.iastore, 1) := by decide +kernel
theorem dX3_call_243 : decode cX3_call 243 = .ok (.aload_n 0, 1) := by decide +kernel
theorem dX3_call_244 : decode cX3_call 244 = .ok (.getfield 7, 3) := by decide +kernel
theorem dX3_call_247 : decode cX3_call 247 = .ok (.iload 5, 2) := by decide +kernel
theorem dX3_call_249 : decode cX3_call 249 = .ok (.iconst 1, 1) := by decide +kernel
theorem dX3_call_250 : decode cX3_call 250 = .ok (.iadd, 1) := by decide +kernel
theorem dX3_call_251 : decode cX3_call 251 = .ok (.iload_n 1, 1) := by decide +kernel
theorem dX3_call_252 : decode cX3_call 252 = .ok (.iastore, 1) := by decide +kernel
theorem dX3_call_253 : decode cX3_call 253 = .ok (.aload_n 0, 1) := by decide +kernel
theorem dX3_call_254 : decode cX3_call 254 = .ok (.getfield 7, 3) := by decide +kernel
theorem dX3_call_257 : decode cX3_call 257 = .ok (.iload 5, 2) := by decide +kernel
theorem dX3_call_259 : decode cX3_call 259 = .ok (.iconst 2, 1) := by decide +kernel
theorem dX3_call_260 : decode cX3_call 260 = .ok (.iadd, 1) := by decide +kernel
theorem dX3_call_261 : decode cX3_call 261 = .ok (.iload_n 2, 1) := by decide +kernel
theorem dX3_call_262 : decode cX3_call 262 = .ok (.iastore, 1) := by decide +kernel
theorem dX3_call_263 : decode cX3_call 263 = .ok (.aload_n 0, 1) := by decide +kernel
theorem dX3_call_264 : decode cX3_call 264 = .ok (.getfield 7, 3) := by decide +kernel
theorem dX3_call_267 : decode cX3_call 267 = .ok (.iload 5, 2) := by decide +kernel
theorem dX3_call_269 : decode cX3_call 269 = .ok (.iconst 3, 1) := by decide +kernel
theorem dX3_call_270 : decode cX3_call 270 = .ok (.iadd, 1) := by decide +kernel
theorem dX3_call_271 : decode cX3_call 271 = .ok (.iload 4, 2) := by decide +kernel
theorem dX3_call_273 : decode cX3_call 273 = .ok (.iastore, 1) := by decide +kernel
theorem dX3_call_274 : decode cX3_call 274 = .ok (.aload_n 0, 1) := by decide +kernel
theorem dX3_call_275 : decode cX3_call 275 = .ok (.getfield 7, 3) := by decide +kernel
theorem dX3_call_278 : decode cX3_call 278 = .ok (.iload 5, 2) := by decide +kernel
theorem dX3_call_280 : decode cX3_call 280 = .ok (.iconst 4, 1) := by decide +kernel
theorem dX3_call_281 : decode cX3_call 281 = .ok (.iadd, 1) := by decide +kernel
theorem dX3_call_282 : decode cX3_call 282 = .ok (.bipush (-9), 2) := by decide +kernel
theorem dX3_call_284 : decode cX3_call 284 = .ok (.iastore, 1) := by decide +kernel
theorem dX3_call_285 : decode cX3_call 285 = .ok (.aload_n 0, 1) := by decide +kernel
theorem dX3_call_286 : decode cX3_call 286 = .ok (.getfield 7, 3) := by decide +kernel
theorem dX3_call_289 : decode cX3_call 289 = .ok (.iconst 0, 1) := by decide +kernel
theorem dX3_call_290 : decode cX3_call 290 = .ok (.dup2, 1) := by decide +kernel
theorem dX3_call_291 : decode cX3_call 291 = .ok (.iaload, 1) := by decide +kernel
theorem dX3_call_292 : decode cX3_call 292 = .ok (.iconst 1, 1) := by decide +kernel
theorem dX3_call_293 : decode cX3_call 293 = .ok (.iadd, 1) := by decide +kernel
theorem dX3_call_294 : decode cX3_call 294 = .ok (.iastore, 1) := by decide +kernel
theorem dX3_call_295 : decode cX3_call 295 = .ok (.aload_n 0, 1) := by decide +kernel
theorem dX3_call_296 : decode cX3_call 296 = .ok (.getfield 7, 3) := by decide +kernel
theorem dX3_call_299 : decode cX3_call 299 = .ok (.bipush 13, 2) := by decide +kernel
theorem dX3_call_301 : decode cX3_call 301 = .ok (.aload_n 0, 1) := by decide +kernel
theorem dX3_call_302 : decode cX3_call 302 = .ok (.getfield 7, 3) := by decide +kernel
theorem dX3_call_305 : decode cX3_call 305 = .ok (.iconst 0, 1) := by decide +kernel
theorem dX3_call_306 : decode cX3_call 306 = .ok (.iaload, 1) := by decide +kernel
theorem dX3_call_307 : decode cX3_call 307 = .ok (.aload_n 0, 1) := by decide +kernel
theorem dX3_call_308 : decode cX3_call 308 = .ok (.getfield 7, 3) := by decide +kernel
theorem dX3_call_311 : decode cX3_call 311 = .ok (.bipush 13, 2) := by decide +kernel
theorem dX3_call_313 : decode cX3_call 313 = .ok (.iaload, 1) := by decide +kernel
theorem dX3_call_314 : decode cX3_call 314 = .ok (.if_icmp .le 12, 3) := by decide +kernel
theorem dX3_call_317 : decode cX3_call 317 = .ok (.aload_n 0, 1) := by decide +kernel
theorem dX3_call_318 : decode cX3_call 318 = .ok (.getfield 7, 3) := by decide +kernel
theorem dX3_call_321 : decode cX3_call 321 = .ok (.iconst 0, 1) := by decide +kernel
theorem dX3_call_322 : decode cX3_call 322 = .ok (.iaload, 1) := by decide +kernel
theorem dX3_call_323 : decode cX3_call 323 = .ok (.goto 10, 3) := by decide +kernel
theorem dX3_call_326 : decode cX3_call 326 = .ok (.aload_n 0, 1) := by decide +kernel
theorem dX3_call_327 : decode cX3_call 327 = .ok (.getfield 7, 3) := by decide +kernel
theorem dX3_call_330 : decode cX3_call 330 = .ok (.bipush 13, 2) := by decide +kernel
theorem dX3_call_332 : decode cX3_call 332 = .ok (.iaload, 1) := by decide +kernel
theorem dX3_call_333 : decode cX3_call 333 = .ok (.iastore, 1) := by decide +kernel
theorem dX3_call_334 : decode cX3_call 334 = .ok (.aload_n 0, 1) := by decide +kernel
theorem dX3_call_335 : decode cX3_call 335 = .ok (.getfield 7, 3) := by decide +kernel
theorem dX3_call_338 : decode cX3_call 338 = .ok (.sipush 735, 3) := by decide +kernel
theorem dX3_call_341 : decode cX3_call 341 = .ok (.iload_n 3, 1) := by decide +kernel
theorem dX3_call_342 : decode cX3_call 342 = .ok (.iadd, 1) := by decide +kernel
theorem dX3_call_343 : decode cX3_call 343 = .ok (.iconst 0, 1) := by decide +kernel
theorem dX3_call_344 : decode cX3_call 344 = .ok (.iastore, 1) := by decide +kernel
theorem dX3_call_345 : decode cX3_call 345 = .ok (.aload_n 0, 1) := by decide +kernel
theorem dX3_call_346 : decode cX3_call 346 = .ok (.iconst 0, 1) := by decide +kernel
theorem dX3_call_347 : decode cX3_call 347 = .ok (.iload_n 2, 1) := by decide +kernel
theorem dX3_call_348 : decode cX3_call 348 = .ok (.invokevirtual 51, 3) := by decide +kernel
theorem dX3_call_351 : decode cX3_call 351 = .ok (.iload_n 3, 1) := by decide +kernel
theorem dX3_call_352 : decode cX3_call 352 = .ok (.ireturn, 1) := by decide +kernel
set_option maxRecDepth 20000 in
theorem ggX3_tail_X3_in : GoodIn wsX3_tail wsX3_in := goodIn_r _ [5] (by decide +kernel) (by decide +kernel)
set_option maxRecDepth 20000 in
theorem gX3_tail_X3_in : GoodIn wsX3_tail (va_wsS RX3 40 yX3_in wsX3_in) := goodIn_app (goodIn_of _ (by decide +kernel)) ggX3_tail_X3_in
set_option maxRecDepth 20000 in
theorem ggX3_tail_X3_acts : GoodIn wsX3_tail wsX3_acts := goodIn_r _ [9, 10, 11, 12, 1, 17, 18, 19, 20, 21, 22, 23, 24, 25, 26, 27] (by decide +kernel) (by decide +kernel)
set_option maxRecDepth 20000 in
theorem gX3_tail_X3_acts : GoodIn wsX3_tail (wsV RX3 44 RX3 yX3_acts wsX3_acts) := goodIn_app (goodIn_of _ (by decide +kernel)) ggX3_tail_X3_acts
set_option maxRecDepth 20000 in
theorem ggX3_tail_X3_notes : GoodIn wsX3_tail wsX3_notes := goodIn_r _ [16, 1, 17, 18, 19, 20, 21, 22, 23, 24, 25, 26, 27] (by decide +kernel) (by decide +kernel)
set_option maxRecDepth 20000 in
theorem gX3_tail_X3_notes : GoodIn wsX3_tail (wsV RX3 51 RX3 yX3_notes wsX3_notes) := goodIn_app (goodIn_of _ (by decide +kernel)) ggX3_tail_X3_notes
theorem dX3_tail_0 : decode cX3_tail 0 = .ok (.iload_n 1, 1) := by decide +kernel
theorem dX3_tail_1 : decode cX3_tail 1 = .ok (.iconst 0, 1) := by decide +kernel
theorem dX3_tail_2 : decode cX3_tail 2 = .ok (.bipush 15, 2) := by decide +kernel
theorem dX3_tail_4 : decode cX3_tail 4 = .ok (.invokestatic 40, 3) := by decide +kernel
theorem dX3_tail_7 : decode cX3_tail 7 = .ok (.ifCond .ne 5, 3) := by decide +kernel
theorem dX3_tail_10 : decode cX3_tail 10 = .ok (.iconst (-1), 1) := by decide +kernel
theorem dX3_tail_11 : decode cX3_tail 11 = .ok (.ireturn, 1) := by decide +kernel
theorem dX3_tail_12 : decode cX3_tail 12 = .ok (.aload_n 0, 1) := by decide +kernel
theorem dX3_tail_13 : decode cX3_tail 13 = .ok (.getfield 7, 3) := by decide +kernel
theorem dX3_tail_16 : decode cX3_tail 16 = .ok (.iconst 0, 1) := by decide +kernel
theorem dX3_tail_17 : decode cX3_tail 17 = .ok (.iaload, 1) := by decide +kernel
theorem dX3_tail_18 : decode cX3_tail 18 = .ok (.ifCond .ne 6, 3) := by decide +kernel
theorem dX3_tail_21 : decode cX3_tail 21 = .ok (.bipush (-2), 2) := by decide +kernel
theorem dX3_tail_23 : decode cX3_tail 23 = .ok (.ireturn, 1) := by decide +kernel
theorem dX3_tail_24 : decode cX3_tail 24 = .ok (.aload_n 0, 1) := by decide +kernel
theorem dX3_tail_25 : decode cX3_tail 25 = .ok (.getfield 7, 3) := by decide +kernel
theorem dX3_tail_28 : decode cX3_tail 28 = .ok (.iconst 1, 1) := by decide +kernel
theorem dX3_tail_29 : decode cX3_tail 29 = .ok (.iaload, 1) := by decide +kernel
theorem dX3_tail_30 : decode cX3_tail 30 = .ok (.sipush 200, 3) := by decide +kernel
theorem dX3_tail_33 : decode cX3_tail 33 = .ok (.if_icmp .ne 6, 3) := by decide +kernel
theorem dX3_tail_36 : decode cX3_tail 36 = .ok (.bipush (-3), 2) := by decide +kernel
theorem dX3_tail_38 : decode cX3_tail 38 = .ok (.ireturn, 1) := by decide +kernel
theorem dX3_tail_39 : decode cX3_tail 39 = .ok (.aload_n 0, 1) := by decide +kernel
theorem dX3_tail_40 : decode cX3_tail 40 = .ok (.invokevirtual 44, 3) := by decide +kernel
theorem dX3_tail_43 : decode cX3_tail 43 = .ok (.bipush 15, 2) := by decide +kernel
theorem dX3_tail_45 : decode cX3_tail 45 = .ok (.iconst 5, 1) := by decide +kernel
theorem dX3_tail_46 : decode cX3_tail 46 = .ok (.aload_n 0, 1) := by decide +kernel
theorem dX3_tail_47 : decode cX3_tail 47 = .ok (.getfield 7, 3) := by decide +kernel
theorem dX3_tail_50 : decode cX3_tail 50 = .ok (.iconst 0, 1) := by decide +kernel
theorem dX3_tail_51 : decode cX3_tail 51 = .ok (.iaload, 1) := by decide +kernel
theorem dX3_tail_52 : decode cX3_tail 52 = .ok (.iconst 1, 1) := by decide +kernel
theorem dX3_tail_53 : decode cX3_tail 53 = .ok (.isub, 1) := by decide +kernel
theorem dX3_tail_54 : decode cX3_tail 54 = .ok (.imul, 1) := by decide +kernel
theorem dX3_tail_55 : decode cX3_tail 55 = .ok (.iadd, 1) := by decide +kernel
theorem dX3_tail_56 : decode cX3_tail 56 = .ok (.iconst 1, 1) := by decide +kernel
theorem dX3_tail_57 : decode cX3_tail 57 = .ok (.iadd, 1) := by decide +kernel
theorem dX3_tail_58 : decode cX3_tail 58 = .ok (.istore_n 2, 1) := by decide +kernel
theorem dX3_tail_59 : decode cX3_tail 59 = .ok (.aload_n 0, 1) := by decide +kernel
theorem dX3_tail_60 : decode cX3_tail 60 = .ok (.getfield 7, 3) := by decide +kernel
theorem dX3_tail_63 : decode cX3_tail 63 = .ok (.iload_n 2, 1) := by decide +kernel
theorem dX3_tail_64 : decode cX3_tail 64 = .ok (.iaload, 1) := by decide +kernel
theorem dX3_tail_65 : decode cX3_tail 65 = .ok (.istore_n 3, 1) := by decide +kernel
theorem dX3_tail_66 : decode cX3_tail 66 = .ok (.aload_n 0, 1) := by decide +kernel
theorem dX3_tail_67 : decode cX3_tail 67 = .ok (.getfield 7, 3) := by decide +kernel
theorem dX3_tail_70 : decode cX3_tail 70 = .ok (.iload_n 2, 1) := by decide +kernel
theorem dX3_tail_71 : decode cX3_tail 71 = .ok (.iload_n 1, 1) := by decide +kernel
theorem dX3_tail_72 : decode cX3_tail 72 = .ok (.iastore, 1) := by decide +kernel
theorem dX3_tail_73 : decode cX3_tail 73 = .ok (.aload_n 0, 1) := by decide +kernel
theorem dX3_tail_74 : decode cX3_tail 74 = .ok (.iconst 1, 1) := by decide +kernel
theorem dX3_tail_75 : decode cX3_tail 75 = .ok (.iload_n 1, 1) := by decide +kernel
theorem dX3_tail_76 : decode cX3_tail 76 = .ok (.invokevirtual 51, 3) := by decide +kernel
theorem dX3_tail_79 : decode cX3_tail 79 = .ok (.iload_n 3, 1) := by decide +kernel
theorem dX3_tail_80 : decode cX3_tail 80 = .ok (.ireturn, 1) := by decide +kernel
set_option maxRecDepth 20000 in
theorem ggX3_tells_X3_ofFrame : GoodIn wsX3_tells wsX3_ofFrame := goodIn_r _ [6, 1, 11, 12, 13, 14, 15, 16, 17, 18, 19, 20, 21] (by decide +kernel) (by decide +kernel)
set_option maxRecDepth 20000 in
theorem gX3_tells_X3_ofFrame : GoodIn wsX3_tells (wsV RX3 47 RX3 yX3_ofFrame wsX3_ofFrame) := goodIn_app (goodIn_of _ (by decide +kernel)) ggX3_tells_X3_ofFrame
set_option maxRecDepth 20000 in
theorem ggX3_tells_X3_ofSlot : GoodIn wsX3_tells wsX3_ofSlot := goodIn_r _ [10, 1, 11, 12, 13, 14, 15, 16, 17, 18, 19, 20, 21] (by decide +kernel) (by decide +kernel)
set_option maxRecDepth 20000 in
theorem gX3_tells_X3_ofSlot : GoodIn wsX3_tells (wsV RX3 55 RX3 yX3_ofSlot wsX3_ofSlot) := goodIn_app (goodIn_of _ (by decide +kernel)) ggX3_tells_X3_ofSlot
theorem dX3_tells_0 : decode cX3_tells 0 = .ok (.aload_n 0, 1) := by decide +kernel
theorem dX3_tells_1 : decode cX3_tells 1 = .ok (.getfield 7, 3) := by decide +kernel
theorem dX3_tells_4 : decode cX3_tells 4 = .ok (.bipush 10, 2) := by decide +kernel
theorem dX3_tells_6 : decode cX3_tells 6 = .ok (.iaload, 1) := by decide +kernel
theorem dX3_tells_7 : decode cX3_tells 7 = .ok (.bipush 12, 2) := by decide +kernel
theorem dX3_tells_9 : decode cX3_tells 9 = .ok (.if_icmp .ne 50, 3) := by decide +kernel
theorem dX3_tells_12 : decode cX3_tells 12 = .ok (.sipush 263, 3) := by decide +kernel
theorem dX3_tells_15 : decode cX3_tells 15 = .ok (.istore 4, 2) := by decide +kernel
theorem dX3_tells_17 : decode cX3_tells 17 = .ok (.iload 4, 2) := by decide +kernel
theorem dX3_tells_19 : decode cX3_tells 19 = .ok (.sipush 329, 3) := by decide +kernel
theorem dX3_tells_22 : decode cX3_tells 22 = .ok (.if_icmp .ge 26, 3) := by decide +kernel
theorem dX3_tells_25 : decode cX3_tells 25 = .ok (.aload_n 0, 1) := by decide +kernel
theorem dX3_tells_26 : decode cX3_tells 26 = .ok (.getfield 7, 3) := by decide +kernel
theorem dX3_tells_29 : decode cX3_tells 29 = .ok (.iload 4, 2) := by decide +kernel
theorem dX3_tells_31 : decode cX3_tells 31 = .ok (.aload_n 0, 1) := by decide +kernel
theorem dX3_tells_32 : decode cX3_tells 32 = .ok (.getfield 7, 3) := by decide +kernel
theorem dX3_tells_35 : decode cX3_tells 35 = .ok (.iload 4, 2) := by decide +kernel
theorem dX3_tells_37 : decode cX3_tells 37 = .ok (.bipush 6, 2) := by decide +kernel
theorem dX3_tells_39 : decode cX3_tells 39 = .ok (.iadd, 1) := by decide +kernel
theorem dX3_tells_40 : decode cX3_tells 40 = .ok (.iaload, 1) := by decide +kernel
theorem dX3_tells_41 : decode cX3_tells 41 = .ok (.iastore, 1) := by decide +kernel
theorem dX3_tells_42 : decode cX3_tells 42 = .ok (.iinc 4 1, 3) := by decide +kernel
theorem dX3_tells_45 : decode cX3_tells 45 = .ok (.goto (-28), 3) := by decide +kernel
theorem dX3_tells_48 : decode cX3_tells 48 = .ok (.aload_n 0, 1) := by decide +kernel
theorem dX3_tells_49 : decode cX3_tells 49 = .ok (.getfield 7, 3) := by decide +kernel
theorem dX3_tells_52 : decode cX3_tells 52 = .ok (.bipush 10, 2) := by decide +kernel
theorem dX3_tells_54 : decode cX3_tells 54 = .ok (.dup2, 1) := by decide +kernel
theorem dX3_tells_55 : decode cX3_tells 55 = .ok (.iaload, 1) := by decide +kernel
theorem dX3_tells_56 : decode cX3_tells 56 = .ok (.iconst 1, 1) := by decide +kernel
theorem dX3_tells_57 : decode cX3_tells 57 = .ok (.isub, 1) := by decide +kernel
theorem dX3_tells_58 : decode cX3_tells 58 = .ok (.iastore, 1) := by decide +kernel
theorem dX3_tells_59 : decode cX3_tells 59 = .ok (.sipush 263, 3) := by decide +kernel
theorem dX3_tells_62 : decode cX3_tells 62 = .ok (.bipush 6, 2) := by decide +kernel
theorem dX3_tells_64 : decode cX3_tells 64 = .ok (.aload_n 0, 1) := by decide +kernel
theorem dX3_tells_65 : decode cX3_tells 65 = .ok (.getfield 7, 3) := by decide +kernel
theorem dX3_tells_68 : decode cX3_tells 68 = .ok (.bipush 10, 2) := by decide +kernel
theorem dX3_tells_70 : decode cX3_tells 70 = .ok (.iaload, 1) := by decide +kernel
theorem dX3_tells_71 : decode cX3_tells 71 = .ok (.imul, 1) := by decide +kernel
theorem dX3_tells_72 : decode cX3_tells 72 = .ok (.iadd, 1) := by decide +kernel
theorem dX3_tells_73 : decode cX3_tells 73 = .ok (.istore 4, 2) := by decide +kernel
theorem dX3_tells_75 : decode cX3_tells 75 = .ok (.aload_n 0, 1) := by decide +kernel
theorem dX3_tells_76 : decode cX3_tells 76 = .ok (.getfield 7, 3) := by decide +kernel
theorem dX3_tells_79 : decode cX3_tells 79 = .ok (.iload 4, 2) := by decide +kernel
theorem dX3_tells_81 : decode cX3_tells 81 = .ok (.iload_n 1, 1) := by decide +kernel
theorem dX3_tells_82 : decode cX3_tells 82 = .ok (.iastore, 1) := by decide +kernel
theorem dX3_tells_83 : decode cX3_tells 83 = .ok (.aload_n 0, 1) := by decide +kernel
theorem dX3_tells_84 : decode cX3_tells 84 = .ok (.getfield 7, 3) := by decide +kernel
theorem dX3_tells_87 : decode cX3_tells 87 = .ok (.iload 4, 2) := by decide +kernel
theorem dX3_tells_89 : decode cX3_tells 89 = .ok (.iconst 1, 1) := by decide +kernel
theorem dX3_tells_90 : decode cX3_tells 90 = .ok (.iadd, 1) := by decide +kernel
theorem dX3_tells_91 : decode cX3_tells 91 = .ok (.iload_n 2, 1) := by decide +kernel
theorem dX3_tells_92 : decode cX3_tells 92 = .ok (.iastore, 1) := by decide +kernel
theorem dX3_tells_93 : decode cX3_tells 93 = .ok (.aload_n 0, 1) := by decide +kernel
theorem dX3_tells_94 : decode cX3_tells 94 = .ok (.getfield 7, 3) := by decide +kernel
theorem dX3_tells_97 : decode cX3_tells 97 = .ok (.iload 4, 2) := by decide +kernel
theorem dX3_tells_99 : decode cX3_tells 99 = .ok (.iconst 2, 1) := by decide +kernel
theorem dX3_tells_100 : decode cX3_tells 100 = .ok (.iadd, 1) := by decide +kernel
theorem dX3_tells_101 : decode cX3_tells 101 = .ok (.aload_n 0, 1) := by decide +kernel
theorem dX3_tells_102 : decode cX3_tells 102 = .ok (.iload_n 3, 1) := by decide +kernel
theorem dX3_tells_103 : decode cX3_tells 103 = .ok (.iconst 0, 1) := by decide +kernel
theorem dX3_tells_104 : decode cX3_tells 104 = .ok (.invokevirtual 47, 3) := by decide +kernel
theorem dX3_tells_107 : decode cX3_tells 107 = .ok (.iastore, 1) := by decide +kernel
theorem dX3_tells_108 : decode cX3_tells 108 = .ok (.aload_n 0, 1) := by decide +kernel
theorem dX3_tells_109 : decode cX3_tells 109 = .ok (.getfield 7, 3) := by decide +kernel
theorem dX3_tells_112 : decode cX3_tells 112 = .ok (.iload 4, 2) := by decide +kernel
theorem dX3_tells_114 : decode cX3_tells 114 = .ok (.iconst 3, 1) := by decide +kernel
theorem dX3_tells_115 : decode cX3_tells 115 = .ok (.iadd, 1) := by decide +kernel
theorem dX3_tells_116 : decode cX3_tells 116 = .ok (.aload_n 0, 1) := by decide +kernel
theorem dX3_tells_117 : decode cX3_tells 117 = .ok (.aload_n 0, 1) := by decide +kernel
theorem dX3_tells_118 : decode cX3_tells 118 = .ok (.getfield 7, 3) := by decide +kernel
theorem dX3_tells_121 : decode cX3_tells 121 = .ok (.bipush 12, 2) := by decide +kernel
theorem dX3_tells_123 : decode cX3_tells 123 = .ok (.iaload, 1) := by decide +kernel
theorem dX3_tells_124 : decode cX3_tells 124 = .ok (.iconst 1, 1) := by decide +kernel
theorem dX3_tells_125 : decode cX3_tells 125 = .ok (.invokevirtual 55, 3) := by decide +kernel
theorem dX3_tells_128 : decode cX3_tells 128 = .ok (.iastore, 1) := by decide +kernel
theorem dX3_tells_129 : decode cX3_tells 129 = .ok (.aload_n 0, 1) := by decide +kernel
theorem dX3_tells_130 : decode cX3_tells 130 = .ok (.getfield 7, 3) := by decide +kernel
theorem dX3_tells_133 : decode cX3_tells 133 = .ok (.iload 4, 2) := by decide +kernel
theorem dX3_tells_135 : decode cX3_tells 135 = .ok (.iconst 4, 1) := by decide +kernel
theorem dX3_tells_136 : decode cX3_tells 136 = .ok (.iadd, 1) := by decide +kernel
theorem dX3_tells_137 : decode cX3_tells 137 = .ok (.aload_n 0, 1) := by decide +kernel
theorem dX3_tells_138 : decode cX3_tells 138 = .ok (.iload_n 3, 1) := by decide +kernel
theorem dX3_tells_139 : decode cX3_tells 139 = .ok (.iconst 2, 1) := by decide +kernel
theorem dX3_tells_140 : decode cX3_tells 140 = .ok (.invokevirtual 47, 3) := by decide +kernel
theorem dX3_tells_143 : decode cX3_tells 143 = .ok (.iastore, 1) := by decide +kernel
theorem dX3_tells_144 : decode cX3_tells 144 = .ok (.aload_n 0, 1) := by decide +kernel
theorem dX3_tells_145 : decode cX3_tells 145 = .ok (.getfield 7, 3) := by decide +kernel
theorem dX3_tells_148 : decode cX3_tells 148 = .ok (.iload 4, 2) := by decide +kernel
theorem dX3_tells_150 : decode cX3_tells 150 = .ok (.iconst 5, 1) := by decide +kernel
theorem dX3_tells_151 : decode cX3_tells 151 = .ok (.iadd, 1) := by decide +kernel
theorem dX3_tells_152 : decode cX3_tells 152 = .ok (.aload_n 0, 1) := by decide +kernel
theorem dX3_tells_153 : decode cX3_tells 153 = .ok (.getfield 7, 3) := by decide +kernel
theorem dX3_tells_156 : decode cX3_tells 156 = .ok (.iconst 1, 1) := by decide +kernel
theorem dX3_tells_157 : decode cX3_tells 157 = .ok (.iaload, 1) := by decide +kernel
theorem dX3_tells_158 : decode cX3_tells 158 = .ok (.iastore, 1) := by decide +kernel
theorem dX3_tells_159 : decode cX3_tells 159 = .ok (.aload_n 0, 1) := by decide +kernel
theorem dX3_tells_160 : decode cX3_tells 160 = .ok (.getfield 7, 3) := by decide +kernel
theorem dX3_tells_163 : decode cX3_tells 163 = .ok (.bipush 10, 2) := by decide +kernel
theorem dX3_tells_165 : decode cX3_tells 165 = .ok (.dup2, 1) := by decide +kernel
theorem dX3_tells_166 : decode cX3_tells 166 = .ok (.iaload, 1) := by decide +kernel
theorem dX3_tells_167 : decode cX3_tells 167 = .ok (.iconst 1, 1) := by decide +kernel
theorem dX3_tells_168 : decode cX3_tells 168 = .ok (.iadd, 1) := by decide +kernel
theorem dX3_tells_169 : decode cX3_tells 169 = .ok (.iastore, 1) := by decide +kernel
theorem dX3_tells_170 : decode cX3_tells 170 = .ok (.iload_n 2, 1) := by decide +kernel
theorem dX3_tells_171 : decode cX3_tells 171 = .ok (.bipush (-9), 2) := by decide +kernel
theorem dX3_tells_173 : decode cX3_tells 173 = .ok (.if_icmp .eq 17, 3) := by decide +kernel
theorem dX3_tells_176 : decode cX3_tells 176 = .ok (.aload_n 0, 1) := by decide +kernel
theorem dX3_tells_177 : decode cX3_tells 177 = .ok (.getfield 7, 3) := by decide +kernel
theorem dX3_tells_180 : decode cX3_tells 180 = .ok (.sipush 735, 3) := by decide +kernel
theorem dX3_tells_183 : decode cX3_tells 183 = .ok (.iload_n 2, 1) := by decide +kernel
theorem dX3_tells_184 : decode cX3_tells 184 = .ok (.iadd, 1) := by decide +kernel
theorem dX3_tells_185 : decode cX3_tells 185 = .ok (.dup2, 1) := by decide +kernel
theorem dX3_tells_186 : decode cX3_tells 186 = .ok (.iaload, 1) := by decide +kernel
theorem dX3_tells_187 : decode cX3_tells 187 = .ok (.iconst 1, 1) := by decide +kernel
theorem dX3_tells_188 : decode cX3_tells 188 = .ok (.iadd, 1) := by decide +kernel
theorem dX3_tells_189 : decode cX3_tells 189 = .ok (.iastore, 1) := by decide +kernel
theorem dX3_tells_190 : decode cX3_tells 190 = .ok (.return_, 1) := by decide +kernel
set_option maxRecDepth 20000 in
theorem ggX3_returns_X3_ofSlot : GoodIn wsX3_returns wsX3_ofSlot := goodIn_r _ [6, 1, 15, 16, 17, 18, 19, 20, 21, 22, 23, 24, 25] (by decide +kernel) (by decide +kernel)
set_option maxRecDepth 20000 in
theorem gX3_returns_X3_ofSlot : GoodIn wsX3_returns (wsV RX3 55 RX3 yX3_ofSlot wsX3_ofSlot) := goodIn_app (goodIn_of _ (by decide +kernel)) ggX3_returns_X3_ofSlot
set_option maxRecDepth 20000 in
theorem ggX3_returns_X3_ofFrame : GoodIn wsX3_returns wsX3_ofFrame := goodIn_r _ [10, 1, 15, 16, 17, 18, 19, 20, 21, 22, 23, 24, 25] (by decide +kernel) (by decide +kernel)
set_option maxRecDepth 20000 in
theorem gX3_returns_X3_ofFrame : GoodIn wsX3_returns (wsV RX3 47 RX3 yX3_ofFrame wsX3_ofFrame) := goodIn_app (goodIn_of _ (by decide +kernel)) ggX3_returns_X3_ofFrame
set_option maxRecDepth 20000 in
theorem ggX3_returns_X3_tells : GoodIn wsX3_returns wsX3_tells := goodIn_r _ [14, 1, 7, 8, 9, 5, 10, 2, 3, 4, 6, 15, 16, 17, 18, 19, 20, 21, 22, 23, 24, 25] (by decide +kernel) (by decide +kernel)
set_option maxRecDepth 20000 in
theorem gX3_returns_X3_tells : GoodIn wsX3_returns (wsV RX3 58 RX3 yX3_tells wsX3_tells) := goodIn_app (goodIn_of _ (by decide +kernel)) ggX3_returns_X3_tells
theorem dX3_returns_0 : decode cX3_returns 0 = .ok (.aload_n 0, 1) := by decide +kernel
theorem dX3_returns_1 : decode cX3_returns 1 = .ok (.getfield 7, 3) := by decide +kernel
theorem dX3_returns_4 : decode cX3_returns 4 = .ok (.iconst 0, 1) := by decide +kernel
theorem dX3_returns_5 : decode cX3_returns 5 = .ok (.iaload, 1) := by decide +kernel
theorem dX3_returns_6 : decode cX3_returns 6 = .ok (.iconst 1, 1) := by decide +kernel
theorem dX3_returns_7 : decode cX3_returns 7 = .ok (.isub, 1) := by decide +kernel
theorem dX3_returns_8 : decode cX3_returns 8 = .ok (.istore_n 1, 1) := by decide +kernel
theorem dX3_returns_9 : decode cX3_returns 9 = .ok (.aload_n 0, 1) := by decide +kernel
theorem dX3_returns_10 : decode cX3_returns 10 = .ok (.aload_n 0, 1) := by decide +kernel
theorem dX3_returns_11 : decode cX3_returns 11 = .ok (.getfield 7, 3) := by decide +kernel
theorem dX3_returns_14 : decode cX3_returns 14 = .ok (.bipush 12, 2) := by decide +kernel
theorem dX3_returns_16 : decode cX3_returns 16 = .ok (.iaload, 1) := by decide +kernel
theorem dX3_returns_17 : decode cX3_returns 17 = .ok (.iconst 1, 1) := by decide +kernel
theorem dX3_returns_18 : decode cX3_returns 18 = .ok (.invokevirtual 55, 3) := by decide +kernel
theorem dX3_returns_21 : decode cX3_returns 21 = .ok (.aload_n 0, 1) := by decide +kernel
theorem dX3_returns_22 : decode cX3_returns 22 = .ok (.iload_n 1, 1) := by decide +kernel
theorem dX3_returns_23 : decode cX3_returns 23 = .ok (.iconst 2, 1) := by decide +kernel
theorem dX3_returns_24 : decode cX3_returns 24 = .ok (.invokevirtual 47, 3) := by decide +kernel
theorem dX3_returns_27 : decode cX3_returns 27 = .ok (.if_icmp .ne 70, 3) := by decide +kernel
theorem dX3_returns_30 : decode cX3_returns 30 = .ok (.aload_n 0, 1) := by decide +kernel
theorem dX3_returns_31 : decode cX3_returns 31 = .ok (.aload_n 0, 1) := by decide +kernel
theorem dX3_returns_32 : decode cX3_returns 32 = .ok (.getfield 7, 3) := by decide +kernel
theorem dX3_returns_35 : decode cX3_returns 35 = .ok (.bipush 12, 2) := by decide +kernel
theorem dX3_returns_37 : decode cX3_returns 37 = .ok (.iaload, 1) := by decide +kernel
theorem dX3_returns_38 : decode cX3_returns 38 = .ok (.iconst 0, 1) := by decide +kernel
theorem dX3_returns_39 : decode cX3_returns 39 = .ok (.invokevirtual 55, 3) := by decide +kernel
theorem dX3_returns_42 : decode cX3_returns 42 = .ok (.aload_n 0, 1) := by decide +kernel
theorem dX3_returns_43 : decode cX3_returns 43 = .ok (.iload_n 1, 1) := by decide +kernel
theorem dX3_returns_44 : decode cX3_returns 44 = .ok (.iconst 0, 1) := by decide +kernel
theorem dX3_returns_45 : decode cX3_returns 45 = .ok (.invokevirtual 47, 3) := by decide +kernel
theorem dX3_returns_48 : decode cX3_returns 48 = .ok (.if_icmp .eq 7, 3) := by decide +kernel
theorem dX3_returns_51 : decode cX3_returns 51 = .ok (.iconst 1, 1) := by decide +kernel
theorem dX3_returns_52 : decode cX3_returns 52 = .ok (.goto 4, 3) := by decide +kernel
theorem dX3_returns_55 : decode cX3_returns 55 = .ok (.iconst 0, 1) := by decide +kernel
theorem dX3_returns_56 : decode cX3_returns 56 = .ok (.istore_n 2, 1) := by decide +kernel
theorem dX3_returns_57 : decode cX3_returns 57 = .ok (.aload_n 0, 1) := by decide +kernel
theorem dX3_returns_58 : decode cX3_returns 58 = .ok (.getfield 7, 3) := by decide +kernel
theorem dX3_returns_61 : decode cX3_returns 61 = .ok (.bipush 6, 2) := by decide +kernel
theorem dX3_returns_63 : decode cX3_returns 63 = .ok (.dup2, 1) := by decide +kernel
theorem dX3_returns_64 : decode cX3_returns 64 = .ok (.iaload, 1) := by decide +kernel
theorem dX3_returns_65 : decode cX3_returns 65 = .ok (.iconst 1, 1) := by decide +kernel
theorem dX3_returns_66 : decode cX3_returns 66 = .ok (.iadd, 1) := by decide +kernel
theorem dX3_returns_67 : decode cX3_returns 67 = .ok (.iastore, 1) := by decide +kernel
theorem dX3_returns_68 : decode cX3_returns 68 = .ok (.aload_n 0, 1) := by decide +kernel
theorem dX3_returns_69 : decode cX3_returns 69 = .ok (.getfield 7, 3) := by decide +kernel
theorem dX3_returns_72 : decode cX3_returns 72 = .ok (.bipush 7, 2) := by decide +kernel
theorem dX3_returns_74 : decode cX3_returns 74 = .ok (.dup2, 1) := by decide +kernel
theorem dX3_returns_75 : decode cX3_returns 75 = .ok (.iaload, 1) := by decide +kernel
theorem dX3_returns_76 : decode cX3_returns 76 = .ok (.iload_n 2, 1) := by decide +kernel
theorem dX3_returns_77 : decode cX3_returns 77 = .ok (.ifCond .eq 7, 3) := by decide +kernel
theorem dX3_returns_80 : decode cX3_returns 80 = .ok (.iconst 1, 1) := by decide +kernel
theorem dX3_returns_81 : decode cX3_returns 81 = .ok (.goto 4, 3) := by decide +kernel
theorem dX3_returns_84 : decode cX3_returns 84 = .ok (.iconst 0, 1) := by decide +kernel
theorem dX3_returns_85 : decode cX3_returns 85 = .ok (.iadd, 1) := by decide +kernel
theorem dX3_returns_86 : decode cX3_returns 86 = .ok (.iastore, 1) := by decide +kernel
theorem dX3_returns_87 : decode cX3_returns 87 = .ok (.iload_n 2, 1) := by decide +kernel
theorem dX3_returns_88 : decode cX3_returns 88 = .ok (.ifCond .eq 7, 3) := by decide +kernel
theorem dX3_returns_91 : decode cX3_returns 91 = .ok (.iconst 1, 1) := by decide +kernel
theorem dX3_returns_92 : decode cX3_returns 92 = .ok (.goto 4, 3) := by decide +kernel
theorem dX3_returns_95 : decode cX3_returns 95 = .ok (.iconst 0, 1) := by decide +kernel
theorem dX3_returns_96 : decode cX3_returns 96 = .ok (.ireturn, 1) := by decide +kernel
theorem dX3_returns_97 : decode cX3_returns 97 = .ok (.aload_n 0, 1) := by decide +kernel
theorem dX3_returns_98 : decode cX3_returns 98 = .ok (.iload_n 1, 1) := by decide +kernel
theorem dX3_returns_99 : decode cX3_returns 99 = .ok (.iconst 4, 1) := by decide +kernel
theorem dX3_returns_100 : decode cX3_returns 100 = .ok (.invokevirtual 47, 3) := by decide +kernel
theorem dX3_returns_103 : decode cX3_returns 103 = .ok (.bipush (-9), 2) := by decide +kernel
theorem dX3_returns_105 : decode cX3_returns 105 = .ok (.if_icmp .eq 28, 3) := by decide +kernel
theorem dX3_returns_108 : decode cX3_returns 108 = .ok (.aload_n 0, 1) := by decide +kernel
theorem dX3_returns_109 : decode cX3_returns 109 = .ok (.getfield 7, 3) := by decide +kernel
theorem dX3_returns_112 : decode cX3_returns 112 = .ok (.bipush 8, 2) := by decide +kernel
theorem dX3_returns_114 : decode cX3_returns 114 = .ok (.dup2, 1) := by decide +kernel
theorem dX3_returns_115 : decode cX3_returns 115 = .ok (.iaload, 1) := by decide +kernel
theorem dX3_returns_116 : decode cX3_returns 116 = .ok (.iconst 1, 1) := by decide +kernel
theorem dX3_returns_117 : decode cX3_returns 117 = .ok (.iadd, 1) := by decide +kernel
theorem dX3_returns_118 : decode cX3_returns 118 = .ok (.iastore, 1) := by decide +kernel
theorem dX3_returns_119 : decode cX3_returns 119 = .ok (.aload_n 0, 1) := by decide +kernel
theorem dX3_returns_120 : decode cX3_returns 120 = .ok (.iconst 1, 1) := by decide +kernel
theorem dX3_returns_121 : decode cX3_returns 121 = .ok (.aload_n 0, 1) := by decide +kernel
theorem dX3_returns_122 : decode cX3_returns 122 = .ok (.iload_n 1, 1) := by decide +kernel
theorem dX3_returns_123 : decode cX3_returns 123 = .ok (.iconst 4, 1) := by decide +kernel
theorem dX3_returns_124 : decode cX3_returns 124 = .ok (.invokevirtual 47, 3) := by decide +kernel
theorem dX3_returns_127 : decode cX3_returns 127 = .ok (.iload_n 1, 1) := by decide +kernel
theorem dX3_returns_128 : decode cX3_returns 128 = .ok (.invokevirtual 58, 3) := by decide +kernel
theorem dX3_returns_131 : decode cX3_returns 131 = .ok (.iconst 2, 1) := by decide +kernel
theorem dX3_returns_132 : decode cX3_returns 132 = .ok (.ireturn, 1) := by decide +kernel
theorem dX3_returns_133 : decode cX3_returns 133 = .ok (.aload_n 0, 1) := by decide +kernel
theorem dX3_returns_134 : decode cX3_returns 134 = .ok (.getfield 7, 3) := by decide +kernel
theorem dX3_returns_137 : decode cX3_returns 137 = .ok (.bipush 9, 2) := by decide +kernel
theorem dX3_returns_139 : decode cX3_returns 139 = .ok (.dup2, 1) := by decide +kernel
theorem dX3_returns_140 : decode cX3_returns 140 = .ok (.iaload, 1) := by decide +kernel
theorem dX3_returns_141 : decode cX3_returns 141 = .ok (.iconst 1, 1) := by decide +kernel
theorem dX3_returns_142 : decode cX3_returns 142 = .ok (.iadd, 1) := by decide +kernel
theorem dX3_returns_143 : decode cX3_returns 143 = .ok (.iastore, 1) := by decide +kernel
theorem dX3_returns_144 : decode cX3_returns 144 = .ok (.aload_n 0, 1) := by decide +kernel
theorem dX3_returns_145 : decode cX3_returns 145 = .ok (.iconst 2, 1) := by decide +kernel
theorem dX3_returns_146 : decode cX3_returns 146 = .ok (.aload_n 0, 1) := by decide +kernel
theorem dX3_returns_147 : decode cX3_returns 147 = .ok (.aload_n 0, 1) := by decide +kernel
theorem dX3_returns_148 : decode cX3_returns 148 = .ok (.getfield 7, 3) := by decide +kernel
theorem dX3_returns_151 : decode cX3_returns 151 = .ok (.bipush 12, 2) := by decide +kernel
theorem dX3_returns_153 : decode cX3_returns 153 = .ok (.iaload, 1) := by decide +kernel
theorem dX3_returns_154 : decode cX3_returns 154 = .ok (.iconst 0, 1) := by decide +kernel
theorem dX3_returns_155 : decode cX3_returns 155 = .ok (.invokevirtual 55, 3) := by decide +kernel
theorem dX3_returns_158 : decode cX3_returns 158 = .ok (.iload_n 1, 1) := by decide +kernel
theorem dX3_returns_159 : decode cX3_returns 159 = .ok (.invokevirtual 58, 3) := by decide +kernel
theorem dX3_returns_162 : decode cX3_returns 162 = .ok (.iconst 3, 1) := by decide +kernel
theorem dX3_returns_163 : decode cX3_returns 163 = .ok (.ireturn, 1) := by decide +kernel
theorem dX3_back_0 : decode cX3_back 0 = .ok (.iload_n 0, 1) := by decide +kernel
theorem dX3_back_1 : decode cX3_back 1 = .ok (.iload_n 2, 1) := by decide +kernel
theorem dX3_back_2 : decode cX3_back 2 = .ok (.bipush 40, 2) := by decide +kernel
theorem dX3_back_4 : decode cX3_back 4 = .ok (.imul, 1) := by decide +kernel
theorem dX3_back_5 : decode cX3_back 5 = .ok (.iadd, 1) := by decide +kernel
theorem dX3_back_6 : decode cX3_back 6 = .ok (.iload_n 1, 1) := by decide +kernel
theorem dX3_back_7 : decode cX3_back 7 = .ok (.isub, 1) := by decide +kernel
theorem dX3_back_8 : decode cX3_back 8 = .ok (.iload_n 2, 1) := by decide +kernel
theorem dX3_back_9 : decode cX3_back 9 = .ok (.irem, 1) := by decide +kernel
theorem dX3_back_10 : decode cX3_back 10 = .ok (.ireturn, 1) := by decide +kernel
set_option maxRecDepth 20000 in
theorem ggX3_ret_X3_acts : GoodIn wsX3_ret wsX3_acts := goodIn_r _ [6, 7, 8, 9, 1, 33, 34, 35, 36, 37, 38, 39, 40, 41, 42, 43] (by decide +kernel) (by decide +kernel)
set_option maxRecDepth 20000 in
theorem gX3_ret_X3_acts : GoodIn wsX3_ret (wsV RX3 44 RX3 yX3_acts wsX3_acts) := goodIn_app (goodIn_of _ (by decide +kernel)) ggX3_ret_X3_acts
set_option maxRecDepth 20000 in
theorem ggX3_ret_X3_returns : GoodIn wsX3_ret wsX3_returns := goodIn_r _ [13, 1, 14, 15, 16, 5, 17, 18, 19, 20, 21, 22, 23, 24, 25, 33, 34, 35, 36, 37, 38, 39, 40, 41, 42, 43] (by decide +kernel) (by decide +kernel)
set_option maxRecDepth 20000 in
theorem gX3_ret_X3_returns : GoodIn wsX3_ret (wsV RX3 62 RX3 yX3_returns wsX3_returns) := goodIn_app (goodIn_of _ (by decide +kernel)) ggX3_ret_X3_returns
set_option maxRecDepth 20000 in
theorem ggX3_ret_X3_back : GoodIn wsX3_ret wsX3_back := goodIn_r _ [28] (by decide +kernel) (by decide +kernel)
set_option maxRecDepth 20000 in
theorem gX3_ret_X3_back : GoodIn wsX3_ret (va_wsS RX3 66 yX3_back wsX3_back) := goodIn_app (goodIn_of _ (by decide +kernel)) ggX3_ret_X3_back
set_option maxRecDepth 20000 in
theorem ggX3_ret_X3_notes : GoodIn wsX3_ret wsX3_notes := goodIn_r _ [32, 1, 33, 34, 35, 36, 37, 38, 39, 40, 41, 42, 43] (by decide +kernel) (by decide +kernel)
set_option maxRecDepth 20000 in
theorem gX3_ret_X3_notes : GoodIn wsX3_ret (wsV RX3 51 RX3 yX3_notes wsX3_notes) := goodIn_app (goodIn_of _ (by decide +kernel)) ggX3_ret_X3_notes
theorem dX3_ret_0 : decode cX3_ret 0 = .ok (.aload_n 0, 1) := by decide +kernel
theorem dX3_ret_1 : decode cX3_ret 1 = .ok (.getfield 7, 3) := by decide +kernel
theorem dX3_ret_4 : decode cX3_ret 4 = .ok (.iconst 0, 1) := by decide +kernel
theorem dX3_ret_5 : decode cX3_ret 5 = .ok (.iaload, 1) := by decide +kernel
theorem dX3_ret_6 : decode cX3_ret 6 = .ok (.ifCond .ne 6, 3) := by decide +kernel
theorem dX3_ret_9 : decode cX3_ret 9 = .ok (.bipush (-2), 2) := by decide +kernel
theorem dX3_ret_11 : decode cX3_ret 11 = .ok (.ireturn, 1) := by decide +kernel
theorem dX3_ret_12 : decode cX3_ret 12 = .ok (.aload_n 0, 1) := by decide +kernel
theorem dX3_ret_13 : decode cX3_ret 13 = .ok (.getfield 7, 3) := by decide +kernel
theorem dX3_ret_16 : decode cX3_ret 16 = .ok (.iconst 1, 1) := by decide +kernel
theorem dX3_ret_17 : decode cX3_ret 17 = .ok (.iaload, 1) := by decide +kernel
theorem dX3_ret_18 : decode cX3_ret 18 = .ok (.sipush 200, 3) := by decide +kernel
theorem dX3_ret_21 : decode cX3_ret 21 = .ok (.if_icmp .ne 6, 3) := by decide +kernel
theorem dX3_ret_24 : decode cX3_ret 24 = .ok (.bipush (-3), 2) := by decide +kernel
theorem dX3_ret_26 : decode cX3_ret 26 = .ok (.ireturn, 1) := by decide +kernel
theorem dX3_ret_27 : decode cX3_ret 27 = .ok (.aload_n 0, 1) := by decide +kernel
theorem dX3_ret_28 : decode cX3_ret 28 = .ok (.invokevirtual 44, 3) := by decide +kernel
theorem dX3_ret_31 : decode cX3_ret 31 = .ok (.aload_n 0, 1) := by decide +kernel
theorem dX3_ret_32 : decode cX3_ret 32 = .ok (.invokevirtual 62, 3) := by decide +kernel
theorem dX3_ret_35 : decode cX3_ret 35 = .ok (.istore_n 1, 1) := by decide +kernel
theorem dX3_ret_36 : decode cX3_ret 36 = .ok (.aload_n 0, 1) := by decide +kernel
theorem dX3_ret_37 : decode cX3_ret 37 = .ok (.getfield 7, 3) := by decide +kernel
theorem dX3_ret_40 : decode cX3_ret 40 = .ok (.iconst 0, 1) := by decide +kernel
theorem dX3_ret_41 : decode cX3_ret 41 = .ok (.dup2, 1) := by decide +kernel
theorem dX3_ret_42 : decode cX3_ret 42 = .ok (.iaload, 1) := by decide +kernel
theorem dX3_ret_43 : decode cX3_ret 43 = .ok (.iconst 1, 1) := by decide +kernel
end
section
theorem dX3_ret_44 : decode cX3_ret 44 = .ok (.isub, 1) := by decide +kernel
theorem dX3_ret_45 : decode cX3_ret 45 = .ok (.iastore, 1) := by decide +kernel
theorem dX3_ret_46 : decode cX3_ret 46 = .ok (.aload_n 0, 1) := by decide +kernel
theorem dX3_ret_47 : decode cX3_ret 47 = .ok (.getfield 7, 3) := by decide +kernel
theorem dX3_ret_50 : decode cX3_ret 50 = .ok (.bipush 12, 2) := by decide +kernel
theorem dX3_ret_52 : decode cX3_ret 52 = .ok (.aload_n 0, 1) := by decide +kernel
theorem dX3_ret_53 : decode cX3_ret 53 = .ok (.getfield 7, 3) := by decide +kernel
theorem dX3_ret_56 : decode cX3_ret 56 = .ok (.bipush 12, 2) := by decide +kernel
theorem dX3_ret_58 : decode cX3_ret 58 = .ok (.iaload, 1) := by decide +kernel
theorem dX3_ret_59 : decode cX3_ret 59 = .ok (.iconst 1, 1) := by decide +kernel
theorem dX3_ret_60 : decode cX3_ret 60 = .ok (.aload_n 0, 1) := by decide +kernel
theorem dX3_ret_61 : decode cX3_ret 61 = .ok (.getfield 7, 3) := by decide +kernel
theorem dX3_ret_64 : decode cX3_ret 64 = .ok (.bipush 11, 2) := by decide +kernel
theorem dX3_ret_66 : decode cX3_ret 66 = .ok (.iaload, 1) := by decide +kernel
theorem dX3_ret_67 : decode cX3_ret 67 = .ok (.invokestatic 66, 3) := by decide +kernel
theorem dX3_ret_70 : decode cX3_ret 70 = .ok (.iastore, 1) := by decide +kernel
theorem dX3_ret_71 : decode cX3_ret 71 = .ok (.aload_n 0, 1) := by decide +kernel
theorem dX3_ret_72 : decode cX3_ret 72 = .ok (.iconst 2, 1) := by decide +kernel
theorem dX3_ret_73 : decode cX3_ret 73 = .ok (.iconst 0, 1) := by decide +kernel
theorem dX3_ret_74 : decode cX3_ret 74 = .ok (.invokevirtual 51, 3) := by decide +kernel
theorem dX3_ret_77 : decode cX3_ret 77 = .ok (.iload_n 1, 1) := by decide +kernel
theorem dX3_ret_78 : decode cX3_ret 78 = .ok (.ireturn, 1) := by decide +kernel
set_option maxRecDepth 20000 in
theorem ggX3_raise_X3_in : GoodIn wsX3_raise wsX3_in := goodIn_r _ [5] (by decide +kernel) (by decide +kernel)
set_option maxRecDepth 20000 in
theorem gX3_raise_X3_in : GoodIn wsX3_raise (va_wsS RX3 40 yX3_in wsX3_in) := goodIn_app (goodIn_of _ (by decide +kernel)) ggX3_raise_X3_in
set_option maxRecDepth 20000 in
theorem ggX3_raise_X3_acts : GoodIn wsX3_raise wsX3_acts := goodIn_r _ [9, 10, 11, 12, 1, 20, 21, 22, 23, 24, 25, 26, 27, 28, 29, 30] (by decide +kernel) (by decide +kernel)
set_option maxRecDepth 20000 in
theorem gX3_raise_X3_acts : GoodIn wsX3_raise (wsV RX3 44 RX3 yX3_acts wsX3_acts) := goodIn_app (goodIn_of _ (by decide +kernel)) ggX3_raise_X3_acts
set_option maxRecDepth 20000 in
theorem ggX3_raise_X3_back : GoodIn wsX3_raise wsX3_back := goodIn_r _ [15] (by decide +kernel) (by decide +kernel)
set_option maxRecDepth 20000 in
theorem gX3_raise_X3_back : GoodIn wsX3_raise (va_wsS RX3 66 yX3_back wsX3_back) := goodIn_app (goodIn_of _ (by decide +kernel)) ggX3_raise_X3_back
set_option maxRecDepth 20000 in
theorem ggX3_raise_X3_notes : GoodIn wsX3_raise wsX3_notes := goodIn_r _ [19, 1, 20, 21, 22, 23, 24, 25, 26, 27, 28, 29, 30] (by decide +kernel) (by decide +kernel)
set_option maxRecDepth 20000 in
theorem gX3_raise_X3_notes : GoodIn wsX3_raise (wsV RX3 51 RX3 yX3_notes wsX3_notes) := goodIn_app (goodIn_of _ (by decide +kernel)) ggX3_raise_X3_notes
theorem dX3_raise_0 : decode cX3_raise 0 = .ok (.iload_n 1, 1) := by decide +kernel
theorem dX3_raise_1 : decode cX3_raise 1 = .ok (.iconst 1, 1) := by decide +kernel
theorem dX3_raise_2 : decode cX3_raise 2 = .ok (.bipush 40, 2) := by decide +kernel
theorem dX3_raise_4 : decode cX3_raise 4 = .ok (.invokestatic 40, 3) := by decide +kernel
theorem dX3_raise_7 : decode cX3_raise 7 = .ok (.ifCond .ne 5, 3) := by decide +kernel
theorem dX3_raise_10 : decode cX3_raise 10 = .ok (.iconst (-1), 1) := by decide +kernel
theorem dX3_raise_11 : decode cX3_raise 11 = .ok (.ireturn, 1) := by decide +kernel
theorem dX3_raise_12 : decode cX3_raise 12 = .ok (.aload_n 0, 1) := by decide +kernel
theorem dX3_raise_13 : decode cX3_raise 13 = .ok (.getfield 7, 3) := by decide +kernel
theorem dX3_raise_16 : decode cX3_raise 16 = .ok (.iconst 0, 1) := by decide +kernel
theorem dX3_raise_17 : decode cX3_raise 17 = .ok (.iaload, 1) := by decide +kernel
theorem dX3_raise_18 : decode cX3_raise 18 = .ok (.iload_n 1, 1) := by decide +kernel
theorem dX3_raise_19 : decode cX3_raise 19 = .ok (.if_icmp .ge 6, 3) := by decide +kernel
theorem dX3_raise_22 : decode cX3_raise 22 = .ok (.bipush (-2), 2) := by decide +kernel
theorem dX3_raise_24 : decode cX3_raise 24 = .ok (.ireturn, 1) := by decide +kernel
theorem dX3_raise_25 : decode cX3_raise 25 = .ok (.aload_n 0, 1) := by decide +kernel
theorem dX3_raise_26 : decode cX3_raise 26 = .ok (.getfield 7, 3) := by decide +kernel
theorem dX3_raise_29 : decode cX3_raise 29 = .ok (.iconst 1, 1) := by decide +kernel
theorem dX3_raise_30 : decode cX3_raise 30 = .ok (.iaload, 1) := by decide +kernel
theorem dX3_raise_31 : decode cX3_raise 31 = .ok (.sipush 200, 3) := by decide +kernel
theorem dX3_raise_34 : decode cX3_raise 34 = .ok (.if_icmp .ne 6, 3) := by decide +kernel
theorem dX3_raise_37 : decode cX3_raise 37 = .ok (.bipush (-3), 2) := by decide +kernel
theorem dX3_raise_39 : decode cX3_raise 39 = .ok (.ireturn, 1) := by decide +kernel
theorem dX3_raise_40 : decode cX3_raise 40 = .ok (.aload_n 0, 1) := by decide +kernel
theorem dX3_raise_41 : decode cX3_raise 41 = .ok (.invokevirtual 44, 3) := by decide +kernel
theorem dX3_raise_44 : decode cX3_raise 44 = .ok (.aload_n 0, 1) := by decide +kernel
theorem dX3_raise_45 : decode cX3_raise 45 = .ok (.getfield 7, 3) := by decide +kernel
theorem dX3_raise_48 : decode cX3_raise 48 = .ok (.iconst 0, 1) := by decide +kernel
theorem dX3_raise_49 : decode cX3_raise 49 = .ok (.dup2, 1) := by decide +kernel
theorem dX3_raise_50 : decode cX3_raise 50 = .ok (.iaload, 1) := by decide +kernel
theorem dX3_raise_51 : decode cX3_raise 51 = .ok (.iload_n 1, 1) := by decide +kernel
theorem dX3_raise_52 : decode cX3_raise 52 = .ok (.isub, 1) := by decide +kernel
theorem dX3_raise_53 : decode cX3_raise 53 = .ok (.iastore, 1) := by decide +kernel
theorem dX3_raise_54 : decode cX3_raise 54 = .ok (.aload_n 0, 1) := by decide +kernel
theorem dX3_raise_55 : decode cX3_raise 55 = .ok (.getfield 7, 3) := by decide +kernel
theorem dX3_raise_58 : decode cX3_raise 58 = .ok (.bipush 12, 2) := by decide +kernel
theorem dX3_raise_60 : decode cX3_raise 60 = .ok (.aload_n 0, 1) := by decide +kernel
theorem dX3_raise_61 : decode cX3_raise 61 = .ok (.getfield 7, 3) := by decide +kernel
theorem dX3_raise_64 : decode cX3_raise 64 = .ok (.bipush 14, 2) := by decide +kernel
theorem dX3_raise_66 : decode cX3_raise 66 = .ok (.iaload, 1) := by decide +kernel
theorem dX3_raise_67 : decode cX3_raise 67 = .ok (.iconst 1, 1) := by decide +kernel
theorem dX3_raise_68 : decode cX3_raise 68 = .ok (.if_icmp .ne 24, 3) := by decide +kernel
theorem dX3_raise_71 : decode cX3_raise 71 = .ok (.aload_n 0, 1) := by decide +kernel
theorem dX3_raise_72 : decode cX3_raise 72 = .ok (.getfield 7, 3) := by decide +kernel
theorem dX3_raise_75 : decode cX3_raise 75 = .ok (.bipush 12, 2) := by decide +kernel
theorem dX3_raise_77 : decode cX3_raise 77 = .ok (.iaload, 1) := by decide +kernel
theorem dX3_raise_78 : decode cX3_raise 78 = .ok (.iload_n 1, 1) := by decide +kernel
theorem dX3_raise_79 : decode cX3_raise 79 = .ok (.aload_n 0, 1) := by decide +kernel
theorem dX3_raise_80 : decode cX3_raise 80 = .ok (.getfield 7, 3) := by decide +kernel
theorem dX3_raise_83 : decode cX3_raise 83 = .ok (.bipush 11, 2) := by decide +kernel
theorem dX3_raise_85 : decode cX3_raise 85 = .ok (.iaload, 1) := by decide +kernel
theorem dX3_raise_86 : decode cX3_raise 86 = .ok (.invokestatic 66, 3) := by decide +kernel
theorem dX3_raise_89 : decode cX3_raise 89 = .ok (.goto 10, 3) := by decide +kernel
theorem dX3_raise_92 : decode cX3_raise 92 = .ok (.aload_n 0, 1) := by decide +kernel
theorem dX3_raise_93 : decode cX3_raise 93 = .ok (.getfield 7, 3) := by decide +kernel
theorem dX3_raise_96 : decode cX3_raise 96 = .ok (.bipush 12, 2) := by decide +kernel
theorem dX3_raise_98 : decode cX3_raise 98 = .ok (.iaload, 1) := by decide +kernel
theorem dX3_raise_99 : decode cX3_raise 99 = .ok (.iastore, 1) := by decide +kernel
theorem dX3_raise_100 : decode cX3_raise 100 = .ok (.aload_n 0, 1) := by decide +kernel
theorem dX3_raise_101 : decode cX3_raise 101 = .ok (.iconst 3, 1) := by decide +kernel
theorem dX3_raise_102 : decode cX3_raise 102 = .ok (.iload_n 1, 1) := by decide +kernel
theorem dX3_raise_103 : decode cX3_raise 103 = .ok (.invokevirtual 51, 3) := by decide +kernel
theorem dX3_raise_106 : decode cX3_raise 106 = .ok (.aload_n 0, 1) := by decide +kernel
theorem dX3_raise_107 : decode cX3_raise 107 = .ok (.getfield 7, 3) := by decide +kernel
theorem dX3_raise_110 : decode cX3_raise 110 = .ok (.iconst 0, 1) := by decide +kernel
theorem dX3_raise_111 : decode cX3_raise 111 = .ok (.iaload, 1) := by decide +kernel
theorem dX3_raise_112 : decode cX3_raise 112 = .ok (.ireturn, 1) := by decide +kernel
set_option maxRecDepth 20000 in
theorem ggX3_setRepair_X3_in : GoodIn wsX3_setRepair wsX3_in := goodIn_r _ [5] (by decide +kernel) (by decide +kernel)
set_option maxRecDepth 20000 in
theorem gX3_setRepair_X3_in : GoodIn wsX3_setRepair (va_wsS RX3 40 yX3_in wsX3_in) := goodIn_app (goodIn_of _ (by decide +kernel)) ggX3_setRepair_X3_in
set_option maxRecDepth 20000 in
theorem ggX3_setRepair_X3_acts : GoodIn wsX3_setRepair wsX3_acts := goodIn_r _ [9, 10, 11, 12, 1, 13, 14, 15, 16, 17, 18, 19, 20, 21, 22, 23] (by decide +kernel) (by decide +kernel)
set_option maxRecDepth 20000 in
theorem gX3_setRepair_X3_acts : GoodIn wsX3_setRepair (wsV RX3 44 RX3 yX3_acts wsX3_acts) := goodIn_app (goodIn_of _ (by decide +kernel)) ggX3_setRepair_X3_acts
theorem dX3_setRepair_0 : decode cX3_setRepair 0 = .ok (.iload_n 1, 1) := by decide +kernel
theorem dX3_setRepair_1 : decode cX3_setRepair 1 = .ok (.iconst 0, 1) := by decide +kernel
theorem dX3_setRepair_2 : decode cX3_setRepair 2 = .ok (.iconst 1, 1) := by decide +kernel
theorem dX3_setRepair_3 : decode cX3_setRepair 3 = .ok (.invokestatic 40, 3) := by decide +kernel
theorem dX3_setRepair_6 : decode cX3_setRepair 6 = .ok (.ifCond .ne 5, 3) := by decide +kernel
theorem dX3_setRepair_9 : decode cX3_setRepair 9 = .ok (.iconst (-1), 1) := by decide +kernel
theorem dX3_setRepair_10 : decode cX3_setRepair 10 = .ok (.ireturn, 1) := by decide +kernel
theorem dX3_setRepair_11 : decode cX3_setRepair 11 = .ok (.aload_n 0, 1) := by decide +kernel
theorem dX3_setRepair_12 : decode cX3_setRepair 12 = .ok (.invokevirtual 44, 3) := by decide +kernel
theorem dX3_setRepair_15 : decode cX3_setRepair 15 = .ok (.aload_n 0, 1) := by decide +kernel
theorem dX3_setRepair_16 : decode cX3_setRepair 16 = .ok (.getfield 7, 3) := by decide +kernel
theorem dX3_setRepair_19 : decode cX3_setRepair 19 = .ok (.bipush 14, 2) := by decide +kernel
theorem dX3_setRepair_21 : decode cX3_setRepair 21 = .ok (.iaload, 1) := by decide +kernel
theorem dX3_setRepair_22 : decode cX3_setRepair 22 = .ok (.istore_n 2, 1) := by decide +kernel
theorem dX3_setRepair_23 : decode cX3_setRepair 23 = .ok (.aload_n 0, 1) := by decide +kernel
theorem dX3_setRepair_24 : decode cX3_setRepair 24 = .ok (.getfield 7, 3) := by decide +kernel
theorem dX3_setRepair_27 : decode cX3_setRepair 27 = .ok (.bipush 14, 2) := by decide +kernel
theorem dX3_setRepair_29 : decode cX3_setRepair 29 = .ok (.iload_n 1, 1) := by decide +kernel
theorem dX3_setRepair_30 : decode cX3_setRepair 30 = .ok (.iastore, 1) := by decide +kernel
theorem dX3_setRepair_31 : decode cX3_setRepair 31 = .ok (.iload_n 2, 1) := by decide +kernel
theorem dX3_setRepair_32 : decode cX3_setRepair 32 = .ok (.ireturn, 1) := by decide +kernel
set_option maxRecDepth 20000 in
theorem ggX3_begin_X3_in : GoodIn wsX3_begin wsX3_in := goodIn_r _ [5] (by decide +kernel) (by decide +kernel)
set_option maxRecDepth 20000 in
theorem gX3_begin_X3_in : GoodIn wsX3_begin (va_wsS RX3 40 yX3_in wsX3_in) := goodIn_app (goodIn_of _ (by decide +kernel)) ggX3_begin_X3_in
set_option maxRecDepth 20000 in
theorem ggX3_begin_X3_acts : GoodIn wsX3_begin wsX3_acts := goodIn_r _ [9, 10, 11, 12, 1, 17, 18, 19, 20, 21, 22, 23, 24, 25, 26, 27] (by decide +kernel) (by decide +kernel)
set_option maxRecDepth 20000 in
theorem gX3_begin_X3_acts : GoodIn wsX3_begin (wsV RX3 44 RX3 yX3_acts wsX3_acts) := goodIn_app (goodIn_of _ (by decide +kernel)) ggX3_begin_X3_acts
set_option maxRecDepth 20000 in
theorem ggX3_begin_X3_begins : GoodIn wsX3_begin wsX3_begins := goodIn_r _ [16, 1, 17, 18, 19, 20, 21, 22, 23, 24, 25, 26, 27] (by decide +kernel) (by decide +kernel)
set_option maxRecDepth 20000 in
theorem gX3_begin_X3_begins : GoodIn wsX3_begin (wsV RX3 28 RX3 yX3_begins wsX3_begins) := goodIn_app (goodIn_of _ (by decide +kernel)) ggX3_begin_X3_begins
theorem dX3_begin_0 : decode cX3_begin 0 = .ok (.iload_n 1, 1) := by decide +kernel
theorem dX3_begin_1 : decode cX3_begin 1 = .ok (.iconst 2, 1) := by decide +kernel
theorem dX3_begin_2 : decode cX3_begin 2 = .ok (.bipush 16, 2) := by decide +kernel
theorem dX3_begin_4 : decode cX3_begin 4 = .ok (.invokestatic 40, 3) := by decide +kernel
theorem dX3_begin_7 : decode cX3_begin 7 = .ok (.ifCond .ne 5, 3) := by decide +kernel
theorem dX3_begin_10 : decode cX3_begin 10 = .ok (.iconst (-1), 1) := by decide +kernel
theorem dX3_begin_11 : decode cX3_begin 11 = .ok (.ireturn, 1) := by decide +kernel
theorem dX3_begin_12 : decode cX3_begin 12 = .ok (.aload_n 0, 1) := by decide +kernel
theorem dX3_begin_13 : decode cX3_begin 13 = .ok (.invokevirtual 44, 3) := by decide +kernel
theorem dX3_begin_16 : decode cX3_begin 16 = .ok (.aload_n 0, 1) := by decide +kernel
theorem dX3_begin_17 : decode cX3_begin 17 = .ok (.getfield 7, 3) := by decide +kernel
theorem dX3_begin_20 : decode cX3_begin 20 = .ok (.bipush 11, 2) := by decide +kernel
theorem dX3_begin_22 : decode cX3_begin 22 = .ok (.iaload, 1) := by decide +kernel
theorem dX3_begin_23 : decode cX3_begin 23 = .ok (.istore_n 2, 1) := by decide +kernel
theorem dX3_begin_24 : decode cX3_begin 24 = .ok (.aload_n 0, 1) := by decide +kernel
theorem dX3_begin_25 : decode cX3_begin 25 = .ok (.iload_n 1, 1) := by decide +kernel
theorem dX3_begin_26 : decode cX3_begin 26 = .ok (.invokevirtual 28, 3) := by decide +kernel
theorem dX3_begin_29 : decode cX3_begin 29 = .ok (.iload_n 2, 1) := by decide +kernel
theorem dX3_begin_30 : decode cX3_begin 30 = .ok (.ireturn, 1) := by decide +kernel
theorem dX3_undo_0 : decode cX3_undo 0 = .ok (.aload_n 0, 1) := by decide +kernel
theorem dX3_undo_1 : decode cX3_undo 1 = .ok (.getfield 36, 3) := by decide +kernel
theorem dX3_undo_4 : decode cX3_undo 4 = .ok (.ifCond .ne 6, 3) := by decide +kernel
theorem dX3_undo_7 : decode cX3_undo 7 = .ok (.bipush (-2), 2) := by decide +kernel
theorem dX3_undo_9 : decode cX3_undo 9 = .ok (.ireturn, 1) := by decide +kernel
theorem dX3_undo_10 : decode cX3_undo 10 = .ok (.aload_n 0, 1) := by decide +kernel
theorem dX3_undo_11 : decode cX3_undo 11 = .ok (.dup, 1) := by decide +kernel
theorem dX3_undo_12 : decode cX3_undo 12 = .ok (.getfield 36, 3) := by decide +kernel
theorem dX3_undo_15 : decode cX3_undo 15 = .ok (.iconst 1, 1) := by decide +kernel
theorem dX3_undo_16 : decode cX3_undo 16 = .ok (.isub, 1) := by decide +kernel
theorem dX3_undo_17 : decode cX3_undo 17 = .ok (.putfield 36, 3) := by decide +kernel
theorem dX3_undo_20 : decode cX3_undo 20 = .ok (.iconst 0, 1) := by decide +kernel
theorem dX3_undo_21 : decode cX3_undo 21 = .ok (.istore_n 1, 1) := by decide +kernel
theorem dX3_undo_22 : decode cX3_undo 22 = .ok (.iload_n 1, 1) := by decide +kernel
theorem dX3_undo_23 : decode cX3_undo 23 = .ok (.sipush 935, 3) := by decide +kernel
theorem dX3_undo_26 : decode cX3_undo 26 = .ok (.if_icmp .ge 30, 3) := by decide +kernel
theorem dX3_undo_29 : decode cX3_undo 29 = .ok (.aload_n 0, 1) := by decide +kernel
theorem dX3_undo_30 : decode cX3_undo 30 = .ok (.getfield 7, 3) := by decide +kernel
theorem dX3_undo_33 : decode cX3_undo 33 = .ok (.iload_n 1, 1) := by decide +kernel
theorem dX3_undo_34 : decode cX3_undo 34 = .ok (.aload_n 0, 1) := by decide +kernel
theorem dX3_undo_35 : decode cX3_undo 35 = .ok (.getfield 13, 3) := by decide +kernel
theorem dX3_undo_38 : decode cX3_undo 38 = .ok (.sipush 935, 3) := by decide +kernel
theorem dX3_undo_41 : decode cX3_undo 41 = .ok (.aload_n 0, 1) := by decide +kernel
theorem dX3_undo_42 : decode cX3_undo 42 = .ok (.getfield 36, 3) := by decide +kernel
theorem dX3_undo_45 : decode cX3_undo 45 = .ok (.imul, 1) := by decide +kernel
theorem dX3_undo_46 : decode cX3_undo 46 = .ok (.iload_n 1, 1) := by decide +kernel
theorem dX3_undo_47 : decode cX3_undo 47 = .ok (.iadd, 1) := by decide +kernel
theorem dX3_undo_48 : decode cX3_undo 48 = .ok (.iaload, 1) := by decide +kernel
theorem dX3_undo_49 : decode cX3_undo 49 = .ok (.iastore, 1) := by decide +kernel
theorem dX3_undo_50 : decode cX3_undo 50 = .ok (.iinc 1 1, 3) := by decide +kernel
theorem dX3_undo_53 : decode cX3_undo 53 = .ok (.goto (-31), 3) := by decide +kernel
theorem dX3_undo_56 : decode cX3_undo 56 = .ok (.aload_n 0, 1) := by decide +kernel
theorem dX3_undo_57 : decode cX3_undo 57 = .ok (.getfield 36, 3) := by decide +kernel
theorem dX3_undo_60 : decode cX3_undo 60 = .ok (.ireturn, 1) := by decide +kernel
set_option maxRecDepth 20000 in
theorem ggX3_append_X3_in : GoodIn wsX3_append wsX3_in := goodIn_r _ [6] (by decide +kernel) (by decide +kernel)
set_option maxRecDepth 20000 in
theorem gX3_append_X3_in : GoodIn wsX3_append (va_wsS RX3 40 yX3_in wsX3_in) := goodIn_app (goodIn_of _ (by decide +kernel)) ggX3_append_X3_in
theorem dX3_append_0 : decode cX3_append 0 = .ok (.iload_n 1, 1) := by decide +kernel
theorem dX3_append_1 : decode cX3_append 1 = .ok (.iconst 1, 1) := by decide +kernel
theorem dX3_append_2 : decode cX3_append 2 = .ok (.sipush 255, 3) := by decide +kernel
theorem dX3_append_5 : decode cX3_append 5 = .ok (.invokestatic 40, 3) := by decide +kernel
theorem dX3_append_8 : decode cX3_append 8 = .ok (.ifCond .ne 5, 3) := by decide +kernel
theorem dX3_append_11 : decode cX3_append 11 = .ok (.iconst (-1), 1) := by decide +kernel
theorem dX3_append_12 : decode cX3_append 12 = .ok (.ireturn, 1) := by decide +kernel
theorem dX3_append_13 : decode cX3_append 13 = .ok (.aload_n 0, 1) := by decide +kernel
theorem dX3_append_14 : decode cX3_append 14 = .ok (.getfield 70, 3) := by decide +kernel
theorem dX3_append_17 : decode cX3_append 17 = .ok (.bipush 120, 2) := by decide +kernel
theorem dX3_append_19 : decode cX3_append 19 = .ok (.if_icmp .ne 6, 3) := by decide +kernel
theorem dX3_append_22 : decode cX3_append 22 = .ok (.bipush (-3), 2) := by decide +kernel
theorem dX3_append_24 : decode cX3_append 24 = .ok (.ireturn, 1) := by decide +kernel
theorem dX3_append_25 : decode cX3_append 25 = .ok (.aload_n 0, 1) := by decide +kernel
theorem dX3_append_26 : decode cX3_append 26 = .ok (.getfield 19, 3) := by decide +kernel
theorem dX3_append_29 : decode cX3_append 29 = .ok (.aload_n 0, 1) := by decide +kernel
theorem dX3_append_30 : decode cX3_append 30 = .ok (.getfield 70, 3) := by decide +kernel
theorem dX3_append_33 : decode cX3_append 33 = .ok (.iload_n 1, 1) := by decide +kernel
theorem dX3_append_34 : decode cX3_append 34 = .ok (.iastore, 1) := by decide +kernel
theorem dX3_append_35 : decode cX3_append 35 = .ok (.aload_n 0, 1) := by decide +kernel
theorem dX3_append_36 : decode cX3_append 36 = .ok (.dup, 1) := by decide +kernel
theorem dX3_append_37 : decode cX3_append 37 = .ok (.getfield 70, 3) := by decide +kernel
theorem dX3_append_40 : decode cX3_append 40 = .ok (.iconst 1, 1) := by decide +kernel
theorem dX3_append_41 : decode cX3_append 41 = .ok (.iadd, 1) := by decide +kernel
theorem dX3_append_42 : decode cX3_append 42 = .ok (.putfield 70, 3) := by decide +kernel
theorem dX3_append_45 : decode cX3_append 45 = .ok (.aload_n 0, 1) := by decide +kernel
theorem dX3_append_46 : decode cX3_append 46 = .ok (.getfield 70, 3) := by decide +kernel
theorem dX3_append_49 : decode cX3_append 49 = .ok (.ireturn, 1) := by decide +kernel
theorem dX3_clearText_0 : decode cX3_clearText 0 = .ok (.aload_n 0, 1) := by decide +kernel
theorem dX3_clearText_1 : decode cX3_clearText 1 = .ok (.getfield 70, 3) := by decide +kernel
theorem dX3_clearText_4 : decode cX3_clearText 4 = .ok (.istore_n 1, 1) := by decide +kernel
theorem dX3_clearText_5 : decode cX3_clearText 5 = .ok (.aload_n 0, 1) := by decide +kernel
theorem dX3_clearText_6 : decode cX3_clearText 6 = .ok (.iconst 0, 1) := by decide +kernel
theorem dX3_clearText_7 : decode cX3_clearText 7 = .ok (.putfield 70, 3) := by decide +kernel
theorem dX3_clearText_10 : decode cX3_clearText 10 = .ok (.iload_n 1, 1) := by decide +kernel
theorem dX3_clearText_11 : decode cX3_clearText 11 = .ok (.ireturn, 1) := by decide +kernel
theorem dX3_skips_0 : decode cX3_skips 0 = .ok (.aload_n 0, 1) := by decide +kernel
theorem dX3_skips_1 : decode cX3_skips 1 = .ok (.getfield 73, 3) := by decide +kernel
theorem dX3_skips_4 : decode cX3_skips 4 = .ok (.aload_n 0, 1) := by decide +kernel
theorem dX3_skips_5 : decode cX3_skips 5 = .ok (.getfield 70, 3) := by decide +kernel
theorem dX3_skips_8 : decode cX3_skips 8 = .ok (.if_icmp .ge 30, 3) := by decide +kernel
theorem dX3_skips_11 : decode cX3_skips 11 = .ok (.aload_n 0, 1) := by decide +kernel
theorem dX3_skips_12 : decode cX3_skips 12 = .ok (.getfield 19, 3) := by decide +kernel
theorem dX3_skips_15 : decode cX3_skips 15 = .ok (.aload_n 0, 1) := by decide +kernel
theorem dX3_skips_16 : decode cX3_skips 16 = .ok (.getfield 73, 3) := by decide +kernel
theorem dX3_skips_19 : decode cX3_skips 19 = .ok (.iaload, 1) := by decide +kernel
theorem dX3_skips_20 : decode cX3_skips 20 = .ok (.bipush 32, 2) := by decide +kernel
theorem dX3_skips_22 : decode cX3_skips 22 = .ok (.if_icmp .ne 16, 3) := by decide +kernel
theorem dX3_skips_25 : decode cX3_skips 25 = .ok (.aload_n 0, 1) := by decide +kernel
theorem dX3_skips_26 : decode cX3_skips 26 = .ok (.dup, 1) := by decide +kernel
theorem dX3_skips_27 : decode cX3_skips 27 = .ok (.getfield 73, 3) := by decide +kernel
theorem dX3_skips_30 : decode cX3_skips 30 = .ok (.iconst 1, 1) := by decide +kernel
theorem dX3_skips_31 : decode cX3_skips 31 = .ok (.iadd, 1) := by decide +kernel
theorem dX3_skips_32 : decode cX3_skips 32 = .ok (.putfield 73, 3) := by decide +kernel
theorem dX3_skips_35 : decode cX3_skips 35 = .ok (.goto (-35), 3) := by decide +kernel
theorem dX3_skips_38 : decode cX3_skips 38 = .ok (.return_, 1) := by decide +kernel
set_option maxRecDepth 20000 in
theorem ggX3_isDigit_X3_in : GoodIn wsX3_isDigit wsX3_in := goodIn_r _ [6] (by decide +kernel) (by decide +kernel)
set_option maxRecDepth 20000 in
theorem gX3_isDigit_X3_in : GoodIn wsX3_isDigit (va_wsS RX3 40 yX3_in wsX3_in) := goodIn_app (goodIn_of _ (by decide +kernel)) ggX3_isDigit_X3_in
theorem dX3_isDigit_0 : decode cX3_isDigit 0 = .ok (.iload_n 1, 1) := by decide +kernel
theorem dX3_isDigit_1 : decode cX3_isDigit 1 = .ok (.aload_n 0, 1) := by decide +kernel
theorem dX3_isDigit_2 : decode cX3_isDigit 2 = .ok (.getfield 70, 3) := by decide +kernel
theorem dX3_isDigit_5 : decode cX3_isDigit 5 = .ok (.if_icmp .ge 23, 3) := by decide +kernel
theorem dX3_isDigit_8 : decode cX3_isDigit 8 = .ok (.aload_n 0, 1) := by decide +kernel
theorem dX3_isDigit_9 : decode cX3_isDigit 9 = .ok (.getfield 19, 3) := by decide +kernel
theorem dX3_isDigit_12 : decode cX3_isDigit 12 = .ok (.iload_n 1, 1) := by decide +kernel
theorem dX3_isDigit_13 : decode cX3_isDigit 13 = .ok (.iaload, 1) := by decide +kernel
theorem dX3_isDigit_14 : decode cX3_isDigit 14 = .ok (.bipush 48, 2) := by decide +kernel
theorem dX3_isDigit_16 : decode cX3_isDigit 16 = .ok (.bipush 57, 2) := by decide +kernel
theorem dX3_isDigit_18 : decode cX3_isDigit 18 = .ok (.invokestatic 40, 3) := by decide +kernel
theorem dX3_isDigit_21 : decode cX3_isDigit 21 = .ok (.ifCond .eq 7, 3) := by decide +kernel
theorem dX3_isDigit_24 : decode cX3_isDigit 24 = .ok (.iconst 1, 1) := by decide +kernel
theorem dX3_isDigit_25 : decode cX3_isDigit 25 = .ok (.goto 4, 3) := by decide +kernel
theorem dX3_isDigit_28 : decode cX3_isDigit 28 = .ok (.iconst 0, 1) := by decide +kernel
theorem dX3_isDigit_29 : decode cX3_isDigit 29 = .ok (.ireturn, 1) := by decide +kernel
set_option maxRecDepth 20000 in
theorem ggX3_number_X3_skips : GoodIn wsX3_number wsX3_skips := goodIn_r _ [8, 1, 9, 3, 17, 18, 19, 20, 21, 22, 23, 24, 25, 26, 27] (by decide +kernel) (by decide +kernel)
set_option maxRecDepth 20000 in
theorem gX3_number_X3_skips : GoodIn wsX3_number (wsV RX3 76 RX3 yX3_skips wsX3_skips) := goodIn_app (goodIn_of _ (by decide +kernel)) ggX3_number_X3_skips
set_option maxRecDepth 20000 in
theorem ggX3_number_X3_isDigit : GoodIn wsX3_number wsX3_isDigit := goodIn_r _ [13, 9, 3, 14, 15, 7, 16, 17, 18, 19, 20, 21, 22, 23, 24, 25, 26, 27] (by decide +kernel) (by decide +kernel)
set_option maxRecDepth 20000 in
theorem gX3_number_X3_isDigit : GoodIn wsX3_number (wsV RX3 82 RX3 yX3_isDigit wsX3_isDigit) := goodIn_app (goodIn_of _ (by decide +kernel)) ggX3_number_X3_isDigit
theorem dX3_number_0 : decode cX3_number 0 = .ok (.aload_n 0, 1) := by decide +kernel
theorem dX3_number_1 : decode cX3_number 1 = .ok (.invokevirtual 76, 3) := by decide +kernel
theorem dX3_number_4 : decode cX3_number 4 = .ok (.aload_n 0, 1) := by decide +kernel
theorem dX3_number_5 : decode cX3_number 5 = .ok (.getfield 73, 3) := by decide +kernel
theorem dX3_number_8 : decode cX3_number 8 = .ok (.istore_n 1, 1) := by decide +kernel
theorem dX3_number_9 : decode cX3_number 9 = .ok (.aload_n 0, 1) := by decide +kernel
theorem dX3_number_10 : decode cX3_number 10 = .ok (.iconst 0, 1) := by decide +kernel
theorem dX3_number_11 : decode cX3_number 11 = .ok (.putfield 79, 3) := by decide +kernel
theorem dX3_number_14 : decode cX3_number 14 = .ok (.aload_n 0, 1) := by decide +kernel
theorem dX3_number_15 : decode cX3_number 15 = .ok (.aload_n 0, 1) := by decide +kernel
theorem dX3_number_16 : decode cX3_number 16 = .ok (.getfield 73, 3) := by decide +kernel
theorem dX3_number_19 : decode cX3_number 19 = .ok (.invokevirtual 82, 3) := by decide +kernel
theorem dX3_number_22 : decode cX3_number 22 = .ok (.ifCond .eq 57, 3) := by decide +kernel
theorem dX3_number_25 : decode cX3_number 25 = .ok (.aload_n 0, 1) := by decide +kernel
theorem dX3_number_26 : decode cX3_number 26 = .ok (.aload_n 0, 1) := by decide +kernel
theorem dX3_number_27 : decode cX3_number 27 = .ok (.getfield 73, 3) := by decide +kernel
theorem dX3_number_30 : decode cX3_number 30 = .ok (.iload_n 1, 1) := by decide +kernel
theorem dX3_number_31 : decode cX3_number 31 = .ok (.isub, 1) := by decide +kernel
theorem dX3_number_32 : decode cX3_number 32 = .ok (.iconst 3, 1) := by decide +kernel
theorem dX3_number_33 : decode cX3_number 33 = .ok (.if_icmp .ge 26, 3) := by decide +kernel
theorem dX3_number_36 : decode cX3_number 36 = .ok (.bipush 10, 2) := by decide +kernel
theorem dX3_number_38 : decode cX3_number 38 = .ok (.aload_n 0, 1) := by decide +kernel
theorem dX3_number_39 : decode cX3_number 39 = .ok (.getfield 79, 3) := by decide +kernel
theorem dX3_number_42 : decode cX3_number 42 = .ok (.imul, 1) := by decide +kernel
theorem dX3_number_43 : decode cX3_number 43 = .ok (.aload_n 0, 1) := by decide +kernel
theorem dX3_number_44 : decode cX3_number 44 = .ok (.getfield 19, 3) := by decide +kernel
theorem dX3_number_47 : decode cX3_number 47 = .ok (.aload_n 0, 1) := by decide +kernel
theorem dX3_number_48 : decode cX3_number 48 = .ok (.getfield 73, 3) := by decide +kernel
theorem dX3_number_51 : decode cX3_number 51 = .ok (.iaload, 1) := by decide +kernel
theorem dX3_number_52 : decode cX3_number 52 = .ok (.iadd, 1) := by decide +kernel
theorem dX3_number_53 : decode cX3_number 53 = .ok (.bipush 48, 2) := by decide +kernel
theorem dX3_number_55 : decode cX3_number 55 = .ok (.isub, 1) := by decide +kernel
theorem dX3_number_56 : decode cX3_number 56 = .ok (.goto 7, 3) := by decide +kernel
theorem dX3_number_59 : decode cX3_number 59 = .ok (.aload_n 0, 1) := by decide +kernel
theorem dX3_number_60 : decode cX3_number 60 = .ok (.getfield 79, 3) := by decide +kernel
theorem dX3_number_63 : decode cX3_number 63 = .ok (.putfield 79, 3) := by decide +kernel
theorem dX3_number_66 : decode cX3_number 66 = .ok (.aload_n 0, 1) := by decide +kernel
theorem dX3_number_67 : decode cX3_number 67 = .ok (.dup, 1) := by decide +kernel
theorem dX3_number_68 : decode cX3_number 68 = .ok (.getfield 73, 3) := by decide +kernel
theorem dX3_number_71 : decode cX3_number 71 = .ok (.iconst 1, 1) := by decide +kernel
theorem dX3_number_72 : decode cX3_number 72 = .ok (.iadd, 1) := by decide +kernel
theorem dX3_number_73 : decode cX3_number 73 = .ok (.putfield 73, 3) := by decide +kernel
theorem dX3_number_76 : decode cX3_number 76 = .ok (.goto (-62), 3) := by decide +kernel
theorem dX3_number_79 : decode cX3_number 79 = .ok (.aload_n 0, 1) := by decide +kernel
theorem dX3_number_80 : decode cX3_number 80 = .ok (.getfield 73, 3) := by decide +kernel
theorem dX3_number_83 : decode cX3_number 83 = .ok (.iload_n 1, 1) := by decide +kernel
theorem dX3_number_84 : decode cX3_number 84 = .ok (.if_icmp .le 38, 3) := by decide +kernel
theorem dX3_number_87 : decode cX3_number 87 = .ok (.aload_n 0, 1) := by decide +kernel
theorem dX3_number_88 : decode cX3_number 88 = .ok (.getfield 73, 3) := by decide +kernel
theorem dX3_number_91 : decode cX3_number 91 = .ok (.iload_n 1, 1) := by decide +kernel
theorem dX3_number_92 : decode cX3_number 92 = .ok (.isub, 1) := by decide +kernel
theorem dX3_number_93 : decode cX3_number 93 = .ok (.iconst 4, 1) := by decide +kernel
theorem dX3_number_94 : decode cX3_number 94 = .ok (.if_icmp .ge 28, 3) := by decide +kernel
theorem dX3_number_97 : decode cX3_number 97 = .ok (.aload_n 0, 1) := by decide +kernel
theorem dX3_number_98 : decode cX3_number 98 = .ok (.getfield 19, 3) := by decide +kernel
theorem dX3_number_101 : decode cX3_number 101 = .ok (.iload_n 1, 1) := by decide +kernel
theorem dX3_number_102 : decode cX3_number 102 = .ok (.iaload, 1) := by decide +kernel
theorem dX3_number_103 : decode cX3_number 103 = .ok (.bipush 48, 2) := by decide +kernel
theorem dX3_number_105 : decode cX3_number 105 = .ok (.if_icmp .ne 13, 3) := by decide +kernel
theorem dX3_number_108 : decode cX3_number 108 = .ok (.aload_n 0, 1) := by decide +kernel
theorem dX3_number_109 : decode cX3_number 109 = .ok (.getfield 73, 3) := by decide +kernel
theorem dX3_number_112 : decode cX3_number 112 = .ok (.iload_n 1, 1) := by decide +kernel
theorem dX3_number_113 : decode cX3_number 113 = .ok (.isub, 1) := by decide +kernel
theorem dX3_number_114 : decode cX3_number 114 = .ok (.iconst 1, 1) := by decide +kernel
theorem dX3_number_115 : decode cX3_number 115 = .ok (.if_icmp .ne 7, 3) := by decide +kernel
theorem dX3_number_118 : decode cX3_number 118 = .ok (.iconst 1, 1) := by decide +kernel
theorem dX3_number_119 : decode cX3_number 119 = .ok (.goto 4, 3) := by decide +kernel
theorem dX3_number_122 : decode cX3_number 122 = .ok (.iconst 0, 1) := by decide +kernel
theorem dX3_number_123 : decode cX3_number 123 = .ok (.istore_n 2, 1) := by decide +kernel
theorem dX3_number_124 : decode cX3_number 124 = .ok (.aload_n 0, 1) := by decide +kernel
theorem dX3_number_125 : decode cX3_number 125 = .ok (.iload_n 2, 1) := by decide +kernel
theorem dX3_number_126 : decode cX3_number 126 = .ok (.ifCond .eq 10, 3) := by decide +kernel
theorem dX3_number_129 : decode cX3_number 129 = .ok (.aload_n 0, 1) := by decide +kernel
theorem dX3_number_130 : decode cX3_number 130 = .ok (.getfield 73, 3) := by decide +kernel
theorem dX3_number_133 : decode cX3_number 133 = .ok (.goto 4, 3) := by decide +kernel
theorem dX3_number_136 : decode cX3_number 136 = .ok (.iload_n 1, 1) := by decide +kernel
theorem dX3_number_137 : decode cX3_number 137 = .ok (.putfield 73, 3) := by decide +kernel
theorem dX3_number_140 : decode cX3_number 140 = .ok (.iload_n 2, 1) := by decide +kernel
theorem dX3_number_141 : decode cX3_number 141 = .ok (.ireturn, 1) := by decide +kernel
set_option maxRecDepth 20000 in
theorem ggX3_runsOne_X3_number : GoodIn wsX3_runsOne wsX3_number := goodIn_r _ [9, 1, 3, 2, 10, 11, 12, 8, 13, 4, 14, 15, 16, 17, 18, 19, 20, 68, 69, 70, 71, 72, 73, 74, 75, 76, 77, 78] (by decide +kernel) (by decide +kernel)
set_option maxRecDepth 20000 in
theorem gX3_runsOne_X3_number : GoodIn wsX3_runsOne (wsV RX3 86 RX3 yX3_number wsX3_number) := goodIn_app (goodIn_of _ (by decide +kernel)) ggX3_runsOne_X3_number
set_option maxRecDepth 20000 in
theorem ggX3_runsOne_X3_skips : GoodIn wsX3_runsOne wsX3_skips := goodIn_r _ [13, 1, 4, 2, 68, 69, 70, 71, 72, 73, 74, 75, 76, 77, 78] (by decide +kernel) (by decide +kernel)
set_option maxRecDepth 20000 in
theorem gX3_runsOne_X3_skips : GoodIn wsX3_runsOne (wsV RX3 76 RX3 yX3_skips wsX3_skips) := goodIn_app (goodIn_of _ (by decide +kernel)) ggX3_runsOne_X3_skips
set_option maxRecDepth 20000 in
theorem ggX3_runsOne_X3_call : GoodIn wsX3_runsOne wsX3_call := goodIn_r _ [24, 25, 18, 19, 8, 20, 26, 27, 28, 29, 30, 31, 32, 33, 34, 35, 36, 37, 38, 39, 40, 68, 69, 70, 71, 72, 73, 74, 75, 76, 77, 78] (by decide +kernel) (by decide +kernel)
set_option maxRecDepth 20000 in
theorem gX3_runsOne_X3_call : GoodIn wsX3_runsOne (wsV RX3 90 RX3 yX3_call wsX3_call) := goodIn_app (goodIn_of _ (by decide +kernel)) ggX3_runsOne_X3_call
set_option maxRecDepth 20000 in
theorem ggX3_runsOne_X3_tail : GoodIn wsX3_runsOne wsX3_tail := goodIn_r _ [44, 25, 18, 19, 8, 20, 26, 27, 28, 29, 30, 31, 32, 37, 38, 39, 40, 68, 69, 70, 71, 72, 73, 74, 75, 76, 77, 78] (by decide +kernel) (by decide +kernel)
set_option maxRecDepth 20000 in
theorem gX3_runsOne_X3_tail : GoodIn wsX3_runsOne (wsV RX3 93 RX3 yX3_tail wsX3_tail) := goodIn_app (goodIn_of _ (by decide +kernel)) ggX3_runsOne_X3_tail
set_option maxRecDepth 20000 in
theorem ggX3_runsOne_X3_ret : GoodIn wsX3_runsOne wsX3_ret := goodIn_r _ [48, 25, 26, 27, 28, 8, 29, 30, 31, 32, 49, 50, 51, 52, 53, 54, 55, 56, 33, 34, 35, 36, 57, 58, 59, 60, 61, 62, 63, 37, 38, 39, 40, 68, 69, 70, 71, 72, 73, 74, 75, 76, 77, 78] (by decide +kernel) (by decide +kernel)
set_option maxRecDepth 20000 in
theorem gX3_runsOne_X3_ret : GoodIn wsX3_runsOne (wsV RX3 97 RX3 yX3_ret wsX3_ret) := goodIn_app (goodIn_of _ (by decide +kernel)) ggX3_runsOne_X3_ret
set_option maxRecDepth 20000 in
theorem ggX3_runsOne_X3_raise : GoodIn wsX3_runsOne wsX3_raise := goodIn_r _ [67, 25, 18, 19, 8, 20, 26, 27, 28, 29, 30, 31, 32, 61, 62, 63, 37, 38, 39, 40, 68, 69, 70, 71, 72, 73, 74, 75, 76, 77, 78] (by decide +kernel) (by decide +kernel)
set_option maxRecDepth 20000 in
theorem gX3_runsOne_X3_raise : GoodIn wsX3_runsOne (wsV RX3 100 RX3 yX3_raise wsX3_raise) := goodIn_app (goodIn_of _ (by decide +kernel)) ggX3_runsOne_X3_raise
theorem dX3_runsOne_0 : decode cX3_runsOne 0 = .ok (.aload_n 0, 1) := by decide +kernel
theorem dX3_runsOne_1 : decode cX3_runsOne 1 = .ok (.getfield 73, 3) := by decide +kernel
theorem dX3_runsOne_4 : decode cX3_runsOne 4 = .ok (.istore_n 1, 1) := by decide +kernel
theorem dX3_runsOne_5 : decode cX3_runsOne 5 = .ok (.aload_n 0, 1) := by decide +kernel
theorem dX3_runsOne_6 : decode cX3_runsOne 6 = .ok (.getfield 19, 3) := by decide +kernel
theorem dX3_runsOne_9 : decode cX3_runsOne 9 = .ok (.aload_n 0, 1) := by decide +kernel
theorem dX3_runsOne_10 : decode cX3_runsOne 10 = .ok (.getfield 73, 3) := by decide +kernel
theorem dX3_runsOne_13 : decode cX3_runsOne 13 = .ok (.iaload, 1) := by decide +kernel
theorem dX3_runsOne_14 : decode cX3_runsOne 14 = .ok (.istore_n 2, 1) := by decide +kernel
theorem dX3_runsOne_15 : decode cX3_runsOne 15 = .ok (.iload_n 2, 1) := by decide +kernel
theorem dX3_runsOne_16 : decode cX3_runsOne 16 = .ok (.bipush 99, 2) := by decide +kernel
theorem dX3_runsOne_18 : decode cX3_runsOne 18 = .ok (.if_icmp .eq 23, 3) := by decide +kernel
theorem dX3_runsOne_21 : decode cX3_runsOne 21 = .ok (.iload_n 2, 1) := by decide +kernel
theorem dX3_runsOne_22 : decode cX3_runsOne 22 = .ok (.bipush 116, 2) := by decide +kernel
theorem dX3_runsOne_24 : decode cX3_runsOne 24 = .ok (.if_icmp .eq 17, 3) := by decide +kernel
theorem dX3_runsOne_27 : decode cX3_runsOne 27 = .ok (.iload_n 2, 1) := by decide +kernel
theorem dX3_runsOne_28 : decode cX3_runsOne 28 = .ok (.bipush 114, 2) := by decide +kernel
theorem dX3_runsOne_30 : decode cX3_runsOne 30 = .ok (.if_icmp .eq 11, 3) := by decide +kernel
theorem dX3_runsOne_33 : decode cX3_runsOne 33 = .ok (.iload_n 2, 1) := by decide +kernel
theorem dX3_runsOne_34 : decode cX3_runsOne 34 = .ok (.bipush 120, 2) := by decide +kernel
theorem dX3_runsOne_36 : decode cX3_runsOne 36 = .ok (.if_icmp .eq 5, 3) := by decide +kernel
theorem dX3_runsOne_39 : decode cX3_runsOne 39 = .ok (.iload_n 1, 1) := by decide +kernel
theorem dX3_runsOne_40 : decode cX3_runsOne 40 = .ok (.ireturn, 1) := by decide +kernel
theorem dX3_runsOne_41 : decode cX3_runsOne 41 = .ok (.aload_n 0, 1) := by decide +kernel
theorem dX3_runsOne_42 : decode cX3_runsOne 42 = .ok (.dup, 1) := by decide +kernel
theorem dX3_runsOne_43 : decode cX3_runsOne 43 = .ok (.getfield 73, 3) := by decide +kernel
theorem dX3_runsOne_46 : decode cX3_runsOne 46 = .ok (.iconst 1, 1) := by decide +kernel
theorem dX3_runsOne_47 : decode cX3_runsOne 47 = .ok (.iadd, 1) := by decide +kernel
theorem dX3_runsOne_48 : decode cX3_runsOne 48 = .ok (.putfield 73, 3) := by decide +kernel
theorem dX3_runsOne_51 : decode cX3_runsOne 51 = .ok (.iload_n 2, 1) := by decide +kernel
theorem dX3_runsOne_52 : decode cX3_runsOne 52 = .ok (.bipush 114, 2) := by decide +kernel
theorem dX3_runsOne_54 : decode cX3_runsOne 54 = .ok (.if_icmp .eq 15, 3) := by decide +kernel
theorem dX3_runsOne_57 : decode cX3_runsOne 57 = .ok (.aload_n 0, 1) := by decide +kernel
theorem dX3_runsOne_58 : decode cX3_runsOne 58 = .ok (.invokevirtual 86, 3) := by decide +kernel
theorem dX3_runsOne_61 : decode cX3_runsOne 61 = .ok (.ifCond .ne 8, 3) := by decide +kernel
theorem dX3_runsOne_64 : decode cX3_runsOne 64 = .ok (.aload_n 0, 1) := by decide +kernel
theorem dX3_runsOne_65 : decode cX3_runsOne 65 = .ok (.getfield 73, 3) := by decide +kernel
theorem dX3_runsOne_68 : decode cX3_runsOne 68 = .ok (.ireturn, 1) := by decide +kernel
theorem dX3_runsOne_69 : decode cX3_runsOne 69 = .ok (.aload_n 0, 1) := by decide +kernel
theorem dX3_runsOne_70 : decode cX3_runsOne 70 = .ok (.getfield 79, 3) := by decide +kernel
theorem dX3_runsOne_73 : decode cX3_runsOne 73 = .ok (.istore_n 3, 1) := by decide +kernel
theorem dX3_runsOne_74 : decode cX3_runsOne 74 = .ok (.iload_n 2, 1) := by decide +kernel
theorem dX3_runsOne_75 : decode cX3_runsOne 75 = .ok (.bipush 99, 2) := by decide +kernel
theorem dX3_runsOne_77 : decode cX3_runsOne 77 = .ok (.if_icmp .ne 59, 3) := by decide +kernel
theorem dX3_runsOne_80 : decode cX3_runsOne 80 = .ok (.aload_n 0, 1) := by decide +kernel
theorem dX3_runsOne_81 : decode cX3_runsOne 81 = .ok (.invokevirtual 76, 3) := by decide +kernel
theorem dX3_runsOne_84 : decode cX3_runsOne 84 = .ok (.aload_n 0, 1) := by decide +kernel
theorem dX3_runsOne_85 : decode cX3_runsOne 85 = .ok (.getfield 73, 3) := by decide +kernel
theorem dX3_runsOne_88 : decode cX3_runsOne 88 = .ok (.aload_n 0, 1) := by decide +kernel
theorem dX3_runsOne_89 : decode cX3_runsOne 89 = .ok (.getfield 70, 3) := by decide +kernel
theorem dX3_runsOne_92 : decode cX3_runsOne 92 = .ok (.if_icmp .eq 17, 3) := by decide +kernel
theorem dX3_runsOne_95 : decode cX3_runsOne 95 = .ok (.aload_n 0, 1) := by decide +kernel
theorem dX3_runsOne_96 : decode cX3_runsOne 96 = .ok (.getfield 19, 3) := by decide +kernel
theorem dX3_runsOne_99 : decode cX3_runsOne 99 = .ok (.aload_n 0, 1) := by decide +kernel
theorem dX3_runsOne_100 : decode cX3_runsOne 100 = .ok (.getfield 73, 3) := by decide +kernel
theorem dX3_runsOne_103 : decode cX3_runsOne 103 = .ok (.iaload, 1) := by decide +kernel
theorem dX3_runsOne_104 : decode cX3_runsOne 104 = .ok (.bipush 64, 2) := by decide +kernel
theorem dX3_runsOne_106 : decode cX3_runsOne 106 = .ok (.if_icmp .eq 8, 3) := by decide +kernel
theorem dX3_runsOne_109 : decode cX3_runsOne 109 = .ok (.aload_n 0, 1) := by decide +kernel
theorem dX3_runsOne_110 : decode cX3_runsOne 110 = .ok (.getfield 73, 3) := by decide +kernel
theorem dX3_runsOne_113 : decode cX3_runsOne 113 = .ok (.ireturn, 1) := by decide +kernel
theorem dX3_runsOne_114 : decode cX3_runsOne 114 = .ok (.aload_n 0, 1) := by decide +kernel
theorem dX3_runsOne_115 : decode cX3_runsOne 115 = .ok (.dup, 1) := by decide +kernel
theorem dX3_runsOne_116 : decode cX3_runsOne 116 = .ok (.getfield 73, 3) := by decide +kernel
theorem dX3_runsOne_119 : decode cX3_runsOne 119 = .ok (.iconst 1, 1) := by decide +kernel
theorem dX3_runsOne_120 : decode cX3_runsOne 120 = .ok (.iadd, 1) := by decide +kernel
theorem dX3_runsOne_121 : decode cX3_runsOne 121 = .ok (.putfield 73, 3) := by decide +kernel
theorem dX3_runsOne_124 : decode cX3_runsOne 124 = .ok (.aload_n 0, 1) := by decide +kernel
theorem dX3_runsOne_125 : decode cX3_runsOne 125 = .ok (.invokevirtual 86, 3) := by decide +kernel
theorem dX3_runsOne_128 : decode cX3_runsOne 128 = .ok (.ifCond .ne 8, 3) := by decide +kernel
theorem dX3_runsOne_131 : decode cX3_runsOne 131 = .ok (.aload_n 0, 1) := by decide +kernel
theorem dX3_runsOne_132 : decode cX3_runsOne 132 = .ok (.getfield 73, 3) := by decide +kernel
theorem dX3_runsOne_135 : decode cX3_runsOne 135 = .ok (.ireturn, 1) := by decide +kernel
theorem dX3_runsOne_136 : decode cX3_runsOne 136 = .ok (.iload_n 2, 1) := by decide +kernel
theorem dX3_runsOne_137 : decode cX3_runsOne 137 = .ok (.bipush 99, 2) := by decide +kernel
theorem dX3_runsOne_139 : decode cX3_runsOne 139 = .ok (.if_icmp .ne 15, 3) := by decide +kernel
theorem dX3_runsOne_142 : decode cX3_runsOne 142 = .ok (.aload_n 0, 1) := by decide +kernel
theorem dX3_runsOne_143 : decode cX3_runsOne 143 = .ok (.iload_n 3, 1) := by decide +kernel
theorem dX3_runsOne_144 : decode cX3_runsOne 144 = .ok (.aload_n 0, 1) := by decide +kernel
theorem dX3_runsOne_145 : decode cX3_runsOne 145 = .ok (.getfield 79, 3) := by decide +kernel
theorem dX3_runsOne_148 : decode cX3_runsOne 148 = .ok (.invokevirtual 90, 3) := by decide +kernel
theorem dX3_runsOne_151 : decode cX3_runsOne 151 = .ok (.goto 35, 3) := by decide +kernel
theorem dX3_runsOne_154 : decode cX3_runsOne 154 = .ok (.iload_n 2, 1) := by decide +kernel
theorem dX3_runsOne_155 : decode cX3_runsOne 155 = .ok (.bipush 116, 2) := by decide +kernel
theorem dX3_runsOne_157 : decode cX3_runsOne 157 = .ok (.if_icmp .ne 11, 3) := by decide +kernel
theorem dX3_runsOne_160 : decode cX3_runsOne 160 = .ok (.aload_n 0, 1) := by decide +kernel
theorem dX3_runsOne_161 : decode cX3_runsOne 161 = .ok (.iload_n 3, 1) := by decide +kernel
theorem dX3_runsOne_162 : decode cX3_runsOne 162 = .ok (.invokevirtual 93, 3) := by decide +kernel
theorem dX3_runsOne_165 : decode cX3_runsOne 165 = .ok (.goto 21, 3) := by decide +kernel
theorem dX3_runsOne_168 : decode cX3_runsOne 168 = .ok (.iload_n 2, 1) := by decide +kernel
theorem dX3_runsOne_169 : decode cX3_runsOne 169 = .ok (.bipush 114, 2) := by decide +kernel
theorem dX3_runsOne_171 : decode cX3_runsOne 171 = .ok (.if_icmp .ne 10, 3) := by decide +kernel
theorem dX3_runsOne_174 : decode cX3_runsOne 174 = .ok (.aload_n 0, 1) := by decide +kernel
theorem dX3_runsOne_175 : decode cX3_runsOne 175 = .ok (.invokevirtual 97, 3) := by decide +kernel
theorem dX3_runsOne_178 : decode cX3_runsOne 178 = .ok (.goto 8, 3) := by decide +kernel
theorem dX3_runsOne_181 : decode cX3_runsOne 181 = .ok (.aload_n 0, 1) := by decide +kernel
theorem dX3_runsOne_182 : decode cX3_runsOne 182 = .ok (.iload_n 3, 1) := by decide +kernel
theorem dX3_runsOne_183 : decode cX3_runsOne 183 = .ok (.invokevirtual 100, 3) := by decide +kernel
theorem dX3_runsOne_186 : decode cX3_runsOne 186 = .ok (.istore 4, 2) := by decide +kernel
theorem dX3_runsOne_188 : decode cX3_runsOne 188 = .ok (.aload_n 0, 1) := by decide +kernel
theorem dX3_runsOne_189 : decode cX3_runsOne 189 = .ok (.invokevirtual 76, 3) := by decide +kernel
theorem dX3_runsOne_192 : decode cX3_runsOne 192 = .ok (.iload 4, 2) := by decide +kernel
theorem dX3_runsOne_194 : decode cX3_runsOne 194 = .ok (.ifCond .ge 7, 3) := by decide +kernel
theorem dX3_runsOne_197 : decode cX3_runsOne 197 = .ok (.iload_n 1, 1) := by decide +kernel
theorem dX3_runsOne_198 : decode cX3_runsOne 198 = .ok (.goto 5, 3) := by decide +kernel
theorem dX3_runsOne_201 : decode cX3_runsOne 201 = .ok (.bipush (-9), 2) := by decide +kernel
theorem dX3_runsOne_203 : decode cX3_runsOne 203 = .ok (.ireturn, 1) := by decide +kernel
theorem dX3_exchanges_0 : decode cX3_exchanges 0 = .ok (.iconst 0, 1) := by decide +kernel
theorem dX3_exchanges_1 : decode cX3_exchanges 1 = .ok (.istore_n 1, 1) := by decide +kernel
theorem dX3_exchanges_2 : decode cX3_exchanges 2 = .ok (.iload_n 1, 1) := by decide +kernel
theorem dX3_exchanges_3 : decode cX3_exchanges 3 = .ok (.sipush 935, 3) := by decide +kernel
theorem dX3_exchanges_6 : decode cX3_exchanges 6 = .ok (.if_icmp .ge 35, 3) := by decide +kernel
theorem dX3_exchanges_9 : decode cX3_exchanges 9 = .ok (.aload_n 0, 1) := by decide +kernel
theorem dX3_exchanges_10 : decode cX3_exchanges 10 = .ok (.getfield 7, 3) := by decide +kernel
theorem dX3_exchanges_13 : decode cX3_exchanges 13 = .ok (.iload_n 1, 1) := by decide +kernel
theorem dX3_exchanges_14 : decode cX3_exchanges 14 = .ok (.iaload, 1) := by decide +kernel
theorem dX3_exchanges_15 : decode cX3_exchanges 15 = .ok (.istore_n 2, 1) := by decide +kernel
theorem dX3_exchanges_16 : decode cX3_exchanges 16 = .ok (.aload_n 0, 1) := by decide +kernel
theorem dX3_exchanges_17 : decode cX3_exchanges 17 = .ok (.getfield 7, 3) := by decide +kernel
theorem dX3_exchanges_20 : decode cX3_exchanges 20 = .ok (.iload_n 1, 1) := by decide +kernel
theorem dX3_exchanges_21 : decode cX3_exchanges 21 = .ok (.aload_n 0, 1) := by decide +kernel
theorem dX3_exchanges_22 : decode cX3_exchanges 22 = .ok (.getfield 16, 3) := by decide +kernel
theorem dX3_exchanges_25 : decode cX3_exchanges 25 = .ok (.iload_n 1, 1) := by decide +kernel
theorem dX3_exchanges_26 : decode cX3_exchanges 26 = .ok (.iaload, 1) := by decide +kernel
theorem dX3_exchanges_27 : decode cX3_exchanges 27 = .ok (.iastore, 1) := by decide +kernel
theorem dX3_exchanges_28 : decode cX3_exchanges 28 = .ok (.aload_n 0, 1) := by decide +kernel
theorem dX3_exchanges_29 : decode cX3_exchanges 29 = .ok (.getfield 16, 3) := by decide +kernel
theorem dX3_exchanges_32 : decode cX3_exchanges 32 = .ok (.iload_n 1, 1) := by decide +kernel
theorem dX3_exchanges_33 : decode cX3_exchanges 33 = .ok (.iload_n 2, 1) := by decide +kernel
theorem dX3_exchanges_34 : decode cX3_exchanges 34 = .ok (.iastore, 1) := by decide +kernel
theorem dX3_exchanges_35 : decode cX3_exchanges 35 = .ok (.iinc 1 1, 3) := by decide +kernel
theorem dX3_exchanges_38 : decode cX3_exchanges 38 = .ok (.goto (-36), 3) := by decide +kernel
theorem dX3_exchanges_41 : decode cX3_exchanges 41 = .ok (.return_, 1) := by decide +kernel
set_option maxRecDepth 20000 in
theorem ggX3_run_X3_skips : GoodIn wsX3_run wsX3_skips := goodIn_r _ [10, 4, 5, 11, 77, 78, 79, 80, 81, 82, 83, 84, 85, 86, 87] (by decide +kernel) (by decide +kernel)
set_option maxRecDepth 20000 in
theorem gX3_run_X3_skips : GoodIn wsX3_run (wsV RX3 76 RX3 yX3_skips wsX3_skips) := goodIn_app (goodIn_of _ (by decide +kernel)) ggX3_run_X3_skips
set_option maxRecDepth 20000 in
theorem ggX3_run_X3_runsOne : GoodIn wsX3_run wsX3_runsOne := goodIn_r _ [15, 4, 11, 16, 5, 17, 18, 19, 9, 20, 6, 7, 8, 10, 21, 22, 23, 24, 25, 26, 27, 28, 29, 30, 31, 2, 32, 33, 34, 35, 3, 36, 37, 38, 39, 40, 41, 42, 43, 44, 45, 46, 47, 48, 49, 50, 51, 52, 53, 54, 55, 56, 57, 58, 59, 60, 61, 62, 63, 64, 65, 66, 67, 68, 69, 70, 71, 72, 77, 78, 79, 80, 81, 82, 83, 84, 85, 86, 87] (by decide +kernel) (by decide +kernel)
set_option maxRecDepth 20000 in
theorem gX3_run_X3_runsOne : GoodIn wsX3_run (wsV RX3 103 RX3 yX3_runsOne wsX3_runsOne) := goodIn_app (goodIn_of _ (by decide +kernel)) ggX3_run_X3_runsOne
set_option maxRecDepth 20000 in
theorem ggX3_run_X3_exchanges : GoodIn wsX3_run wsX3_exchanges := goodIn_r _ [76, 2, 1, 77, 78, 79, 80, 81, 82, 83, 84, 85, 86, 87] (by decide +kernel) (by decide +kernel)
set_option maxRecDepth 20000 in
theorem gX3_run_X3_exchanges : GoodIn wsX3_run (wsV RX3 106 RX3 yX3_exchanges wsX3_exchanges) := goodIn_app (goodIn_of _ (by decide +kernel)) ggX3_run_X3_exchanges
set_option maxRecDepth 20000 in
theorem ggX3_run_X3_acts : GoodIn wsX3_run wsX3_acts := goodIn_r _ [35, 3, 36, 37, 2, 77, 78, 79, 80, 81, 82, 83, 84, 85, 86, 87] (by decide +kernel) (by decide +kernel)
set_option maxRecDepth 20000 in
theorem gX3_run_X3_acts : GoodIn wsX3_run (wsV RX3 44 RX3 yX3_acts wsX3_acts) := goodIn_app (goodIn_of _ (by decide +kernel)) ggX3_run_X3_acts
theorem dX3_run_0 : decode cX3_run 0 = .ok (.iconst 0, 1) := by decide +kernel
theorem dX3_run_1 : decode cX3_run 1 = .ok (.istore_n 1, 1) := by decide +kernel
theorem dX3_run_2 : decode cX3_run 2 = .ok (.iload_n 1, 1) := by decide +kernel
theorem dX3_run_3 : decode cX3_run 3 = .ok (.sipush 935, 3) := by decide +kernel
theorem dX3_run_6 : decode cX3_run 6 = .ok (.if_icmp .ge 21, 3) := by decide +kernel
theorem dX3_run_9 : decode cX3_run 9 = .ok (.aload_n 0, 1) := by decide +kernel
theorem dX3_run_10 : decode cX3_run 10 = .ok (.getfield 16, 3) := by decide +kernel
theorem dX3_run_13 : decode cX3_run 13 = .ok (.iload_n 1, 1) := by decide +kernel
theorem dX3_run_14 : decode cX3_run 14 = .ok (.aload_n 0, 1) := by decide +kernel
theorem dX3_run_15 : decode cX3_run 15 = .ok (.getfield 7, 3) := by decide +kernel
theorem dX3_run_18 : decode cX3_run 18 = .ok (.iload_n 1, 1) := by decide +kernel
theorem dX3_run_19 : decode cX3_run 19 = .ok (.iaload, 1) := by decide +kernel
theorem dX3_run_20 : decode cX3_run 20 = .ok (.iastore, 1) := by decide +kernel
theorem dX3_run_21 : decode cX3_run 21 = .ok (.iinc 1 1, 3) := by decide +kernel
theorem dX3_run_24 : decode cX3_run 24 = .ok (.goto (-22), 3) := by decide +kernel
theorem dX3_run_27 : decode cX3_run 27 = .ok (.aload_n 0, 1) := by decide +kernel
theorem dX3_run_28 : decode cX3_run 28 = .ok (.iconst 1, 1) := by decide +kernel
theorem dX3_run_29 : decode cX3_run 29 = .ok (.putfield 32, 3) := by decide +kernel
theorem dX3_run_32 : decode cX3_run 32 = .ok (.iconst 0, 1) := by decide +kernel
theorem dX3_run_33 : decode cX3_run 33 = .ok (.istore_n 1, 1) := by decide +kernel
theorem dX3_run_34 : decode cX3_run 34 = .ok (.bipush (-9), 2) := by decide +kernel
theorem dX3_run_36 : decode cX3_run 36 = .ok (.istore_n 2, 1) := by decide +kernel
end
section
theorem dX3_run_37 : decode cX3_run 37 = .ok (.aload_n 0, 1) := by decide +kernel
theorem dX3_run_38 : decode cX3_run 38 = .ok (.iconst 0, 1) := by decide +kernel
theorem dX3_run_39 : decode cX3_run 39 = .ok (.putfield 73, 3) := by decide +kernel
theorem dX3_run_42 : decode cX3_run 42 = .ok (.aload_n 0, 1) := by decide +kernel
theorem dX3_run_43 : decode cX3_run 43 = .ok (.invokevirtual 76, 3) := by decide +kernel
theorem dX3_run_46 : decode cX3_run 46 = .ok (.iload_n 2, 1) := by decide +kernel
theorem dX3_run_47 : decode cX3_run 47 = .ok (.bipush (-9), 2) := by decide +kernel
theorem dX3_run_49 : decode cX3_run 49 = .ok (.if_icmp .ne 25, 3) := by decide +kernel
theorem dX3_run_52 : decode cX3_run 52 = .ok (.aload_n 0, 1) := by decide +kernel
theorem dX3_run_53 : decode cX3_run 53 = .ok (.getfield 73, 3) := by decide +kernel
theorem dX3_run_56 : decode cX3_run 56 = .ok (.aload_n 0, 1) := by decide +kernel
theorem dX3_run_57 : decode cX3_run 57 = .ok (.getfield 70, 3) := by decide +kernel
theorem dX3_run_60 : decode cX3_run 60 = .ok (.if_icmp .ge 14, 3) := by decide +kernel
theorem dX3_run_63 : decode cX3_run 63 = .ok (.aload_n 0, 1) := by decide +kernel
theorem dX3_run_64 : decode cX3_run 64 = .ok (.invokevirtual 103, 3) := by decide +kernel
theorem dX3_run_67 : decode cX3_run 67 = .ok (.istore_n 2, 1) := by decide +kernel
theorem dX3_run_68 : decode cX3_run 68 = .ok (.iinc 1 1, 3) := by decide +kernel
theorem dX3_run_71 : decode cX3_run 71 = .ok (.goto (-25), 3) := by decide +kernel
theorem dX3_run_74 : decode cX3_run 74 = .ok (.aload_n 0, 1) := by decide +kernel
theorem dX3_run_75 : decode cX3_run 75 = .ok (.iconst 0, 1) := by decide +kernel
theorem dX3_run_76 : decode cX3_run 76 = .ok (.putfield 32, 3) := by decide +kernel
theorem dX3_run_79 : decode cX3_run 79 = .ok (.aload_n 0, 1) := by decide +kernel
theorem dX3_run_80 : decode cX3_run 80 = .ok (.invokevirtual 106, 3) := by decide +kernel
theorem dX3_run_83 : decode cX3_run 83 = .ok (.iload_n 2, 1) := by decide +kernel
theorem dX3_run_84 : decode cX3_run 84 = .ok (.bipush (-9), 2) := by decide +kernel
theorem dX3_run_86 : decode cX3_run 86 = .ok (.if_icmp .eq 9, 3) := by decide +kernel
theorem dX3_run_89 : decode cX3_run 89 = .ok (.sipush (-1000), 3) := by decide +kernel
theorem dX3_run_92 : decode cX3_run 92 = .ok (.iload_n 2, 1) := by decide +kernel
theorem dX3_run_93 : decode cX3_run 93 = .ok (.isub, 1) := by decide +kernel
theorem dX3_run_94 : decode cX3_run 94 = .ok (.ireturn, 1) := by decide +kernel
theorem dX3_run_95 : decode cX3_run 95 = .ok (.aload_n 0, 1) := by decide +kernel
theorem dX3_run_96 : decode cX3_run 96 = .ok (.invokevirtual 44, 3) := by decide +kernel
theorem dX3_run_99 : decode cX3_run 99 = .ok (.aload_n 0, 1) := by decide +kernel
theorem dX3_run_100 : decode cX3_run 100 = .ok (.invokevirtual 106, 3) := by decide +kernel
theorem dX3_run_103 : decode cX3_run 103 = .ok (.aload_n 0, 1) := by decide +kernel
theorem dX3_run_104 : decode cX3_run 104 = .ok (.iconst 0, 1) := by decide +kernel
theorem dX3_run_105 : decode cX3_run 105 = .ok (.putfield 70, 3) := by decide +kernel
theorem dX3_run_108 : decode cX3_run 108 = .ok (.iload_n 1, 1) := by decide +kernel
theorem dX3_run_109 : decode cX3_run 109 = .ok (.ireturn, 1) := by decide +kernel
set_option maxRecDepth 20000 in
theorem ggX3_overrun_X3_ofFrame : GoodIn wsX3_overrun wsX3_ofFrame := goodIn_r _ [6, 1, 7, 8, 9, 10, 11, 12, 13, 14, 15, 16, 17] (by decide +kernel) (by decide +kernel)
set_option maxRecDepth 20000 in
theorem gX3_overrun_X3_ofFrame : GoodIn wsX3_overrun (wsV RX3 47 RX3 yX3_ofFrame wsX3_ofFrame) := goodIn_app (goodIn_of _ (by decide +kernel)) ggX3_overrun_X3_ofFrame
theorem dX3_overrun_0 : decode cX3_overrun 0 = .ok (.iconst 0, 1) := by decide +kernel
theorem dX3_overrun_1 : decode cX3_overrun 1 = .ok (.istore_n 1, 1) := by decide +kernel
theorem dX3_overrun_2 : decode cX3_overrun 2 = .ok (.iconst 0, 1) := by decide +kernel
theorem dX3_overrun_3 : decode cX3_overrun 3 = .ok (.istore_n 2, 1) := by decide +kernel
theorem dX3_overrun_4 : decode cX3_overrun 4 = .ok (.iload_n 2, 1) := by decide +kernel
theorem dX3_overrun_5 : decode cX3_overrun 5 = .ok (.aload_n 0, 1) := by decide +kernel
theorem dX3_overrun_6 : decode cX3_overrun 6 = .ok (.getfield 7, 3) := by decide +kernel
theorem dX3_overrun_9 : decode cX3_overrun 9 = .ok (.iconst 0, 1) := by decide +kernel
theorem dX3_overrun_10 : decode cX3_overrun 10 = .ok (.iaload, 1) := by decide +kernel
theorem dX3_overrun_11 : decode cX3_overrun 11 = .ok (.if_icmp .ge 28, 3) := by decide +kernel
theorem dX3_overrun_14 : decode cX3_overrun 14 = .ok (.iload_n 1, 1) := by decide +kernel
theorem dX3_overrun_15 : decode cX3_overrun 15 = .ok (.aload_n 0, 1) := by decide +kernel
theorem dX3_overrun_16 : decode cX3_overrun 16 = .ok (.iload_n 2, 1) := by decide +kernel
theorem dX3_overrun_17 : decode cX3_overrun 17 = .ok (.iconst 4, 1) := by decide +kernel
theorem dX3_overrun_18 : decode cX3_overrun 18 = .ok (.invokevirtual 47, 3) := by decide +kernel
theorem dX3_overrun_21 : decode cX3_overrun 21 = .ok (.bipush (-9), 2) := by decide +kernel
theorem dX3_overrun_23 : decode cX3_overrun 23 = .ok (.if_icmp .eq 7, 3) := by decide +kernel
theorem dX3_overrun_26 : decode cX3_overrun 26 = .ok (.iconst 1, 1) := by decide +kernel
theorem dX3_overrun_27 : decode cX3_overrun 27 = .ok (.goto 4, 3) := by decide +kernel
theorem dX3_overrun_30 : decode cX3_overrun 30 = .ok (.iconst 0, 1) := by decide +kernel
theorem dX3_overrun_31 : decode cX3_overrun 31 = .ok (.iadd, 1) := by decide +kernel
theorem dX3_overrun_32 : decode cX3_overrun 32 = .ok (.istore_n 1, 1) := by decide +kernel
theorem dX3_overrun_33 : decode cX3_overrun 33 = .ok (.iinc 2 1, 3) := by decide +kernel
theorem dX3_overrun_36 : decode cX3_overrun 36 = .ok (.goto (-32), 3) := by decide +kernel
theorem dX3_overrun_39 : decode cX3_overrun 39 = .ok (.iload_n 1, 1) := by decide +kernel
theorem dX3_overrun_40 : decode cX3_overrun 40 = .ok (.ireturn, 1) := by decide +kernel
set_option maxRecDepth 20000 in
theorem ggX3_count_X3_in : GoodIn wsX3_count wsX3_in := goodIn_r _ [7] (by decide +kernel) (by decide +kernel)
set_option maxRecDepth 20000 in
theorem gX3_count_X3_in : GoodIn wsX3_count (va_wsS RX3 40 yX3_in wsX3_in) := goodIn_app (goodIn_of _ (by decide +kernel)) ggX3_count_X3_in
set_option maxRecDepth 20000 in
theorem ggX3_count_X3_overrun : GoodIn wsX3_count wsX3_overrun := goodIn_r _ [11, 1, 12, 13, 14, 6, 15, 16, 17, 18, 19, 20, 21, 22, 23, 24, 25, 26] (by decide +kernel) (by decide +kernel)
set_option maxRecDepth 20000 in
theorem gX3_count_X3_overrun : GoodIn wsX3_count (wsV RX3 109 RX3 yX3_overrun wsX3_overrun) := goodIn_app (goodIn_of _ (by decide +kernel)) ggX3_count_X3_overrun
theorem dX3_count_0 : decode cX3_count 0 = .ok (.iload_n 1, 1) := by decide +kernel
theorem dX3_count_1 : decode cX3_count 1 = .ok (.iconst 0, 1) := by decide +kernel
theorem dX3_count_2 : decode cX3_count 2 = .ok (.bipush 14, 2) := by decide +kernel
theorem dX3_count_4 : decode cX3_count 4 = .ok (.invokestatic 40, 3) := by decide +kernel
theorem dX3_count_7 : decode cX3_count 7 = .ok (.ifCond .eq 12, 3) := by decide +kernel
theorem dX3_count_10 : decode cX3_count 10 = .ok (.aload_n 0, 1) := by decide +kernel
theorem dX3_count_11 : decode cX3_count 11 = .ok (.getfield 7, 3) := by decide +kernel
theorem dX3_count_14 : decode cX3_count 14 = .ok (.iload_n 1, 1) := by decide +kernel
theorem dX3_count_15 : decode cX3_count 15 = .ok (.iaload, 1) := by decide +kernel
theorem dX3_count_16 : decode cX3_count 16 = .ok (.goto 43, 3) := by decide +kernel
theorem dX3_count_19 : decode cX3_count 19 = .ok (.iload_n 1, 1) := by decide +kernel
theorem dX3_count_20 : decode cX3_count 20 = .ok (.bipush 15, 2) := by decide +kernel
theorem dX3_count_22 : decode cX3_count 22 = .ok (.if_icmp .ne 10, 3) := by decide +kernel
theorem dX3_count_25 : decode cX3_count 25 = .ok (.aload_n 0, 1) := by decide +kernel
theorem dX3_count_26 : decode cX3_count 26 = .ok (.getfield 36, 3) := by decide +kernel
theorem dX3_count_29 : decode cX3_count 29 = .ok (.goto 30, 3) := by decide +kernel
theorem dX3_count_32 : decode cX3_count 32 = .ok (.iload_n 1, 1) := by decide +kernel
theorem dX3_count_33 : decode cX3_count 33 = .ok (.bipush 16, 2) := by decide +kernel
theorem dX3_count_35 : decode cX3_count 35 = .ok (.if_icmp .ne 10, 3) := by decide +kernel
theorem dX3_count_38 : decode cX3_count 38 = .ok (.aload_n 0, 1) := by decide +kernel
theorem dX3_count_39 : decode cX3_count 39 = .ok (.getfield 70, 3) := by decide +kernel
theorem dX3_count_42 : decode cX3_count 42 = .ok (.goto 17, 3) := by decide +kernel
theorem dX3_count_45 : decode cX3_count 45 = .ok (.iload_n 1, 1) := by decide +kernel
theorem dX3_count_46 : decode cX3_count 46 = .ok (.bipush 17, 2) := by decide +kernel
theorem dX3_count_48 : decode cX3_count 48 = .ok (.if_icmp .ne 10, 3) := by decide +kernel
theorem dX3_count_51 : decode cX3_count 51 = .ok (.aload_n 0, 1) := by decide +kernel
theorem dX3_count_52 : decode cX3_count 52 = .ok (.invokevirtual 109, 3) := by decide +kernel
theorem dX3_count_55 : decode cX3_count 55 = .ok (.goto 4, 3) := by decide +kernel
theorem dX3_count_58 : decode cX3_count 58 = .ok (.iconst (-1), 1) := by decide +kernel
theorem dX3_count_59 : decode cX3_count 59 = .ok (.ireturn, 1) := by decide +kernel
theorem dX3_isFrame_0 : decode cX3_isFrame 0 = .ok (.iload_n 1, 1) := by decide +kernel
theorem dX3_isFrame_1 : decode cX3_isFrame 1 = .ok (.ifCond .lt 17, 3) := by decide +kernel
theorem dX3_isFrame_4 : decode cX3_isFrame 4 = .ok (.iload_n 1, 1) := by decide +kernel
theorem dX3_isFrame_5 : decode cX3_isFrame 5 = .ok (.aload_n 0, 1) := by decide +kernel
theorem dX3_isFrame_6 : decode cX3_isFrame 6 = .ok (.getfield 7, 3) := by decide +kernel
theorem dX3_isFrame_9 : decode cX3_isFrame 9 = .ok (.iconst 0, 1) := by decide +kernel
theorem dX3_isFrame_10 : decode cX3_isFrame 10 = .ok (.iaload, 1) := by decide +kernel
theorem dX3_isFrame_11 : decode cX3_isFrame 11 = .ok (.if_icmp .ge 7, 3) := by decide +kernel
theorem dX3_isFrame_14 : decode cX3_isFrame 14 = .ok (.iconst 1, 1) := by decide +kernel
theorem dX3_isFrame_15 : decode cX3_isFrame 15 = .ok (.goto 4, 3) := by decide +kernel
theorem dX3_isFrame_18 : decode cX3_isFrame 18 = .ok (.iconst 0, 1) := by decide +kernel
theorem dX3_isFrame_19 : decode cX3_isFrame 19 = .ok (.ireturn, 1) := by decide +kernel
set_option maxRecDepth 20000 in
theorem ggX3_frame_X3_isFrame : GoodIn wsX3_frame wsX3_isFrame := goodIn_r _ [6, 1, 14, 15, 16, 17, 18, 19, 20, 21, 22, 23, 24] (by decide +kernel) (by decide +kernel)
set_option maxRecDepth 20000 in
theorem gX3_frame_X3_isFrame : GoodIn wsX3_frame (wsV RX3 112 RX3 yX3_isFrame wsX3_isFrame) := goodIn_app (goodIn_of _ (by decide +kernel)) ggX3_frame_X3_isFrame
set_option maxRecDepth 20000 in
theorem ggX3_frame_X3_in : GoodIn wsX3_frame wsX3_in := goodIn_r _ [9] (by decide +kernel) (by decide +kernel)
set_option maxRecDepth 20000 in
theorem gX3_frame_X3_in : GoodIn wsX3_frame (va_wsS RX3 40 yX3_in wsX3_in) := goodIn_app (goodIn_of _ (by decide +kernel)) ggX3_frame_X3_in
set_option maxRecDepth 20000 in
theorem ggX3_frame_X3_ofFrame : GoodIn wsX3_frame wsX3_ofFrame := goodIn_r _ [13, 1, 14, 15, 16, 17, 18, 19, 20, 21, 22, 23, 24] (by decide +kernel) (by decide +kernel)
set_option maxRecDepth 20000 in
theorem gX3_frame_X3_ofFrame : GoodIn wsX3_frame (wsV RX3 47 RX3 yX3_ofFrame wsX3_ofFrame) := goodIn_app (goodIn_of _ (by decide +kernel)) ggX3_frame_X3_ofFrame
theorem dX3_frame_0 : decode cX3_frame 0 = .ok (.aload_n 0, 1) := by decide +kernel
theorem dX3_frame_1 : decode cX3_frame 1 = .ok (.iload_n 1, 1) := by decide +kernel
theorem dX3_frame_2 : decode cX3_frame 2 = .ok (.invokevirtual 112, 3) := by decide +kernel
theorem dX3_frame_5 : decode cX3_frame 5 = .ok (.ifCond .eq 30, 3) := by decide +kernel
theorem dX3_frame_8 : decode cX3_frame 8 = .ok (.iload_n 2, 1) := by decide +kernel
theorem dX3_frame_9 : decode cX3_frame 9 = .ok (.iconst 0, 1) := by decide +kernel
theorem dX3_frame_10 : decode cX3_frame 10 = .ok (.iconst 4, 1) := by decide +kernel
theorem dX3_frame_11 : decode cX3_frame 11 = .ok (.invokestatic 40, 3) := by decide +kernel
theorem dX3_frame_14 : decode cX3_frame 14 = .ok (.ifCond .eq 21, 3) := by decide +kernel
theorem dX3_frame_17 : decode cX3_frame 17 = .ok (.aload_n 0, 1) := by decide +kernel
theorem dX3_frame_18 : decode cX3_frame 18 = .ok (.aload_n 0, 1) := by decide +kernel
theorem dX3_frame_19 : decode cX3_frame 19 = .ok (.getfield 7, 3) := by decide +kernel
theorem dX3_frame_22 : decode cX3_frame 22 = .ok (.iconst 0, 1) := by decide +kernel
theorem dX3_frame_23 : decode cX3_frame 23 = .ok (.iaload, 1) := by decide +kernel
theorem dX3_frame_24 : decode cX3_frame 24 = .ok (.iconst 1, 1) := by decide +kernel
theorem dX3_frame_25 : decode cX3_frame 25 = .ok (.isub, 1) := by decide +kernel
theorem dX3_frame_26 : decode cX3_frame 26 = .ok (.iload_n 1, 1) := by decide +kernel
theorem dX3_frame_27 : decode cX3_frame 27 = .ok (.isub, 1) := by decide +kernel
theorem dX3_frame_28 : decode cX3_frame 28 = .ok (.iload_n 2, 1) := by decide +kernel
theorem dX3_frame_29 : decode cX3_frame 29 = .ok (.invokevirtual 47, 3) := by decide +kernel
theorem dX3_frame_32 : decode cX3_frame 32 = .ok (.goto 4, 3) := by decide +kernel
theorem dX3_frame_35 : decode cX3_frame 35 = .ok (.iconst (-1), 1) := by decide +kernel
theorem dX3_frame_36 : decode cX3_frame 36 = .ok (.ireturn, 1) := by decide +kernel
set_option maxRecDepth 20000 in
theorem ggX3_slot_X3_in : GoodIn wsX3_slot wsX3_in := goodIn_r _ [5] (by decide +kernel) (by decide +kernel)
set_option maxRecDepth 20000 in
theorem gX3_slot_X3_in : GoodIn wsX3_slot (va_wsS RX3 40 yX3_in wsX3_in) := goodIn_app (goodIn_of _ (by decide +kernel)) ggX3_slot_X3_in
set_option maxRecDepth 20000 in
theorem ggX3_slot_X3_ofSlot : GoodIn wsX3_slot wsX3_ofSlot := goodIn_r _ [9, 1, 10, 11, 12, 13, 14, 15, 16, 17, 18, 19, 20] (by decide +kernel) (by decide +kernel)
set_option maxRecDepth 20000 in
theorem gX3_slot_X3_ofSlot : GoodIn wsX3_slot (wsV RX3 55 RX3 yX3_ofSlot wsX3_ofSlot) := goodIn_app (goodIn_of _ (by decide +kernel)) ggX3_slot_X3_ofSlot
theorem dX3_slot_0 : decode cX3_slot 0 = .ok (.iload_n 1, 1) := by decide +kernel
theorem dX3_slot_1 : decode cX3_slot 1 = .ok (.ifCond .lt 32, 3) := by decide +kernel
theorem dX3_slot_4 : decode cX3_slot 4 = .ok (.iload_n 1, 1) := by decide +kernel
theorem dX3_slot_5 : decode cX3_slot 5 = .ok (.aload_n 0, 1) := by decide +kernel
theorem dX3_slot_6 : decode cX3_slot 6 = .ok (.getfield 7, 3) := by decide +kernel
theorem dX3_slot_9 : decode cX3_slot 9 = .ok (.bipush 11, 2) := by decide +kernel
theorem dX3_slot_11 : decode cX3_slot 11 = .ok (.iaload, 1) := by decide +kernel
theorem dX3_slot_12 : decode cX3_slot 12 = .ok (.if_icmp .ge 21, 3) := by decide +kernel
theorem dX3_slot_15 : decode cX3_slot 15 = .ok (.iload_n 2, 1) := by decide +kernel
theorem dX3_slot_16 : decode cX3_slot 16 = .ok (.iconst 0, 1) := by decide +kernel
theorem dX3_slot_17 : decode cX3_slot 17 = .ok (.iconst 2, 1) := by decide +kernel
theorem dX3_slot_18 : decode cX3_slot 18 = .ok (.invokestatic 40, 3) := by decide +kernel
theorem dX3_slot_21 : decode cX3_slot 21 = .ok (.ifCond .eq 12, 3) := by decide +kernel
theorem dX3_slot_24 : decode cX3_slot 24 = .ok (.aload_n 0, 1) := by decide +kernel
theorem dX3_slot_25 : decode cX3_slot 25 = .ok (.iload_n 1, 1) := by decide +kernel
theorem dX3_slot_26 : decode cX3_slot 26 = .ok (.iload_n 2, 1) := by decide +kernel
theorem dX3_slot_27 : decode cX3_slot 27 = .ok (.invokevirtual 55, 3) := by decide +kernel
theorem dX3_slot_30 : decode cX3_slot 30 = .ok (.goto 4, 3) := by decide +kernel
theorem dX3_slot_33 : decode cX3_slot 33 = .ok (.iconst (-1), 1) := by decide +kernel
theorem dX3_slot_34 : decode cX3_slot 34 = .ok (.ireturn, 1) := by decide +kernel
set_option maxRecDepth 20000 in
theorem ggX3_confession_X3_in : GoodIn wsX3_confession wsX3_in := goodIn_r _ [5] (by decide +kernel) (by decide +kernel)
set_option maxRecDepth 20000 in
theorem gX3_confession_X3_in : GoodIn wsX3_confession (va_wsS RX3 40 yX3_in wsX3_in) := goodIn_app (goodIn_of _ (by decide +kernel)) ggX3_confession_X3_in
theorem dX3_confession_0 : decode cX3_confession 0 = .ok (.iload_n 1, 1) := by decide +kernel
theorem dX3_confession_1 : decode cX3_confession 1 = .ok (.ifCond .lt 12, 3) := by decide +kernel
theorem dX3_confession_4 : decode cX3_confession 4 = .ok (.iload_n 2, 1) := by decide +kernel
theorem dX3_confession_5 : decode cX3_confession 5 = .ok (.iconst 0, 1) := by decide +kernel
theorem dX3_confession_6 : decode cX3_confession 6 = .ok (.iconst 5, 1) := by decide +kernel
theorem dX3_confession_7 : decode cX3_confession 7 = .ok (.invokestatic 40, 3) := by decide +kernel
theorem dX3_confession_10 : decode cX3_confession 10 = .ok (.ifCond .ne 5, 3) := by decide +kernel
theorem dX3_confession_13 : decode cX3_confession 13 = .ok (.iconst (-1), 1) := by decide +kernel
theorem dX3_confession_14 : decode cX3_confession 14 = .ok (.ireturn, 1) := by decide +kernel
theorem dX3_confession_15 : decode cX3_confession 15 = .ok (.iload_n 1, 1) := by decide +kernel
theorem dX3_confession_16 : decode cX3_confession 16 = .ok (.aload_n 0, 1) := by decide +kernel
theorem dX3_confession_17 : decode cX3_confession 17 = .ok (.getfield 7, 3) := by decide +kernel
theorem dX3_confession_20 : decode cX3_confession 20 = .ok (.bipush 10, 2) := by decide +kernel
theorem dX3_confession_22 : decode cX3_confession 22 = .ok (.iaload, 1) := by decide +kernel
theorem dX3_confession_23 : decode cX3_confession 23 = .ok (.if_icmp .ge 31, 3) := by decide +kernel
theorem dX3_confession_26 : decode cX3_confession 26 = .ok (.aload_n 0, 1) := by decide +kernel
theorem dX3_confession_27 : decode cX3_confession 27 = .ok (.getfield 7, 3) := by decide +kernel
theorem dX3_confession_30 : decode cX3_confession 30 = .ok (.sipush 263, 3) := by decide +kernel
theorem dX3_confession_33 : decode cX3_confession 33 = .ok (.bipush 6, 2) := by decide +kernel
theorem dX3_confession_35 : decode cX3_confession 35 = .ok (.aload_n 0, 1) := by decide +kernel
theorem dX3_confession_36 : decode cX3_confession 36 = .ok (.getfield 7, 3) := by decide +kernel
theorem dX3_confession_39 : decode cX3_confession 39 = .ok (.bipush 10, 2) := by decide +kernel
theorem dX3_confession_41 : decode cX3_confession 41 = .ok (.iaload, 1) := by decide +kernel
theorem dX3_confession_42 : decode cX3_confession 42 = .ok (.iconst 1, 1) := by decide +kernel
theorem dX3_confession_43 : decode cX3_confession 43 = .ok (.isub, 1) := by decide +kernel
theorem dX3_confession_44 : decode cX3_confession 44 = .ok (.iload_n 1, 1) := by decide +kernel
theorem dX3_confession_45 : decode cX3_confession 45 = .ok (.isub, 1) := by decide +kernel
theorem dX3_confession_46 : decode cX3_confession 46 = .ok (.imul, 1) := by decide +kernel
theorem dX3_confession_47 : decode cX3_confession 47 = .ok (.iadd, 1) := by decide +kernel
theorem dX3_confession_48 : decode cX3_confession 48 = .ok (.iload_n 2, 1) := by decide +kernel
theorem dX3_confession_49 : decode cX3_confession 49 = .ok (.iadd, 1) := by decide +kernel
theorem dX3_confession_50 : decode cX3_confession 50 = .ok (.iaload, 1) := by decide +kernel
theorem dX3_confession_51 : decode cX3_confession 51 = .ok (.goto 5, 3) := by decide +kernel
theorem dX3_confession_54 : decode cX3_confession 54 = .ok (.bipush (-9), 2) := by decide +kernel
theorem dX3_confession_56 : decode cX3_confession 56 = .ok (.ireturn, 1) := by decide +kernel
theorem dX3_named_0 : decode cX3_named 0 = .ok (.iload_n 1, 1) := by decide +kernel
theorem dX3_named_1 : decode cX3_named 1 = .ok (.ifCond .lt 26, 3) := by decide +kernel
theorem dX3_named_4 : decode cX3_named 4 = .ok (.iload_n 1, 1) := by decide +kernel
theorem dX3_named_5 : decode cX3_named 5 = .ok (.aload_n 0, 1) := by decide +kernel
theorem dX3_named_6 : decode cX3_named 6 = .ok (.getfield 7, 3) := by decide +kernel
theorem dX3_named_9 : decode cX3_named 9 = .ok (.iconst 2, 1) := by decide +kernel
theorem dX3_named_10 : decode cX3_named 10 = .ok (.iaload, 1) := by decide +kernel
theorem dX3_named_11 : decode cX3_named 11 = .ok (.if_icmp .ge 16, 3) := by decide +kernel
theorem dX3_named_14 : decode cX3_named 14 = .ok (.aload_n 0, 1) := by decide +kernel
theorem dX3_named_15 : decode cX3_named 15 = .ok (.getfield 7, 3) := by decide +kernel
theorem dX3_named_18 : decode cX3_named 18 = .ok (.sipush 735, 3) := by decide +kernel
theorem dX3_named_21 : decode cX3_named 21 = .ok (.iload_n 1, 1) := by decide +kernel
theorem dX3_named_22 : decode cX3_named 22 = .ok (.iadd, 1) := by decide +kernel
theorem dX3_named_23 : decode cX3_named 23 = .ok (.iaload, 1) := by decide +kernel
theorem dX3_named_24 : decode cX3_named 24 = .ok (.goto 4, 3) := by decide +kernel
theorem dX3_named_27 : decode cX3_named 27 = .ok (.iconst (-1), 1) := by decide +kernel
theorem dX3_named_28 : decode cX3_named 28 = .ok (.ireturn, 1) := by decide +kernel
theorem dX3_worst_0 : decode cX3_worst 0 = .ok (.bipush (-9), 2) := by decide +kernel
theorem dX3_worst_2 : decode cX3_worst 2 = .ok (.istore_n 1, 1) := by decide +kernel
theorem dX3_worst_3 : decode cX3_worst 3 = .ok (.iconst 0, 1) := by decide +kernel
theorem dX3_worst_4 : decode cX3_worst 4 = .ok (.istore_n 2, 1) := by decide +kernel
theorem dX3_worst_5 : decode cX3_worst 5 = .ok (.iconst 0, 1) := by decide +kernel
theorem dX3_worst_6 : decode cX3_worst 6 = .ok (.istore_n 3, 1) := by decide +kernel
theorem dX3_worst_7 : decode cX3_worst 7 = .ok (.iload_n 3, 1) := by decide +kernel
theorem dX3_worst_8 : decode cX3_worst 8 = .ok (.aload_n 0, 1) := by decide +kernel
theorem dX3_worst_9 : decode cX3_worst 9 = .ok (.getfield 7, 3) := by decide +kernel
theorem dX3_worst_12 : decode cX3_worst 12 = .ok (.iconst 2, 1) := by decide +kernel
theorem dX3_worst_13 : decode cX3_worst 13 = .ok (.iaload, 1) := by decide +kernel
theorem dX3_worst_14 : decode cX3_worst 14 = .ok (.if_icmp .ge 58, 3) := by decide +kernel
theorem dX3_worst_17 : decode cX3_worst 17 = .ok (.aload_n 0, 1) := by decide +kernel
theorem dX3_worst_18 : decode cX3_worst 18 = .ok (.getfield 7, 3) := by decide +kernel
theorem dX3_worst_21 : decode cX3_worst 21 = .ok (.sipush 735, 3) := by decide +kernel
theorem dX3_worst_24 : decode cX3_worst 24 = .ok (.iload_n 3, 1) := by decide +kernel
theorem dX3_worst_25 : decode cX3_worst 25 = .ok (.iadd, 1) := by decide +kernel
theorem dX3_worst_26 : decode cX3_worst 26 = .ok (.iaload, 1) := by decide +kernel
theorem dX3_worst_27 : decode cX3_worst 27 = .ok (.iload_n 2, 1) := by decide +kernel
theorem dX3_worst_28 : decode cX3_worst 28 = .ok (.if_icmp .le 7, 3) := by decide +kernel
theorem dX3_worst_31 : decode cX3_worst 31 = .ok (.iload_n 3, 1) := by decide +kernel
theorem dX3_worst_32 : decode cX3_worst 32 = .ok (.goto 4, 3) := by decide +kernel
theorem dX3_worst_35 : decode cX3_worst 35 = .ok (.iload_n 1, 1) := by decide +kernel
theorem dX3_worst_36 : decode cX3_worst 36 = .ok (.istore_n 1, 1) := by decide +kernel
theorem dX3_worst_37 : decode cX3_worst 37 = .ok (.aload_n 0, 1) := by decide +kernel
theorem dX3_worst_38 : decode cX3_worst 38 = .ok (.getfield 7, 3) := by decide +kernel
theorem dX3_worst_41 : decode cX3_worst 41 = .ok (.sipush 735, 3) := by decide +kernel
theorem dX3_worst_44 : decode cX3_worst 44 = .ok (.iload_n 3, 1) := by decide +kernel
theorem dX3_worst_45 : decode cX3_worst 45 = .ok (.iadd, 1) := by decide +kernel
theorem dX3_worst_46 : decode cX3_worst 46 = .ok (.iaload, 1) := by decide +kernel
theorem dX3_worst_47 : decode cX3_worst 47 = .ok (.iload_n 2, 1) := by decide +kernel
theorem dX3_worst_48 : decode cX3_worst 48 = .ok (.if_icmp .le 16, 3) := by decide +kernel
theorem dX3_worst_51 : decode cX3_worst 51 = .ok (.aload_n 0, 1) := by decide +kernel
theorem dX3_worst_52 : decode cX3_worst 52 = .ok (.getfield 7, 3) := by decide +kernel
theorem dX3_worst_55 : decode cX3_worst 55 = .ok (.sipush 735, 3) := by decide +kernel
theorem dX3_worst_58 : decode cX3_worst 58 = .ok (.iload_n 3, 1) := by decide +kernel
theorem dX3_worst_59 : decode cX3_worst 59 = .ok (.iadd, 1) := by decide +kernel
theorem dX3_worst_60 : decode cX3_worst 60 = .ok (.iaload, 1) := by decide +kernel
theorem dX3_worst_61 : decode cX3_worst 61 = .ok (.goto 4, 3) := by decide +kernel
theorem dX3_worst_64 : decode cX3_worst 64 = .ok (.iload_n 2, 1) := by decide +kernel
theorem dX3_worst_65 : decode cX3_worst 65 = .ok (.istore_n 2, 1) := by decide +kernel
theorem dX3_worst_66 : decode cX3_worst 66 = .ok (.iinc 3 1, 3) := by decide +kernel
theorem dX3_worst_69 : decode cX3_worst 69 = .ok (.goto (-62), 3) := by decide +kernel
theorem dX3_worst_72 : decode cX3_worst 72 = .ok (.iload_n 1, 1) := by decide +kernel
theorem dX3_worst_73 : decode cX3_worst 73 = .ok (.ireturn, 1) := by decide +kernel
set_option maxRecDepth 20000 in
theorem ggX3_ahead_X3_in : GoodIn wsX3_ahead wsX3_in := goodIn_r _ [5] (by decide +kernel) (by decide +kernel)
set_option maxRecDepth 20000 in
theorem gX3_ahead_X3_in : GoodIn wsX3_ahead (va_wsS RX3 40 yX3_in wsX3_in) := goodIn_app (goodIn_of _ (by decide +kernel)) ggX3_ahead_X3_in
set_option maxRecDepth 20000 in
theorem ggX3_ahead_X3_back : GoodIn wsX3_ahead wsX3_back := goodIn_r _ [8] (by decide +kernel) (by decide +kernel)
set_option maxRecDepth 20000 in
theorem gX3_ahead_X3_back : GoodIn wsX3_ahead (va_wsS RX3 66 yX3_back wsX3_back) := goodIn_app (goodIn_of _ (by decide +kernel)) ggX3_ahead_X3_back
set_option maxRecDepth 20000 in
theorem ggX3_ahead_X3_ofSlot : GoodIn wsX3_ahead wsX3_ofSlot := goodIn_r _ [12, 1, 17, 18, 19, 20, 21, 22, 23, 24, 25, 26, 27] (by decide +kernel) (by decide +kernel)
set_option maxRecDepth 20000 in
theorem gX3_ahead_X3_ofSlot : GoodIn wsX3_ahead (wsV RX3 55 RX3 yX3_ofSlot wsX3_ofSlot) := goodIn_app (goodIn_of _ (by decide +kernel)) ggX3_ahead_X3_ofSlot
set_option maxRecDepth 20000 in
theorem ggX3_ahead_X3_ofFrame : GoodIn wsX3_ahead wsX3_ofFrame := goodIn_r _ [16, 1, 17, 18, 19, 20, 21, 22, 23, 24, 25, 26, 27] (by decide +kernel) (by decide +kernel)
set_option maxRecDepth 20000 in
theorem gX3_ahead_X3_ofFrame : GoodIn wsX3_ahead (wsV RX3 47 RX3 yX3_ofFrame wsX3_ofFrame) := goodIn_app (goodIn_of _ (by decide +kernel)) ggX3_ahead_X3_ofFrame
theorem dX3_ahead_0 : decode cX3_ahead 0 = .ok (.iload_n 1, 1) := by decide +kernel
theorem dX3_ahead_1 : decode cX3_ahead 1 = .ok (.iconst 1, 1) := by decide +kernel
theorem dX3_ahead_2 : decode cX3_ahead 2 = .ok (.bipush 40, 2) := by decide +kernel
theorem dX3_ahead_4 : decode cX3_ahead 4 = .ok (.invokestatic 40, 3) := by decide +kernel
theorem dX3_ahead_7 : decode cX3_ahead 7 = .ok (.ifCond .eq 12, 3) := by decide +kernel
theorem dX3_ahead_10 : decode cX3_ahead 10 = .ok (.iload_n 2, 1) := by decide +kernel
theorem dX3_ahead_11 : decode cX3_ahead 11 = .ok (.iconst 0, 1) := by decide +kernel
theorem dX3_ahead_12 : decode cX3_ahead 12 = .ok (.iconst 1, 1) := by decide +kernel
theorem dX3_ahead_13 : decode cX3_ahead 13 = .ok (.invokestatic 40, 3) := by decide +kernel
theorem dX3_ahead_16 : decode cX3_ahead 16 = .ok (.ifCond .ne 5, 3) := by decide +kernel
theorem dX3_ahead_19 : decode cX3_ahead 19 = .ok (.iconst (-1), 1) := by decide +kernel
theorem dX3_ahead_20 : decode cX3_ahead 20 = .ok (.ireturn, 1) := by decide +kernel
theorem dX3_ahead_21 : decode cX3_ahead 21 = .ok (.aload_n 0, 1) := by decide +kernel
theorem dX3_ahead_22 : decode cX3_ahead 22 = .ok (.getfield 7, 3) := by decide +kernel
theorem dX3_ahead_25 : decode cX3_ahead 25 = .ok (.iconst 0, 1) := by decide +kernel
theorem dX3_ahead_26 : decode cX3_ahead 26 = .ok (.iaload, 1) := by decide +kernel
theorem dX3_ahead_27 : decode cX3_ahead 27 = .ok (.iload_n 1, 1) := by decide +kernel
theorem dX3_ahead_28 : decode cX3_ahead 28 = .ok (.if_icmp .ge 6, 3) := by decide +kernel
theorem dX3_ahead_31 : decode cX3_ahead 31 = .ok (.bipush (-2), 2) := by decide +kernel
theorem dX3_ahead_33 : decode cX3_ahead 33 = .ok (.ireturn, 1) := by decide +kernel
theorem dX3_ahead_34 : decode cX3_ahead 34 = .ok (.iconst 0, 1) := by decide +kernel
theorem dX3_ahead_35 : decode cX3_ahead 35 = .ok (.istore_n 3, 1) := by decide +kernel
theorem dX3_ahead_36 : decode cX3_ahead 36 = .ok (.iconst 0, 1) := by decide +kernel
theorem dX3_ahead_37 : decode cX3_ahead 37 = .ok (.istore 4, 2) := by decide +kernel
theorem dX3_ahead_39 : decode cX3_ahead 39 = .ok (.iload 4, 2) := by decide +kernel
theorem dX3_ahead_41 : decode cX3_ahead 41 = .ok (.iload_n 1, 1) := by decide +kernel
theorem dX3_ahead_42 : decode cX3_ahead 42 = .ok (.if_icmp .ge 60, 3) := by decide +kernel
theorem dX3_ahead_45 : decode cX3_ahead 45 = .ok (.iload_n 3, 1) := by decide +kernel
theorem dX3_ahead_46 : decode cX3_ahead 46 = .ok (.aload_n 0, 1) := by decide +kernel
theorem dX3_ahead_47 : decode cX3_ahead 47 = .ok (.aload_n 0, 1) := by decide +kernel
theorem dX3_ahead_48 : decode cX3_ahead 48 = .ok (.getfield 7, 3) := by decide +kernel
theorem dX3_ahead_51 : decode cX3_ahead 51 = .ok (.bipush 12, 2) := by decide +kernel
theorem dX3_ahead_53 : decode cX3_ahead 53 = .ok (.iaload, 1) := by decide +kernel
theorem dX3_ahead_54 : decode cX3_ahead 54 = .ok (.iload 4, 2) := by decide +kernel
theorem dX3_ahead_56 : decode cX3_ahead 56 = .ok (.aload_n 0, 1) := by decide +kernel
theorem dX3_ahead_57 : decode cX3_ahead 57 = .ok (.getfield 7, 3) := by decide +kernel
theorem dX3_ahead_60 : decode cX3_ahead 60 = .ok (.bipush 11, 2) := by decide +kernel
theorem dX3_ahead_62 : decode cX3_ahead 62 = .ok (.iaload, 1) := by decide +kernel
theorem dX3_ahead_63 : decode cX3_ahead 63 = .ok (.invokestatic 66, 3) := by decide +kernel
theorem dX3_ahead_66 : decode cX3_ahead 66 = .ok (.iconst 1, 1) := by decide +kernel
theorem dX3_ahead_67 : decode cX3_ahead 67 = .ok (.invokevirtual 55, 3) := by decide +kernel
theorem dX3_ahead_70 : decode cX3_ahead 70 = .ok (.aload_n 0, 1) := by decide +kernel
theorem dX3_ahead_71 : decode cX3_ahead 71 = .ok (.aload_n 0, 1) := by decide +kernel
theorem dX3_ahead_72 : decode cX3_ahead 72 = .ok (.getfield 7, 3) := by decide +kernel
theorem dX3_ahead_75 : decode cX3_ahead 75 = .ok (.iconst 0, 1) := by decide +kernel
theorem dX3_ahead_76 : decode cX3_ahead 76 = .ok (.iaload, 1) := by decide +kernel
theorem dX3_ahead_77 : decode cX3_ahead 77 = .ok (.iconst 1, 1) := by decide +kernel
theorem dX3_ahead_78 : decode cX3_ahead 78 = .ok (.isub, 1) := by decide +kernel
theorem dX3_ahead_79 : decode cX3_ahead 79 = .ok (.iload 4, 2) := by decide +kernel
theorem dX3_ahead_81 : decode cX3_ahead 81 = .ok (.isub, 1) := by decide +kernel
theorem dX3_ahead_82 : decode cX3_ahead 82 = .ok (.iconst 2, 1) := by decide +kernel
theorem dX3_ahead_83 : decode cX3_ahead 83 = .ok (.invokevirtual 47, 3) := by decide +kernel
theorem dX3_ahead_86 : decode cX3_ahead 86 = .ok (.if_icmp .ne 7, 3) := by decide +kernel
theorem dX3_ahead_89 : decode cX3_ahead 89 = .ok (.iconst 1, 1) := by decide +kernel
theorem dX3_ahead_90 : decode cX3_ahead 90 = .ok (.goto 4, 3) := by decide +kernel
theorem dX3_ahead_93 : decode cX3_ahead 93 = .ok (.iconst 0, 1) := by decide +kernel
theorem dX3_ahead_94 : decode cX3_ahead 94 = .ok (.iadd, 1) := by decide +kernel
theorem dX3_ahead_95 : decode cX3_ahead 95 = .ok (.istore_n 3, 1) := by decide +kernel
theorem dX3_ahead_96 : decode cX3_ahead 96 = .ok (.iinc 4 1, 3) := by decide +kernel
theorem dX3_ahead_99 : decode cX3_ahead 99 = .ok (.goto (-60), 3) := by decide +kernel
theorem dX3_ahead_102 : decode cX3_ahead 102 = .ok (.iload_n 2, 1) := by decide +kernel
theorem dX3_ahead_103 : decode cX3_ahead 103 = .ok (.ifCond .ne 7, 3) := by decide +kernel
theorem dX3_ahead_106 : decode cX3_ahead 106 = .ok (.iload_n 3, 1) := by decide +kernel
theorem dX3_ahead_107 : decode cX3_ahead 107 = .ok (.goto 6, 3) := by decide +kernel
theorem dX3_ahead_110 : decode cX3_ahead 110 = .ok (.iload_n 1, 1) := by decide +kernel
theorem dX3_ahead_111 : decode cX3_ahead 111 = .ok (.iload_n 3, 1) := by decide +kernel
theorem dX3_ahead_112 : decode cX3_ahead 112 = .ok (.isub, 1) := by decide +kernel
theorem dX3_ahead_113 : decode cX3_ahead 113 = .ok (.ireturn, 1) := by decide +kernel
set_option maxRecDepth 20000 in
theorem ggX3_misses_X3_back : GoodIn wsX3_misses wsX3_back := goodIn_r _ [7] (by decide +kernel) (by decide +kernel)
set_option maxRecDepth 20000 in
theorem gX3_misses_X3_back : GoodIn wsX3_misses (va_wsS RX3 66 yX3_back wsX3_back) := goodIn_app (goodIn_of _ (by decide +kernel)) ggX3_misses_X3_back
theorem dX3_misses_0 : decode cX3_misses 0 = .ok (.iconst 0, 1) := by decide +kernel
theorem dX3_misses_1 : decode cX3_misses 1 = .ok (.istore_n 2, 1) := by decide +kernel
theorem dX3_misses_2 : decode cX3_misses 2 = .ok (.iload_n 2, 1) := by decide +kernel
theorem dX3_misses_3 : decode cX3_misses 3 = .ok (.bipush 16, 2) := by decide +kernel
theorem dX3_misses_5 : decode cX3_misses 5 = .ok (.if_icmp .ge 17, 3) := by decide +kernel
theorem dX3_misses_8 : decode cX3_misses 8 = .ok (.aload_n 0, 1) := by decide +kernel
theorem dX3_misses_9 : decode cX3_misses 9 = .ok (.getfield 22, 3) := by decide +kernel
theorem dX3_misses_12 : decode cX3_misses 12 = .ok (.iload_n 2, 1) := by decide +kernel
theorem dX3_misses_13 : decode cX3_misses 13 = .ok (.bipush (-9), 2) := by decide +kernel
theorem dX3_misses_15 : decode cX3_misses 15 = .ok (.iastore, 1) := by decide +kernel
theorem dX3_misses_16 : decode cX3_misses 16 = .ok (.iinc 2 1, 3) := by decide +kernel
theorem dX3_misses_19 : decode cX3_misses 19 = .ok (.goto (-17), 3) := by decide +kernel
theorem dX3_misses_22 : decode cX3_misses 22 = .ok (.iload_n 1, 1) := by decide +kernel
theorem dX3_misses_23 : decode cX3_misses 23 = .ok (.iconst 1, 1) := by decide +kernel
theorem dX3_misses_24 : decode cX3_misses 24 = .ok (.isub, 1) := by decide +kernel
theorem dX3_misses_25 : decode cX3_misses 25 = .ok (.istore_n 2, 1) := by decide +kernel
theorem dX3_misses_26 : decode cX3_misses 26 = .ok (.iconst 0, 1) := by decide +kernel
theorem dX3_misses_27 : decode cX3_misses 27 = .ok (.istore_n 3, 1) := by decide +kernel
theorem dX3_misses_28 : decode cX3_misses 28 = .ok (.iconst 0, 1) := by decide +kernel
theorem dX3_misses_29 : decode cX3_misses 29 = .ok (.istore 4, 2) := by decide +kernel
theorem dX3_misses_31 : decode cX3_misses 31 = .ok (.iconst 0, 1) := by decide +kernel
theorem dX3_misses_32 : decode cX3_misses 32 = .ok (.istore 5, 2) := by decide +kernel
theorem dX3_misses_34 : decode cX3_misses 34 = .ok (.iload 5, 2) := by decide +kernel
theorem dX3_misses_36 : decode cX3_misses 36 = .ok (.aload_n 0, 1) := by decide +kernel
theorem dX3_misses_37 : decode cX3_misses 37 = .ok (.getfield 7, 3) := by decide +kernel
theorem dX3_misses_40 : decode cX3_misses 40 = .ok (.iconst 1, 1) := by decide +kernel
theorem dX3_misses_41 : decode cX3_misses 41 = .ok (.iaload, 1) := by decide +kernel
theorem dX3_misses_42 : decode cX3_misses 42 = .ok (.if_icmp .ge 152, 3) := by decide +kernel
theorem dX3_misses_45 : decode cX3_misses 45 = .ok (.aload_n 0, 1) := by decide +kernel
theorem dX3_misses_46 : decode cX3_misses 46 = .ok (.getfield 7, 3) := by decide +kernel
theorem dX3_misses_49 : decode cX3_misses 49 = .ok (.sipush 335, 3) := by decide +kernel
theorem dX3_misses_52 : decode cX3_misses 52 = .ok (.iconst 2, 1) := by decide +kernel
theorem dX3_misses_53 : decode cX3_misses 53 = .ok (.iload 5, 2) := by decide +kernel
theorem dX3_misses_55 : decode cX3_misses 55 = .ok (.imul, 1) := by decide +kernel
theorem dX3_misses_56 : decode cX3_misses 56 = .ok (.iadd, 1) := by decide +kernel
theorem dX3_misses_57 : decode cX3_misses 57 = .ok (.iaload, 1) := by decide +kernel
theorem dX3_misses_58 : decode cX3_misses 58 = .ok (.istore 6, 2) := by decide +kernel
theorem dX3_misses_60 : decode cX3_misses 60 = .ok (.aload_n 0, 1) := by decide +kernel
theorem dX3_misses_61 : decode cX3_misses 61 = .ok (.getfield 7, 3) := by decide +kernel
theorem dX3_misses_64 : decode cX3_misses 64 = .ok (.sipush 335, 3) := by decide +kernel
theorem dX3_misses_67 : decode cX3_misses 67 = .ok (.iconst 2, 1) := by decide +kernel
theorem dX3_misses_68 : decode cX3_misses 68 = .ok (.iload 5, 2) := by decide +kernel
theorem dX3_misses_70 : decode cX3_misses 70 = .ok (.imul, 1) := by decide +kernel
theorem dX3_misses_71 : decode cX3_misses 71 = .ok (.iadd, 1) := by decide +kernel
theorem dX3_misses_72 : decode cX3_misses 72 = .ok (.iconst 1, 1) := by decide +kernel
theorem dX3_misses_73 : decode cX3_misses 73 = .ok (.iadd, 1) := by decide +kernel
theorem dX3_misses_74 : decode cX3_misses 74 = .ok (.iaload, 1) := by decide +kernel
theorem dX3_misses_75 : decode cX3_misses 75 = .ok (.istore 7, 2) := by decide +kernel
theorem dX3_misses_77 : decode cX3_misses 77 = .ok (.iload 6, 2) := by decide +kernel
theorem dX3_misses_79 : decode cX3_misses 79 = .ok (.ifCond .ne 31, 3) := by decide +kernel
theorem dX3_misses_82 : decode cX3_misses 82 = .ok (.iload_n 2, 1) := by decide +kernel
theorem dX3_misses_83 : decode cX3_misses 83 = .ok (.iconst 1, 1) := by decide +kernel
theorem dX3_misses_84 : decode cX3_misses 84 = .ok (.iadd, 1) := by decide +kernel
theorem dX3_misses_85 : decode cX3_misses 85 = .ok (.iload_n 1, 1) := by decide +kernel
theorem dX3_misses_86 : decode cX3_misses 86 = .ok (.irem, 1) := by decide +kernel
theorem dX3_misses_87 : decode cX3_misses 87 = .ok (.istore_n 2, 1) := by decide +kernel
theorem dX3_misses_88 : decode cX3_misses 88 = .ok (.aload_n 0, 1) := by decide +kernel
theorem dX3_misses_89 : decode cX3_misses 89 = .ok (.getfield 22, 3) := by decide +kernel
theorem dX3_misses_92 : decode cX3_misses 92 = .ok (.iload_n 2, 1) := by decide +kernel
theorem dX3_misses_93 : decode cX3_misses 93 = .ok (.iload 7, 2) := by decide +kernel
theorem dX3_misses_95 : decode cX3_misses 95 = .ok (.iastore, 1) := by decide +kernel
theorem dX3_misses_96 : decode cX3_misses 96 = .ok (.aload_n 0, 1) := by decide +kernel
theorem dX3_misses_97 : decode cX3_misses 97 = .ok (.getfield 25, 3) := by decide +kernel
theorem dX3_misses_100 : decode cX3_misses 100 = .ok (.iload_n 3, 1) := by decide +kernel
theorem dX3_misses_101 : decode cX3_misses 101 = .ok (.iload 7, 2) := by decide +kernel
theorem dX3_misses_103 : decode cX3_misses 103 = .ok (.iastore, 1) := by decide +kernel
theorem dX3_misses_104 : decode cX3_misses 104 = .ok (.iinc 3 1, 3) := by decide +kernel
theorem dX3_misses_107 : decode cX3_misses 107 = .ok (.goto 81, 3) := by decide +kernel
theorem dX3_misses_110 : decode cX3_misses 110 = .ok (.iload 6, 2) := by decide +kernel
theorem dX3_misses_112 : decode cX3_misses 112 = .ok (.iconst 2, 1) := by decide +kernel
theorem dX3_misses_113 : decode cX3_misses 113 = .ok (.if_icmp .ne 41, 3) := by decide +kernel
theorem dX3_misses_116 : decode cX3_misses 116 = .ok (.iinc 3 (-1), 3) := by decide +kernel
theorem dX3_misses_119 : decode cX3_misses 119 = .ok (.iload 4, 2) := by decide +kernel
theorem dX3_misses_121 : decode cX3_misses 121 = .ok (.aload_n 0, 1) := by decide +kernel
theorem dX3_misses_122 : decode cX3_misses 122 = .ok (.getfield 22, 3) := by decide +kernel
theorem dX3_misses_125 : decode cX3_misses 125 = .ok (.iload_n 2, 1) := by decide +kernel
theorem dX3_misses_126 : decode cX3_misses 126 = .ok (.iaload, 1) := by decide +kernel
theorem dX3_misses_127 : decode cX3_misses 127 = .ok (.aload_n 0, 1) := by decide +kernel
theorem dX3_misses_128 : decode cX3_misses 128 = .ok (.getfield 25, 3) := by decide +kernel
theorem dX3_misses_131 : decode cX3_misses 131 = .ok (.iload_n 3, 1) := by decide +kernel
theorem dX3_misses_132 : decode cX3_misses 132 = .ok (.iaload, 1) := by decide +kernel
theorem dX3_misses_133 : decode cX3_misses 133 = .ok (.if_icmp .ne 7, 3) := by decide +kernel
theorem dX3_misses_136 : decode cX3_misses 136 = .ok (.iconst 0, 1) := by decide +kernel
theorem dX3_misses_137 : decode cX3_misses 137 = .ok (.goto 4, 3) := by decide +kernel
theorem dX3_misses_140 : decode cX3_misses 140 = .ok (.iconst 1, 1) := by decide +kernel
theorem dX3_misses_141 : decode cX3_misses 141 = .ok (.iadd, 1) := by decide +kernel
theorem dX3_misses_142 : decode cX3_misses 142 = .ok (.istore 4, 2) := by decide +kernel
theorem dX3_misses_144 : decode cX3_misses 144 = .ok (.iload_n 2, 1) := by decide +kernel
theorem dX3_misses_145 : decode cX3_misses 145 = .ok (.iconst 1, 1) := by decide +kernel
theorem dX3_misses_146 : decode cX3_misses 146 = .ok (.iload_n 1, 1) := by decide +kernel
theorem dX3_misses_147 : decode cX3_misses 147 = .ok (.invokestatic 66, 3) := by decide +kernel
theorem dX3_misses_150 : decode cX3_misses 150 = .ok (.istore_n 2, 1) := by decide +kernel
theorem dX3_misses_151 : decode cX3_misses 151 = .ok (.goto 37, 3) := by decide +kernel
theorem dX3_misses_154 : decode cX3_misses 154 = .ok (.iload 6, 2) := by decide +kernel
theorem dX3_misses_156 : decode cX3_misses 156 = .ok (.iconst 3, 1) := by decide +kernel
theorem dX3_misses_157 : decode cX3_misses 157 = .ok (.if_icmp .ne 31, 3) := by decide +kernel
theorem dX3_misses_160 : decode cX3_misses 160 = .ok (.iload_n 3, 1) := by decide +kernel
theorem dX3_misses_161 : decode cX3_misses 161 = .ok (.iload 7, 2) := by decide +kernel
theorem dX3_misses_163 : decode cX3_misses 163 = .ok (.isub, 1) := by decide +kernel
theorem dX3_misses_164 : decode cX3_misses 164 = .ok (.istore_n 3, 1) := by decide +kernel
theorem dX3_misses_165 : decode cX3_misses 165 = .ok (.aload_n 0, 1) := by decide +kernel
theorem dX3_misses_166 : decode cX3_misses 166 = .ok (.getfield 7, 3) := by decide +kernel
theorem dX3_misses_169 : decode cX3_misses 169 = .ok (.bipush 14, 2) := by decide +kernel
theorem dX3_misses_171 : decode cX3_misses 171 = .ok (.iaload, 1) := by decide +kernel
theorem dX3_misses_172 : decode cX3_misses 172 = .ok (.iconst 1, 1) := by decide +kernel
theorem dX3_misses_173 : decode cX3_misses 173 = .ok (.if_icmp .ne 13, 3) := by decide +kernel
theorem dX3_misses_176 : decode cX3_misses 176 = .ok (.iload_n 2, 1) := by decide +kernel
theorem dX3_misses_177 : decode cX3_misses 177 = .ok (.iload 7, 2) := by decide +kernel
theorem dX3_misses_179 : decode cX3_misses 179 = .ok (.iload_n 1, 1) := by decide +kernel
theorem dX3_misses_180 : decode cX3_misses 180 = .ok (.invokestatic 66, 3) := by decide +kernel
theorem dX3_misses_183 : decode cX3_misses 183 = .ok (.goto 4, 3) := by decide +kernel
theorem dX3_misses_186 : decode cX3_misses 186 = .ok (.iload_n 2, 1) := by decide +kernel
theorem dX3_misses_187 : decode cX3_misses 187 = .ok (.istore_n 2, 1) := by decide +kernel
theorem dX3_misses_188 : decode cX3_misses 188 = .ok (.iinc 5 1, 3) := by decide +kernel
theorem dX3_misses_191 : decode cX3_misses 191 = .ok (.goto (-157), 3) := by decide +kernel
theorem dX3_misses_194 : decode cX3_misses 194 = .ok (.iload 4, 2) := by decide +kernel
theorem dX3_misses_196 : decode cX3_misses 196 = .ok (.ireturn, 1) := by decide +kernel
set_option maxRecDepth 20000 in
theorem ggX3_missesWith_X3_in : GoodIn wsX3_missesWith wsX3_in := goodIn_r _ [4] (by decide +kernel) (by decide +kernel)
set_option maxRecDepth 20000 in
theorem gX3_missesWith_X3_in : GoodIn wsX3_missesWith (va_wsS RX3 40 yX3_in wsX3_in) := goodIn_app (goodIn_of _ (by decide +kernel)) ggX3_missesWith_X3_in
set_option maxRecDepth 20000 in
theorem ggX3_missesWith_X3_misses : GoodIn wsX3_missesWith wsX3_misses := goodIn_r _ [8, 9, 10, 11, 12, 13, 3, 14, 15, 16, 17, 18, 19, 20, 21, 22, 23, 24, 25] (by decide +kernel) (by decide +kernel)
set_option maxRecDepth 20000 in
theorem gX3_missesWith_X3_misses : GoodIn wsX3_missesWith (wsV RX3 115 RX3 yX3_misses wsX3_misses) := goodIn_app (goodIn_of _ (by decide +kernel)) ggX3_missesWith_X3_misses
theorem dX3_missesWith_0 : decode cX3_missesWith 0 = .ok (.iload_n 1, 1) := by decide +kernel
theorem dX3_missesWith_1 : decode cX3_missesWith 1 = .ok (.iconst 2, 1) := by decide +kernel
theorem dX3_missesWith_2 : decode cX3_missesWith 2 = .ok (.bipush 16, 2) := by decide +kernel
theorem dX3_missesWith_4 : decode cX3_missesWith 4 = .ok (.invokestatic 40, 3) := by decide +kernel
theorem dX3_missesWith_7 : decode cX3_missesWith 7 = .ok (.ifCond .eq 11, 3) := by decide +kernel
theorem dX3_missesWith_10 : decode cX3_missesWith 10 = .ok (.aload_n 0, 1) := by decide +kernel
theorem dX3_missesWith_11 : decode cX3_missesWith 11 = .ok (.iload_n 1, 1) := by decide +kernel
theorem dX3_missesWith_12 : decode cX3_missesWith 12 = .ok (.invokevirtual 115, 3) := by decide +kernel
theorem dX3_missesWith_15 : decode cX3_missesWith 15 = .ok (.goto 4, 3) := by decide +kernel
theorem dX3_missesWith_18 : decode cX3_missesWith 18 = .ok (.iconst (-1), 1) := by decide +kernel
theorem dX3_missesWith_19 : decode cX3_missesWith 19 = .ok (.ireturn, 1) := by decide +kernel
set_option maxRecDepth 20000 in
theorem ggX3_bestSize_X3_misses : GoodIn wsX3_bestSize wsX3_misses := goodIn_r _ [5, 6, 7, 8, 9, 10, 4, 11, 12, 13, 14, 15, 16, 17, 18, 19, 20, 21, 22] (by decide +kernel) (by decide +kernel)
set_option maxRecDepth 20000 in
theorem gX3_bestSize_X3_misses : GoodIn wsX3_bestSize (wsV RX3 115 RX3 yX3_misses wsX3_misses) := goodIn_app (goodIn_of _ (by decide +kernel)) ggX3_bestSize_X3_misses
theorem dX3_bestSize_0 : decode cX3_bestSize 0 = .ok (.iconst 2, 1) := by decide +kernel
theorem dX3_bestSize_1 : decode cX3_bestSize 1 = .ok (.istore_n 1, 1) := by decide +kernel
theorem dX3_bestSize_2 : decode cX3_bestSize 2 = .ok (.iconst 3, 1) := by decide +kernel
theorem dX3_bestSize_3 : decode cX3_bestSize 3 = .ok (.istore_n 2, 1) := by decide +kernel
theorem dX3_bestSize_4 : decode cX3_bestSize 4 = .ok (.iload_n 2, 1) := by decide +kernel
theorem dX3_bestSize_5 : decode cX3_bestSize 5 = .ok (.bipush 16, 2) := by decide +kernel
theorem dX3_bestSize_7 : decode cX3_bestSize 7 = .ok (.if_icmp .gt 28, 3) := by decide +kernel
theorem dX3_bestSize_10 : decode cX3_bestSize 10 = .ok (.aload_n 0, 1) := by decide +kernel
theorem dX3_bestSize_11 : decode cX3_bestSize 11 = .ok (.iload_n 2, 1) := by decide +kernel
theorem dX3_bestSize_12 : decode cX3_bestSize 12 = .ok (.invokevirtual 115, 3) := by decide +kernel
theorem dX3_bestSize_15 : decode cX3_bestSize 15 = .ok (.aload_n 0, 1) := by decide +kernel
theorem dX3_bestSize_16 : decode cX3_bestSize 16 = .ok (.iload_n 1, 1) := by decide +kernel
theorem dX3_bestSize_17 : decode cX3_bestSize 17 = .ok (.invokevirtual 115, 3) := by decide +kernel
theorem dX3_bestSize_20 : decode cX3_bestSize 20 = .ok (.if_icmp .ge 7, 3) := by decide +kernel
theorem dX3_bestSize_23 : decode cX3_bestSize 23 = .ok (.iload_n 2, 1) := by decide +kernel
theorem dX3_bestSize_24 : decode cX3_bestSize 24 = .ok (.goto 4, 3) := by decide +kernel
theorem dX3_bestSize_27 : decode cX3_bestSize 27 = .ok (.iload_n 1, 1) := by decide +kernel
theorem dX3_bestSize_28 : decode cX3_bestSize 28 = .ok (.istore_n 1, 1) := by decide +kernel
theorem dX3_bestSize_29 : decode cX3_bestSize 29 = .ok (.iinc 2 1, 3) := by decide +kernel
theorem dX3_bestSize_32 : decode cX3_bestSize 32 = .ok (.goto (-28), 3) := by decide +kernel
theorem dX3_bestSize_35 : decode cX3_bestSize 35 = .ok (.iload_n 1, 1) := by decide +kernel
theorem dX3_bestSize_36 : decode cX3_bestSize 36 = .ok (.ireturn, 1) := by decide +kernel
set_option maxRecDepth 20000 in
theorem ggX3_callsUntil_X3_isFrame : GoodIn wsX3_callsUntil wsX3_isFrame := goodIn_r _ [6, 1, 11, 12, 13, 14, 15, 16, 17, 18, 19, 20, 21] (by decide +kernel) (by decide +kernel)
set_option maxRecDepth 20000 in
theorem gX3_callsUntil_X3_isFrame : GoodIn wsX3_callsUntil (wsV RX3 112 RX3 yX3_isFrame wsX3_isFrame) := goodIn_app (goodIn_of _ (by decide +kernel)) ggX3_callsUntil_X3_isFrame
set_option maxRecDepth 20000 in
theorem ggX3_callsUntil_X3_ofFrame : GoodIn wsX3_callsUntil wsX3_ofFrame := goodIn_r _ [10, 1, 11, 12, 13, 14, 15, 16, 17, 18, 19, 20, 21] (by decide +kernel) (by decide +kernel)
set_option maxRecDepth 20000 in
theorem gX3_callsUntil_X3_ofFrame : GoodIn wsX3_callsUntil (wsV RX3 47 RX3 yX3_ofFrame wsX3_ofFrame) := goodIn_app (goodIn_of _ (by decide +kernel)) ggX3_callsUntil_X3_ofFrame
theorem dX3_callsUntil_0 : decode cX3_callsUntil 0 = .ok (.aload_n 0, 1) := by decide +kernel
theorem dX3_callsUntil_1 : decode cX3_callsUntil 1 = .ok (.iload_n 1, 1) := by decide +kernel
theorem dX3_callsUntil_2 : decode cX3_callsUntil 2 = .ok (.invokevirtual 112, 3) := by decide +kernel
theorem dX3_callsUntil_5 : decode cX3_callsUntil 5 = .ok (.ifCond .ne 5, 3) := by decide +kernel
theorem dX3_callsUntil_8 : decode cX3_callsUntil 8 = .ok (.iconst (-1), 1) := by decide +kernel
theorem dX3_callsUntil_9 : decode cX3_callsUntil 9 = .ok (.ireturn, 1) := by decide +kernel
theorem dX3_callsUntil_10 : decode cX3_callsUntil 10 = .ok (.aload_n 0, 1) := by decide +kernel
theorem dX3_callsUntil_11 : decode cX3_callsUntil 11 = .ok (.getfield 7, 3) := by decide +kernel
theorem dX3_callsUntil_14 : decode cX3_callsUntil 14 = .ok (.iconst 0, 1) := by decide +kernel
theorem dX3_callsUntil_15 : decode cX3_callsUntil 15 = .ok (.iaload, 1) := by decide +kernel
theorem dX3_callsUntil_16 : decode cX3_callsUntil 16 = .ok (.iconst 1, 1) := by decide +kernel
theorem dX3_callsUntil_17 : decode cX3_callsUntil 17 = .ok (.isub, 1) := by decide +kernel
theorem dX3_callsUntil_18 : decode cX3_callsUntil 18 = .ok (.iload_n 1, 1) := by decide +kernel
theorem dX3_callsUntil_19 : decode cX3_callsUntil 19 = .ok (.isub, 1) := by decide +kernel
theorem dX3_callsUntil_20 : decode cX3_callsUntil 20 = .ok (.istore_n 2, 1) := by decide +kernel
theorem dX3_callsUntil_21 : decode cX3_callsUntil 21 = .ok (.aload_n 0, 1) := by decide +kernel
theorem dX3_callsUntil_22 : decode cX3_callsUntil 22 = .ok (.iload_n 2, 1) := by decide +kernel
theorem dX3_callsUntil_23 : decode cX3_callsUntil 23 = .ok (.iconst 4, 1) := by decide +kernel
theorem dX3_callsUntil_24 : decode cX3_callsUntil 24 = .ok (.invokevirtual 47, 3) := by decide +kernel
theorem dX3_callsUntil_27 : decode cX3_callsUntil 27 = .ok (.bipush (-9), 2) := by decide +kernel
end
section
theorem dX3_callsUntil_29 : decode cX3_callsUntil 29 = .ok (.if_icmp .eq 5, 3) := by decide +kernel
theorem dX3_callsUntil_32 : decode cX3_callsUntil 32 = .ok (.iconst 0, 1) := by decide +kernel
theorem dX3_callsUntil_33 : decode cX3_callsUntil 33 = .ok (.ireturn, 1) := by decide +kernel
theorem dX3_callsUntil_34 : decode cX3_callsUntil 34 = .ok (.aload_n 0, 1) := by decide +kernel
theorem dX3_callsUntil_35 : decode cX3_callsUntil 35 = .ok (.iload_n 2, 1) := by decide +kernel
theorem dX3_callsUntil_36 : decode cX3_callsUntil 36 = .ok (.iconst 3, 1) := by decide +kernel
theorem dX3_callsUntil_37 : decode cX3_callsUntil 37 = .ok (.invokevirtual 47, 3) := by decide +kernel
theorem dX3_callsUntil_40 : decode cX3_callsUntil 40 = .ok (.aload_n 0, 1) := by decide +kernel
theorem dX3_callsUntil_41 : decode cX3_callsUntil 41 = .ok (.getfield 7, 3) := by decide +kernel
theorem dX3_callsUntil_44 : decode cX3_callsUntil 44 = .ok (.bipush 12, 2) := by decide +kernel
theorem dX3_callsUntil_46 : decode cX3_callsUntil 46 = .ok (.iaload, 1) := by decide +kernel
theorem dX3_callsUntil_47 : decode cX3_callsUntil 47 = .ok (.isub, 1) := by decide +kernel
theorem dX3_callsUntil_48 : decode cX3_callsUntil 48 = .ok (.aload_n 0, 1) := by decide +kernel
theorem dX3_callsUntil_49 : decode cX3_callsUntil 49 = .ok (.getfield 7, 3) := by decide +kernel
theorem dX3_callsUntil_52 : decode cX3_callsUntil 52 = .ok (.bipush 11, 2) := by decide +kernel
theorem dX3_callsUntil_54 : decode cX3_callsUntil 54 = .ok (.iaload, 1) := by decide +kernel
theorem dX3_callsUntil_55 : decode cX3_callsUntil 55 = .ok (.iadd, 1) := by decide +kernel
theorem dX3_callsUntil_56 : decode cX3_callsUntil 56 = .ok (.aload_n 0, 1) := by decide +kernel
theorem dX3_callsUntil_57 : decode cX3_callsUntil 57 = .ok (.getfield 7, 3) := by decide +kernel
theorem dX3_callsUntil_60 : decode cX3_callsUntil 60 = .ok (.bipush 11, 2) := by decide +kernel
theorem dX3_callsUntil_62 : decode cX3_callsUntil 62 = .ok (.iaload, 1) := by decide +kernel
theorem dX3_callsUntil_63 : decode cX3_callsUntil 63 = .ok (.irem, 1) := by decide +kernel
theorem dX3_callsUntil_64 : decode cX3_callsUntil 64 = .ok (.istore_n 3, 1) := by decide +kernel
theorem dX3_callsUntil_65 : decode cX3_callsUntil 65 = .ok (.iload_n 3, 1) := by decide +kernel
theorem dX3_callsUntil_66 : decode cX3_callsUntil 66 = .ok (.ifCond .ne 13, 3) := by decide +kernel
theorem dX3_callsUntil_69 : decode cX3_callsUntil 69 = .ok (.aload_n 0, 1) := by decide +kernel
theorem dX3_callsUntil_70 : decode cX3_callsUntil 70 = .ok (.getfield 7, 3) := by decide +kernel
theorem dX3_callsUntil_73 : decode cX3_callsUntil 73 = .ok (.bipush 11, 2) := by decide +kernel
theorem dX3_callsUntil_75 : decode cX3_callsUntil 75 = .ok (.iaload, 1) := by decide +kernel
theorem dX3_callsUntil_76 : decode cX3_callsUntil 76 = .ok (.goto 4, 3) := by decide +kernel
theorem dX3_callsUntil_79 : decode cX3_callsUntil 79 = .ok (.iload_n 3, 1) := by decide +kernel
theorem dX3_callsUntil_80 : decode cX3_callsUntil 80 = .ok (.ireturn, 1) := by decide +kernel
theorem dJ9_max_7cf53_0 : decode cJ9_max_7cf53 0 = .ok (.iload_n 0, 1) := by decide +kernel
theorem dJ9_max_7cf53_1 : decode cJ9_max_7cf53 1 = .ok (.iload_n 1, 1) := by decide +kernel
theorem dJ9_max_7cf53_2 : decode cJ9_max_7cf53 2 = .ok (.if_icmp .lt 7, 3) := by decide +kernel
theorem dJ9_max_7cf53_5 : decode cJ9_max_7cf53 5 = .ok (.iload_n 0, 1) := by decide +kernel
theorem dJ9_max_7cf53_6 : decode cJ9_max_7cf53 6 = .ok (.goto 4, 3) := by decide +kernel
theorem dJ9_max_7cf53_9 : decode cJ9_max_7cf53 9 = .ok (.iload_n 1, 1) := by decide +kernel
theorem dJ9_max_7cf53_10 : decode cJ9_max_7cf53 10 = .ok (.ireturn, 1) := by decide +kernel
theorem dJ9_min_7cf53_0 : decode cJ9_min_7cf53 0 = .ok (.iload_n 0, 1) := by decide +kernel
theorem dJ9_min_7cf53_1 : decode cJ9_min_7cf53 1 = .ok (.iload_n 1, 1) := by decide +kernel
theorem dJ9_min_7cf53_2 : decode cJ9_min_7cf53 2 = .ok (.if_icmp .gt 7, 3) := by decide +kernel
theorem dJ9_min_7cf53_5 : decode cJ9_min_7cf53 5 = .ok (.iload_n 0, 1) := by decide +kernel
theorem dJ9_min_7cf53_6 : decode cJ9_min_7cf53 6 = .ok (.goto 4, 3) := by decide +kernel
theorem dJ9_min_7cf53_9 : decode cJ9_min_7cf53 9 = .ok (.iload_n 1, 1) := by decide +kernel
theorem dJ9_min_7cf53_10 : decode cJ9_min_7cf53 10 = .ok (.ireturn, 1) := by decide +kernel
theorem dJ7_fill_53178_0 : decode cJ7_fill_53178 0 = .ok (.iconst 0, 1) := by decide +kernel
theorem dJ7_fill_53178_1 : decode cJ7_fill_53178 1 = .ok (.istore_n 2, 1) := by decide +kernel
theorem dJ7_fill_53178_2 : decode cJ7_fill_53178 2 = .ok (.aload_n 0, 1) := by decide +kernel
theorem dJ7_fill_53178_3 : decode cJ7_fill_53178 3 = .ok (.arraylength, 1) := by decide +kernel
theorem dJ7_fill_53178_4 : decode cJ7_fill_53178 4 = .ok (.istore_n 3, 1) := by decide +kernel
theorem dJ7_fill_53178_5 : decode cJ7_fill_53178 5 = .ok (.iload_n 2, 1) := by decide +kernel
theorem dJ7_fill_53178_6 : decode cJ7_fill_53178 6 = .ok (.iload_n 3, 1) := by decide +kernel
theorem dJ7_fill_53178_7 : decode cJ7_fill_53178 7 = .ok (.if_icmp .ge 13, 3) := by decide +kernel
theorem dJ7_fill_53178_10 : decode cJ7_fill_53178 10 = .ok (.aload_n 0, 1) := by decide +kernel
theorem dJ7_fill_53178_11 : decode cJ7_fill_53178 11 = .ok (.iload_n 2, 1) := by decide +kernel
theorem dJ7_fill_53178_12 : decode cJ7_fill_53178 12 = .ok (.iload_n 1, 1) := by decide +kernel
theorem dJ7_fill_53178_13 : decode cJ7_fill_53178 13 = .ok (.iastore, 1) := by decide +kernel
theorem dJ7_fill_53178_14 : decode cJ7_fill_53178 14 = .ok (.iinc 2 1, 3) := by decide +kernel
theorem dJ7_fill_53178_17 : decode cJ7_fill_53178 17 = .ok (.goto (-12), 3) := by decide +kernel
theorem dJ7_fill_53178_20 : decode cJ7_fill_53178 20 = .ok (.return_, 1) := by decide +kernel
set_option maxRecDepth 20000 in
theorem ggL_law_X2_init : GoodIn wsL_law wsX2_init := goodIn_r _ [8, 9, 10, 11, 12, 13, 14, 15, 16, 17, 18, 19, 20, 21, 22, 23, 24, 25, 26, 27, 28, 29, 30, 31, 32, 33, 34, 35, 36, 37, 38, 39, 40, 41, 42, 43, 44, 45, 46, 47, 48, 49, 50, 51, 52, 53, 481, 482, 483, 484, 485, 486, 487, 488, 489, 490, 491, 492, 493, 494, 464, 465, 466, 467, 468, 469, 495, 496, 497] (by decide +kernel) (by decide +kernel)
set_option maxRecDepth 20000 in
theorem gL_law_X2_init : GoodIn wsL_law (wsX2_init) := ggL_law_X2_init
set_option maxRecDepth 20000 in
theorem ggL_law_X3_init : GoodIn wsL_law wsX3_init := goodIn_r _ [56, 57, 10, 11, 27, 58, 59, 60, 61, 62, 63, 64, 65, 66, 5, 67, 470, 471, 472, 473, 474, 475, 476, 477, 478, 479, 480] (by decide +kernel) (by decide +kernel)
set_option maxRecDepth 20000 in
theorem gL_law_X3_init : GoodIn wsL_law (wsX3_init) := ggL_law_X3_init
set_option maxRecDepth 20000 in
theorem ggL_law_X2_call : GoodIn wsL_law wsX2_call := goodIn_r _ [71, 72, 73, 74, 2, 75, 16, 15, 76, 77, 78, 14, 79, 80, 40, 41, 42, 43, 44, 45, 28, 81, 82, 83, 84, 29, 30, 32, 33, 34, 35, 85, 86, 87, 88, 89, 90, 91, 92, 93, 94, 95, 96, 97, 98, 99, 100, 101, 102, 103, 104, 105, 106, 107, 108, 109, 110, 111, 112, 113, 114, 115, 116, 117, 118, 119, 120, 121, 122, 123, 124, 125, 126, 127, 128, 129, 130, 131, 132, 133, 134, 135, 136, 137, 138, 139, 140, 141, 142, 143, 144, 145, 146, 147, 148, 149, 150, 151, 152, 153, 18, 154, 155, 156, 157, 464, 465, 466, 467, 468, 469, 481, 482, 483, 484, 485, 486, 487, 488, 489, 490, 491, 492, 493, 494] (by decide +kernel) (by decide +kernel)
set_option maxRecDepth 20000 in
theorem gL_law_X2_call : GoodIn wsL_law (wsV RL 13 RX2 yX2_call wsX2_call) := goodIn_app (goodIn_of _ (by decide +kernel)) ggL_law_X2_call
set_option maxRecDepth 20000 in
theorem ggL_law_X3_call : GoodIn wsL_law wsX3_call := goodIn_r _ [161, 58, 162, 163, 5, 164, 165, 166, 167, 168, 169, 170, 59, 171, 172, 173, 174, 175, 176, 177, 178, 470, 471, 472, 473, 474, 475, 476, 477, 478, 479, 480] (by decide +kernel) (by decide +kernel)
set_option maxRecDepth 20000 in
theorem gL_law_X3_call : GoodIn wsL_law (wsV RL 17 RX3 yX3_call wsX3_call) := goodIn_app (goodIn_of _ (by decide +kernel)) ggL_law_X3_call
set_option maxRecDepth 20000 in
theorem ggL_law_X2_tail : GoodIn wsL_law wsX2_tail := goodIn_r _ [182, 72, 73, 74, 2, 75, 16, 15, 76, 77, 78, 14, 79, 80, 40, 41, 42, 43, 44, 45, 28, 81, 82, 83, 84, 29, 30, 32, 33, 34, 35, 85, 86, 87, 88, 89, 90, 91, 92, 93, 94, 95, 96, 97, 98, 99, 100, 101, 102, 103, 104, 105, 106, 107, 108, 109, 110, 111, 112, 113, 114, 115, 116, 117, 118, 119, 120, 121, 122, 123, 124, 125, 126, 127, 128, 129, 130, 131, 132, 133, 134, 135, 136, 137, 138, 139, 140, 141, 142, 143, 144, 145, 146, 147, 148, 149, 150, 151, 152, 153, 18, 154, 155, 156, 157, 464, 465, 466, 467, 468, 469, 481, 482, 483, 484, 485, 486, 487, 488, 489, 490, 491, 492, 493, 494] (by decide +kernel) (by decide +kernel)
set_option maxRecDepth 20000 in
theorem gL_law_X2_tail : GoodIn wsL_law (wsV RL 18 RX2 yX2_tail wsX2_tail) := goodIn_app (goodIn_of _ (by decide +kernel)) ggL_law_X2_tail
set_option maxRecDepth 20000 in
theorem ggL_law_X3_tail : GoodIn wsL_law wsX3_tail := goodIn_r _ [186, 58, 162, 163, 5, 164, 165, 166, 167, 168, 169, 170, 59, 175, 176, 177, 178, 470, 471, 472, 473, 474, 475, 476, 477, 478, 479, 480] (by decide +kernel) (by decide +kernel)
set_option maxRecDepth 20000 in
theorem gL_law_X3_tail : GoodIn wsL_law (wsV RL 22 RX3 yX3_tail wsX3_tail) := goodIn_app (goodIn_of _ (by decide +kernel)) ggL_law_X3_tail
set_option maxRecDepth 20000 in
theorem ggL_law_X2_ret : GoodIn wsL_law wsX2_ret := goodIn_r _ [190, 72, 73, 74, 2, 75, 16, 15, 76, 77, 78, 14, 79, 80, 40, 41, 42, 43, 44, 45, 28, 81, 82, 83, 84, 29, 30, 32, 33, 34, 35, 85, 86, 87, 88, 89, 90, 91, 92, 93, 94, 95, 96, 97, 98, 99, 100, 101, 102, 103, 104, 105, 106, 107, 108, 109, 110, 111, 112, 113, 114, 115, 116, 117, 118, 119, 120, 121, 122, 123, 124, 125, 126, 127, 128, 129, 130, 131, 132, 133, 134, 135, 136, 137, 138, 139, 140, 141, 142, 143, 144, 145, 146, 147, 148, 149, 150, 151, 152, 153, 18, 154, 155, 156, 157, 464, 465, 466, 467, 468, 469, 481, 482, 483, 484, 485, 486, 487, 488, 489, 490, 491, 492, 493, 494] (by decide +kernel) (by decide +kernel)
set_option maxRecDepth 20000 in
theorem gL_law_X2_ret : GoodIn wsL_law (wsV RL 23 RX2 yX2_ret wsX2_ret) := goodIn_app (goodIn_of _ (by decide +kernel)) ggL_law_X2_ret
set_option maxRecDepth 20000 in
theorem ggL_law_X3_ret : GoodIn wsL_law wsX3_ret := goodIn_r _ [194, 58, 165, 166, 167, 5, 168, 169, 170, 59, 195, 196, 197, 198, 199, 200, 201, 202, 171, 172, 173, 174, 203, 204, 205, 206, 207, 208, 209, 175, 176, 177, 178, 470, 471, 472, 473, 474, 475, 476, 477, 478, 479, 480] (by decide +kernel) (by decide +kernel)
set_option maxRecDepth 20000 in
theorem gL_law_X3_ret : GoodIn wsL_law (wsV RL 27 RX3 yX3_ret wsX3_ret) := goodIn_app (goodIn_of _ (by decide +kernel)) ggL_law_X3_ret
set_option maxRecDepth 20000 in
theorem ggL_law_X2_raise : GoodIn wsL_law wsX2_raise := goodIn_r _ [213, 72, 73, 74, 2, 75, 16, 15, 76, 77, 78, 14, 79, 80, 40, 41, 42, 43, 44, 45, 28, 81, 82, 83, 84, 29, 30, 32, 33, 34, 35, 85, 86, 87, 88, 89, 90, 91, 92, 93, 94, 95, 96, 97, 98, 99, 100, 101, 102, 103, 104, 105, 106, 107, 108, 109, 110, 111, 112, 113, 114, 115, 116, 117, 118, 119, 120, 121, 122, 123, 124, 125, 126, 127, 128, 129, 130, 131, 132, 133, 134, 135, 136, 137, 138, 139, 140, 141, 142, 143, 144, 145, 146, 147, 148, 149, 150, 151, 152, 153, 18, 154, 155, 156, 157, 464, 465, 466, 467, 468, 469, 481, 482, 483, 484, 485, 486, 487, 488, 489, 490, 491, 492, 493, 494] (by decide +kernel) (by decide +kernel)
set_option maxRecDepth 20000 in
theorem gL_law_X2_raise : GoodIn wsL_law (wsV RL 28 RX2 yX2_raise wsX2_raise) := goodIn_app (goodIn_of _ (by decide +kernel)) ggL_law_X2_raise
set_option maxRecDepth 20000 in
theorem ggL_law_X3_raise : GoodIn wsL_law wsX3_raise := goodIn_r _ [217, 58, 162, 163, 5, 164, 165, 166, 167, 168, 169, 170, 59, 207, 208, 209, 175, 176, 177, 178, 470, 471, 472, 473, 474, 475, 476, 477, 478, 479, 480] (by decide +kernel) (by decide +kernel)
set_option maxRecDepth 20000 in
theorem gL_law_X3_raise : GoodIn wsL_law (wsV RL 31 RX3 yX3_raise wsX3_raise) := goodIn_app (goodIn_of _ (by decide +kernel)) ggL_law_X3_raise
set_option maxRecDepth 20000 in
theorem ggL_law_X2_setRepair : GoodIn wsL_law wsX2_setRepair := goodIn_r _ [221, 15, 222, 149, 150, 151, 2, 152, 153, 18, 154, 155, 156, 157, 76, 77, 78, 14, 79, 80, 40, 41, 42, 43, 44, 45, 28, 81, 82, 83, 84, 29, 30, 32, 33, 34, 35, 85, 86, 87, 464, 465, 466, 467, 468, 469, 481, 482, 483, 484, 485, 486, 487, 488, 489, 490, 491, 492, 493, 494] (by decide +kernel) (by decide +kernel)
set_option maxRecDepth 20000 in
theorem gL_law_X2_setRepair : GoodIn wsL_law (wsV RL 32 RX2 yX2_setRepair wsX2_setRepair) := goodIn_app (goodIn_of _ (by decide +kernel)) ggL_law_X2_setRepair
set_option maxRecDepth 20000 in
theorem ggL_law_X3_setRepair : GoodIn wsL_law wsX3_setRepair := goodIn_r _ [226, 58, 162, 163, 5, 164, 165, 166, 167, 168, 169, 170, 59, 470, 471, 472, 473, 474, 475, 476, 477, 478, 479, 480] (by decide +kernel) (by decide +kernel)
set_option maxRecDepth 20000 in
theorem gL_law_X3_setRepair : GoodIn wsL_law (wsV RL 35 RX3 yX3_setRepair wsX3_setRepair) := goodIn_app (goodIn_of _ (by decide +kernel)) ggL_law_X3_setRepair
set_option maxRecDepth 20000 in
theorem ggL_law_X2_begin : GoodIn wsL_law wsX2_begin := goodIn_r _ [230, 15, 231, 232, 233, 2, 234, 149, 150, 151, 152, 153, 18, 154, 155, 156, 157, 76, 77, 78, 14, 79, 80, 40, 41, 42, 43, 44, 45, 28, 81, 82, 83, 84, 29, 30, 32, 33, 34, 35, 85, 86, 87, 235, 37, 38, 39, 46, 47, 48, 49, 464, 465, 466, 467, 468, 469, 481, 482, 483, 484, 485, 486, 487, 488, 489, 490, 491, 492, 493, 494] (by decide +kernel) (by decide +kernel)
set_option maxRecDepth 20000 in
theorem gL_law_X2_begin : GoodIn wsL_law (wsV RL 36 RX2 yX2_begin wsX2_begin) := goodIn_app (goodIn_of _ (by decide +kernel)) ggL_law_X2_begin
set_option maxRecDepth 20000 in
theorem ggL_law_X3_begin : GoodIn wsL_law wsX3_begin := goodIn_r _ [239, 58, 162, 163, 5, 164, 165, 166, 167, 168, 169, 170, 59, 64, 65, 66, 67, 470, 471, 472, 473, 474, 475, 476, 477, 478, 479, 480] (by decide +kernel) (by decide +kernel)
set_option maxRecDepth 20000 in
theorem gL_law_X3_begin : GoodIn wsL_law (wsV RL 39 RX3 yX3_begin wsX3_begin) := goodIn_app (goodIn_of _ (by decide +kernel)) ggL_law_X3_begin
set_option maxRecDepth 20000 in
theorem ggL_law_X2_undo : GoodIn wsL_law wsX2_undo := goodIn_r _ [243, 153, 15, 18, 76, 77, 78, 14, 79, 80, 40, 41, 42, 43, 44, 45, 28, 81, 82, 83, 84, 29, 30, 32, 33, 34, 35, 85, 86, 87, 464, 465, 466, 467, 468, 469, 481, 482, 483, 484, 485, 486, 487, 488, 489, 490, 491, 492, 493, 494] (by decide +kernel) (by decide +kernel)
set_option maxRecDepth 20000 in
theorem gL_law_X2_undo : GoodIn wsL_law (wsV RL 40 RX2 yX2_undo wsX2_undo) := goodIn_app (goodIn_of _ (by decide +kernel)) ggL_law_X2_undo
set_option maxRecDepth 20000 in
theorem ggL_law_X3_undo : GoodIn wsL_law wsX3_undo := goodIn_r _ [247, 170, 58, 59, 470, 471, 472, 473, 474, 475, 476, 477, 478, 479, 480] (by decide +kernel) (by decide +kernel)
set_option maxRecDepth 20000 in
theorem gL_law_X3_undo : GoodIn wsL_law (wsV RL 43 RX3 yX3_undo wsX3_undo) := goodIn_app (goodIn_of _ (by decide +kernel)) ggL_law_X3_undo
set_option maxRecDepth 20000 in
theorem ggL_law_X2_append : GoodIn wsL_law wsX2_append := goodIn_r _ [251, 22, 252, 253, 254, 255, 21, 256, 53, 257, 464, 465, 466, 467, 468, 469, 495, 496, 497] (by decide +kernel) (by decide +kernel)
set_option maxRecDepth 20000 in
theorem gL_law_X2_append : GoodIn wsL_law (wsV RL 44 RX2 yX2_append wsX2_append) := goodIn_app (goodIn_of _ (by decide +kernel)) ggL_law_X2_append
set_option maxRecDepth 20000 in
theorem ggL_law_X3_append : GoodIn wsL_law wsX3_append := goodIn_r _ [261, 262, 61, 162, 163, 5, 164, 470, 471, 472, 473, 474, 475, 476, 477, 478, 479, 480] (by decide +kernel) (by decide +kernel)
set_option maxRecDepth 20000 in
theorem gL_law_X3_append : GoodIn wsL_law (wsV RL 47 RX3 yX3_append wsX3_append) := goodIn_app (goodIn_of _ (by decide +kernel)) ggL_law_X3_append
set_option maxRecDepth 20000 in
theorem ggL_law_X2_clearText : GoodIn wsL_law wsX2_clearText := goodIn_r _ [266, 22, 252, 464, 465, 466, 467, 468, 469, 495, 496, 497] (by decide +kernel) (by decide +kernel)
set_option maxRecDepth 20000 in
theorem gL_law_X2_clearText : GoodIn wsL_law (wsV RL 48 RX2 yX2_clearText wsX2_clearText) := goodIn_app (goodIn_of _ (by decide +kernel)) ggL_law_X2_clearText
set_option maxRecDepth 20000 in
theorem ggL_law_X3_clearText : GoodIn wsL_law wsX3_clearText := goodIn_r _ [270, 262, 470, 471, 472, 473, 474, 475, 476, 477, 478, 479, 480] (by decide +kernel) (by decide +kernel)
set_option maxRecDepth 20000 in
theorem gL_law_X3_clearText : GoodIn wsL_law (wsV RL 51 RX3 yX3_clearText wsX3_clearText) := goodIn_app (goodIn_of _ (by decide +kernel)) ggL_law_X3_clearText
set_option maxRecDepth 20000 in
theorem ggL_law_X2_run : GoodIn wsL_law wsX2_run := goodIn_r _ [274, 16, 15, 22, 275, 252, 76, 77, 78, 14, 79, 80, 40, 41, 42, 43, 44, 45, 28, 81, 82, 83, 84, 29, 30, 32, 33, 34, 35, 85, 86, 87, 276, 277, 278, 2, 279, 280, 281, 282, 21, 283, 284, 257, 53, 285, 286, 287, 288, 289, 290, 291, 292, 293, 294, 295, 296, 297, 298, 299, 300, 301, 302, 303, 304, 305, 306, 307, 308, 309, 310, 311, 312, 88, 89, 90, 91, 92, 93, 94, 95, 96, 97, 98, 99, 100, 101, 102, 103, 104, 105, 106, 107, 108, 109, 110, 111, 112, 113, 114, 115, 116, 117, 118, 119, 120, 121, 122, 123, 124, 125, 126, 127, 128, 129, 130, 131, 132, 133, 134, 135, 136, 137, 138, 139, 140, 141, 142, 143, 144, 145, 146, 147, 148, 149, 150, 151, 152, 153, 18, 154, 155, 156, 157, 464, 465, 466, 467, 468, 469, 495, 496, 497, 481, 482, 483, 484, 485, 486, 487, 488, 489, 490, 491, 492, 493, 494] (by decide +kernel) (by decide +kernel)
set_option maxRecDepth 20000 in
theorem gL_law_X2_run : GoodIn wsL_law (wsV RL 52 RX2 yX2_run wsX2_run) := goodIn_app (goodIn_of _ (by decide +kernel)) ggL_law_X2_run
set_option maxRecDepth 20000 in
theorem ggL_law_X3_run : GoodIn wsL_law wsX3_run := goodIn_r _ [316, 60, 58, 169, 317, 262, 318, 319, 320, 5, 321, 61, 322, 323, 324, 325, 326, 327, 328, 329, 330, 331, 332, 333, 334, 162, 163, 164, 335, 159, 160, 161, 165, 166, 167, 168, 170, 59, 171, 172, 173, 174, 175, 176, 177, 178, 336, 184, 185, 186, 337, 192, 193, 194, 195, 196, 197, 198, 199, 200, 201, 202, 203, 204, 205, 206, 207, 208, 209, 338, 215, 216, 217, 339, 340, 341, 342, 470, 471, 472, 473, 474, 475, 476, 477, 478, 479, 480] (by decide +kernel) (by decide +kernel)
set_option maxRecDepth 20000 in
theorem gL_law_X3_run : GoodIn wsL_law (wsV RL 55 RX3 yX3_run wsX3_run) := goodIn_app (goodIn_of _ (by decide +kernel)) ggL_law_X3_run
set_option maxRecDepth 20000 in
theorem ggL_law_X2_count : GoodIn wsL_law wsX2_count := goodIn_r _ [346, 15, 347, 348, 349, 350, 351, 231, 352, 353, 222, 153, 22, 252, 354, 355, 356, 14, 357, 42, 114, 115, 116, 117, 32, 464, 465, 466, 467, 468, 469, 481, 482, 483, 484, 485, 486, 487, 488, 489, 490, 491, 492, 493, 494, 495, 496, 497] (by decide +kernel) (by decide +kernel)
set_option maxRecDepth 20000 in
theorem gL_law_X2_count : GoodIn wsL_law (wsV RL 56 RX2 yX2_count wsX2_count) := goodIn_app (goodIn_of _ (by decide +kernel)) ggL_law_X2_count
set_option maxRecDepth 20000 in
theorem ggL_law_X3_count : GoodIn wsL_law wsX3_count := goodIn_r _ [361, 58, 170, 262, 162, 163, 5, 164, 362, 363, 364, 365, 171, 172, 173, 174, 470, 471, 472, 473, 474, 475, 476, 477, 478, 479, 480] (by decide +kernel) (by decide +kernel)
set_option maxRecDepth 20000 in
theorem gL_law_X3_count : GoodIn wsL_law (wsV RL 59 RX3 yX3_count wsX3_count) := goodIn_app (goodIn_of _ (by decide +kernel)) ggL_law_X3_count
set_option maxRecDepth 20000 in
theorem ggL_law_X2_frame : GoodIn wsL_law wsX2_frame := goodIn_r _ [369, 15, 347, 370, 464, 465, 466, 467, 468, 469, 481, 482, 483, 484, 485, 486, 487, 488, 489, 490, 491, 492, 493, 494] (by decide +kernel) (by decide +kernel)
set_option maxRecDepth 20000 in
theorem gL_law_X2_frame : GoodIn wsL_law (wsV RL 60 RX2 yX2_frame wsX2_frame) := goodIn_app (goodIn_of _ (by decide +kernel)) ggL_law_X2_frame
set_option maxRecDepth 20000 in
theorem ggL_law_X3_frame : GoodIn wsL_law wsX3_frame := goodIn_r _ [374, 58, 375, 376, 377, 5, 378, 162, 163, 164, 171, 172, 173, 174, 470, 471, 472, 473, 474, 475, 476, 477, 478, 479, 480] (by decide +kernel) (by decide +kernel)
set_option maxRecDepth 20000 in
theorem gL_law_X3_frame : GoodIn wsL_law (wsV RL 63 RX3 yX3_frame wsX3_frame) := goodIn_app (goodIn_of _ (by decide +kernel)) ggL_law_X3_frame
set_option maxRecDepth 20000 in
theorem ggL_law_X2_slot : GoodIn wsL_law wsX2_slot := goodIn_r _ [382, 15, 231, 383, 464, 465, 466, 467, 468, 469, 481, 482, 483, 484, 485, 486, 487, 488, 489, 490, 491, 492, 493, 494] (by decide +kernel) (by decide +kernel)
set_option maxRecDepth 20000 in
theorem gL_law_X2_slot : GoodIn wsL_law (wsV RL 64 RX2 yX2_slot wsX2_slot) := goodIn_app (goodIn_of _ (by decide +kernel)) ggL_law_X2_slot
set_option maxRecDepth 20000 in
theorem ggL_law_X3_slot : GoodIn wsL_law wsX3_slot := goodIn_r _ [387, 58, 162, 163, 5, 164, 199, 200, 201, 202, 470, 471, 472, 473, 474, 475, 476, 477, 478, 479, 480] (by decide +kernel) (by decide +kernel)
set_option maxRecDepth 20000 in
theorem gL_law_X3_slot : GoodIn wsL_law (wsV RL 67 RX3 yX3_slot wsX3_slot) := goodIn_app (goodIn_of _ (by decide +kernel)) ggL_law_X3_slot
set_option maxRecDepth 20000 in
theorem ggL_law_X2_confession : GoodIn wsL_law wsX2_confession := goodIn_r _ [391, 15, 351, 392, 464, 465, 466, 467, 468, 469, 481, 482, 483, 484, 485, 486, 487, 488, 489, 490, 491, 492, 493, 494] (by decide +kernel) (by decide +kernel)
set_option maxRecDepth 20000 in
theorem gL_law_X2_confession : GoodIn wsL_law (wsV RL 68 RX2 yX2_confession wsX2_confession) := goodIn_app (goodIn_of _ (by decide +kernel)) ggL_law_X2_confession
set_option maxRecDepth 20000 in
theorem ggL_law_X3_confession : GoodIn wsL_law wsX3_confession := goodIn_r _ [396, 58, 162, 163, 5, 164, 470, 471, 472, 473, 474, 475, 476, 477, 478, 479, 480] (by decide +kernel) (by decide +kernel)
set_option maxRecDepth 20000 in
theorem gL_law_X3_confession : GoodIn wsL_law (wsV RL 71 RX3 yX3_confession wsX3_confession) := goodIn_app (goodIn_of _ (by decide +kernel)) ggL_law_X3_confession
set_option maxRecDepth 20000 in
theorem ggL_law_X2_named : GoodIn wsL_law wsX2_named := goodIn_r _ [400, 15, 349, 401, 464, 465, 466, 467, 468, 469, 481, 482, 483, 484, 485, 486, 487, 488, 489, 490, 491, 492, 493, 494] (by decide +kernel) (by decide +kernel)
set_option maxRecDepth 20000 in
theorem gL_law_X2_named : GoodIn wsL_law (wsV RL 72 RX2 yX2_named wsX2_named) := goodIn_app (goodIn_of _ (by decide +kernel)) ggL_law_X2_named
set_option maxRecDepth 20000 in
theorem ggL_law_X3_named : GoodIn wsL_law wsX3_named := goodIn_r _ [405, 58, 470, 471, 472, 473, 474, 475, 476, 477, 478, 479, 480] (by decide +kernel) (by decide +kernel)
set_option maxRecDepth 20000 in
theorem gL_law_X3_named : GoodIn wsL_law (wsV RL 75 RX3 yX3_named wsX3_named) := goodIn_app (goodIn_of _ (by decide +kernel)) ggL_law_X3_named
set_option maxRecDepth 20000 in
theorem ggL_law_X2_worst : GoodIn wsL_law wsX2_worst := goodIn_r _ [409, 15, 349, 401, 464, 465, 466, 467, 468, 469, 481, 482, 483, 484, 485, 486, 487, 488, 489, 490, 491, 492, 493, 494] (by decide +kernel) (by decide +kernel)
set_option maxRecDepth 20000 in
theorem gL_law_X2_worst : GoodIn wsL_law (wsV RL 76 RX2 yX2_worst wsX2_worst) := goodIn_app (goodIn_of _ (by decide +kernel)) ggL_law_X2_worst
set_option maxRecDepth 20000 in
theorem ggL_law_X3_worst : GoodIn wsL_law wsX3_worst := goodIn_r _ [413, 58, 470, 471, 472, 473, 474, 475, 476, 477, 478, 479, 480] (by decide +kernel) (by decide +kernel)
set_option maxRecDepth 20000 in
theorem gL_law_X3_worst : GoodIn wsL_law (wsV RL 79 RX3 yX3_worst wsX3_worst) := goodIn_app (goodIn_of _ (by decide +kernel)) ggL_law_X3_worst
set_option maxRecDepth 20000 in
theorem ggL_law_X2_ahead : GoodIn wsL_law wsX2_ahead := goodIn_r _ [417, 15, 347, 418, 419, 420, 14, 421, 41, 42, 126, 127, 128, 129, 33, 32, 114, 115, 116, 117, 137, 138, 139, 140, 40, 464, 465, 466, 467, 468, 469, 481, 482, 483, 484, 485, 486, 487, 488, 489, 490, 491, 492, 493, 494] (by decide +kernel) (by decide +kernel)
set_option maxRecDepth 20000 in
theorem gL_law_X2_ahead : GoodIn wsL_law (wsV RL 80 RX2 yX2_ahead wsX2_ahead) := goodIn_app (goodIn_of _ (by decide +kernel)) ggL_law_X2_ahead
set_option maxRecDepth 20000 in
theorem ggL_law_X3_ahead : GoodIn wsL_law wsX3_ahead := goodIn_r _ [425, 58, 162, 163, 5, 164, 207, 208, 209, 199, 200, 201, 202, 171, 172, 173, 174, 470, 471, 472, 473, 474, 475, 476, 477, 478, 479, 480] (by decide +kernel) (by decide +kernel)
set_option maxRecDepth 20000 in
theorem gL_law_X3_ahead : GoodIn wsL_law (wsV RL 83 RX3 yX3_ahead wsX3_ahead) := goodIn_app (goodIn_of _ (by decide +kernel)) ggL_law_X3_ahead
set_option maxRecDepth 20000 in
theorem ggL_law_X2_missesWith : GoodIn wsL_law wsX2_missesWith := goodIn_r _ [429, 232, 233, 2, 234, 430, 431, 432, 433, 17, 15, 222, 348, 434, 235, 37, 38, 14, 39, 40, 41, 42, 43, 44, 45, 28, 29, 30, 33, 46, 47, 48, 49, 88, 89, 90, 91, 92, 93, 94, 95, 96, 97, 98, 99, 100, 101, 102, 103, 104, 105, 32, 106, 107, 108, 109, 110, 111, 112, 113, 114, 115, 116, 117, 118, 119, 120, 121, 122, 123, 124, 125, 126, 127, 128, 129, 130, 131, 132, 133, 35, 81, 82, 83, 84, 134, 135, 136, 137, 138, 139, 140, 141, 142, 143, 144, 80, 145, 146, 147, 148, 34, 435, 436, 437, 438, 464, 465, 466, 467, 468, 469, 481, 482, 483, 484, 485, 486, 487, 488, 489, 490, 491, 492, 493, 494] (by decide +kernel) (by decide +kernel)
set_option maxRecDepth 20000 in
theorem gL_law_X2_missesWith : GoodIn wsL_law (wsV RL 84 RX2 yX2_missesWith wsX2_missesWith) := goodIn_app (goodIn_of _ (by decide +kernel)) ggL_law_X2_missesWith
set_option maxRecDepth 20000 in
theorem ggL_law_X3_missesWith : GoodIn wsL_law wsX3_missesWith := goodIn_r _ [442, 162, 163, 5, 164, 443, 444, 445, 446, 62, 58, 63, 207, 208, 209, 470, 471, 472, 473, 474, 475, 476, 477, 478, 479, 480] (by decide +kernel) (by decide +kernel)
set_option maxRecDepth 20000 in
theorem gL_law_X3_missesWith : GoodIn wsL_law (wsV RL 87 RX3 yX3_missesWith wsX3_missesWith) := goodIn_app (goodIn_of _ (by decide +kernel)) ggL_law_X3_missesWith
set_option maxRecDepth 20000 in
theorem ggL_law_X2_bestSize : GoodIn wsL_law wsX2_bestSize := goodIn_r _ [450, 430, 431, 432, 2, 433, 17, 15, 222, 348, 434, 235, 37, 38, 14, 39, 40, 41, 42, 43, 44, 45, 28, 29, 30, 33, 46, 47, 48, 49, 88, 89, 90, 91, 92, 93, 94, 95, 96, 97, 98, 99, 100, 101, 102, 103, 104, 105, 32, 106, 107, 108, 109, 110, 111, 112, 113, 114, 115, 116, 117, 118, 119, 120, 121, 122, 123, 124, 125, 126, 127, 128, 129, 130, 131, 132, 133, 35, 81, 82, 83, 84, 134, 135, 136, 137, 138, 139, 140, 141, 142, 143, 144, 80, 145, 146, 147, 148, 34, 435, 436, 437, 438, 464, 465, 466, 467, 468, 469, 481, 482, 483, 484, 485, 486, 487, 488, 489, 490, 491, 492, 493, 494] (by decide +kernel) (by decide +kernel)
set_option maxRecDepth 20000 in
theorem gL_law_X2_bestSize : GoodIn wsL_law (wsV RL 88 RX2 yX2_bestSize wsX2_bestSize) := goodIn_app (goodIn_of _ (by decide +kernel)) ggL_law_X2_bestSize
set_option maxRecDepth 20000 in
theorem ggL_law_X3_bestSize : GoodIn wsL_law wsX3_bestSize := goodIn_r _ [454, 443, 444, 445, 5, 446, 62, 58, 63, 207, 208, 209, 470, 471, 472, 473, 474, 475, 476, 477, 478, 479, 480] (by decide +kernel) (by decide +kernel)
set_option maxRecDepth 20000 in
theorem gL_law_X3_bestSize : GoodIn wsL_law (wsV RL 91 RX3 yX3_bestSize wsX3_bestSize) := goodIn_app (goodIn_of _ (by decide +kernel)) ggL_law_X3_bestSize
set_option maxRecDepth 20000 in
theorem ggL_law_X2_callsUntil : GoodIn wsL_law wsX2_callsUntil := goodIn_r _ [458, 15, 347, 370, 352, 231, 459, 115, 116, 14, 117, 32, 464, 465, 466, 467, 468, 469, 481, 482, 483, 484, 485, 486, 487, 488, 489, 490, 491, 492, 493, 494] (by decide +kernel) (by decide +kernel)
set_option maxRecDepth 20000 in
theorem gL_law_X2_callsUntil : GoodIn wsL_law (wsV RL 92 RX2 yX2_callsUntil wsX2_callsUntil) := goodIn_app (goodIn_of _ (by decide +kernel)) ggL_law_X2_callsUntil
set_option maxRecDepth 20000 in
theorem ggL_law_X3_callsUntil : GoodIn wsL_law wsX3_callsUntil := goodIn_r _ [463, 58, 375, 376, 377, 5, 378, 171, 172, 173, 174, 470, 471, 472, 473, 474, 475, 476, 477, 478, 479, 480] (by decide +kernel) (by decide +kernel)
set_option maxRecDepth 20000 in
theorem gL_law_X3_callsUntil : GoodIn wsL_law (wsV RL 95 RX3 yX3_callsUntil wsX3_callsUntil) := goodIn_app (goodIn_of _ (by decide +kernel)) ggL_law_X3_callsUntil
theorem dL_law_0 : decode cL_law 0 = .ok (.new 7, 3) := by decide +kernel
theorem dL_law_3 : decode cL_law 3 = .ok (.dup, 1) := by decide +kernel
theorem dL_law_4 : decode cL_law 4 = .ok (.invokespecial 9, 3) := by decide +kernel
theorem dL_law_7 : decode cL_law 7 = .ok (.astore_n 1, 1) := by decide +kernel
theorem dL_law_8 : decode cL_law 8 = .ok (.new 10, 3) := by decide +kernel
theorem dL_law_11 : decode cL_law 11 = .ok (.dup, 1) := by decide +kernel
theorem dL_law_12 : decode cL_law 12 = .ok (.invokespecial 12, 3) := by decide +kernel
theorem dL_law_15 : decode cL_law 15 = .ok (.astore_n 2, 1) := by decide +kernel
theorem dL_law_16 : decode cL_law 16 = .ok (.iconst 0, 1) := by decide +kernel
theorem dL_law_17 : decode cL_law 17 = .ok (.istore_n 3, 1) := by decide +kernel
theorem dL_law_18 : decode cL_law 18 = .ok (.iload_n 3, 1) := by decide +kernel
theorem dL_law_19 : decode cL_law 19 = .ok (.aload_n 0, 1) := by decide +kernel
theorem dL_law_20 : decode cL_law 20 = .ok (.arraylength, 1) := by decide +kernel
theorem dL_law_21 : decode cL_law 21 = .ok (.iconst 3, 1) := by decide +kernel
theorem dL_law_22 : decode cL_law 22 = .ok (.isub, 1) := by decide +kernel
theorem dL_law_23 : decode cL_law 23 = .ok (.if_icmp .gt 561, 3) := by decide +kernel
theorem dL_law_26 : decode cL_law 26 = .ok (.aload_n 0, 1) := by decide +kernel
theorem dL_law_27 : decode cL_law 27 = .ok (.iload_n 3, 1) := by decide +kernel
theorem dL_law_28 : decode cL_law 28 = .ok (.iaload, 1) := by decide +kernel
theorem dL_law_29 : decode cL_law 29 = .ok (.bipush 31, 2) := by decide +kernel
theorem dL_law_31 : decode cL_law 31 = .ok (.iand, 1) := by decide +kernel
theorem dL_law_32 : decode cL_law 32 = .ok (.tableswitch 546 0 19 #[96, 129, 152, 165, 188, 211, 234, 247, 270, 283, 296, 319, 352, 385, 418, 441, 454, 487, 510, 523], 96) := by decide +kernel
theorem dL_law_128 : decode cL_law 128 = .ok (.aload_n 1, 1) := by decide +kernel
theorem dL_law_129 : decode cL_law 129 = .ok (.aload_n 0, 1) := by decide +kernel
theorem dL_law_130 : decode cL_law 130 = .ok (.iload_n 3, 1) := by decide +kernel
theorem dL_law_131 : decode cL_law 131 = .ok (.iconst 1, 1) := by decide +kernel
theorem dL_law_132 : decode cL_law 132 = .ok (.iadd, 1) := by decide +kernel
theorem dL_law_133 : decode cL_law 133 = .ok (.iaload, 1) := by decide +kernel
theorem dL_law_134 : decode cL_law 134 = .ok (.aload_n 0, 1) := by decide +kernel
theorem dL_law_135 : decode cL_law 135 = .ok (.iload_n 3, 1) := by decide +kernel
theorem dL_law_136 : decode cL_law 136 = .ok (.iconst 2, 1) := by decide +kernel
theorem dL_law_137 : decode cL_law 137 = .ok (.iadd, 1) := by decide +kernel
theorem dL_law_138 : decode cL_law 138 = .ok (.iaload, 1) := by decide +kernel
theorem dL_law_139 : decode cL_law 139 = .ok (.invokevirtual 13, 3) := by decide +kernel
theorem dL_law_142 : decode cL_law 142 = .ok (.aload_n 2, 1) := by decide +kernel
theorem dL_law_143 : decode cL_law 143 = .ok (.aload_n 0, 1) := by decide +kernel
theorem dL_law_144 : decode cL_law 144 = .ok (.iload_n 3, 1) := by decide +kernel
theorem dL_law_145 : decode cL_law 145 = .ok (.iconst 1, 1) := by decide +kernel
theorem dL_law_146 : decode cL_law 146 = .ok (.iadd, 1) := by decide +kernel
theorem dL_law_147 : decode cL_law 147 = .ok (.iaload, 1) := by decide +kernel
theorem dL_law_148 : decode cL_law 148 = .ok (.aload_n 0, 1) := by decide +kernel
theorem dL_law_149 : decode cL_law 149 = .ok (.iload_n 3, 1) := by decide +kernel
theorem dL_law_150 : decode cL_law 150 = .ok (.iconst 2, 1) := by decide +kernel
theorem dL_law_151 : decode cL_law 151 = .ok (.iadd, 1) := by decide +kernel
theorem dL_law_152 : decode cL_law 152 = .ok (.iaload, 1) := by decide +kernel
theorem dL_law_153 : decode cL_law 153 = .ok (.invokevirtual 17, 3) := by decide +kernel
theorem dL_law_156 : decode cL_law 156 = .ok (.if_icmp .eq 422, 3) := by decide +kernel
theorem dL_law_159 : decode cL_law 159 = .ok (.iconst 0, 1) := by decide +kernel
theorem dL_law_160 : decode cL_law 160 = .ok (.ireturn, 1) := by decide +kernel
theorem dL_law_161 : decode cL_law 161 = .ok (.aload_n 1, 1) := by decide +kernel
theorem dL_law_162 : decode cL_law 162 = .ok (.aload_n 0, 1) := by decide +kernel
theorem dL_law_163 : decode cL_law 163 = .ok (.iload_n 3, 1) := by decide +kernel
theorem dL_law_164 : decode cL_law 164 = .ok (.iconst 1, 1) := by decide +kernel
theorem dL_law_165 : decode cL_law 165 = .ok (.iadd, 1) := by decide +kernel
theorem dL_law_166 : decode cL_law 166 = .ok (.iaload, 1) := by decide +kernel
theorem dL_law_167 : decode cL_law 167 = .ok (.invokevirtual 18, 3) := by decide +kernel
theorem dL_law_170 : decode cL_law 170 = .ok (.aload_n 2, 1) := by decide +kernel
theorem dL_law_171 : decode cL_law 171 = .ok (.aload_n 0, 1) := by decide +kernel
theorem dL_law_172 : decode cL_law 172 = .ok (.iload_n 3, 1) := by decide +kernel
theorem dL_law_173 : decode cL_law 173 = .ok (.iconst 1, 1) := by decide +kernel
theorem dL_law_174 : decode cL_law 174 = .ok (.iadd, 1) := by decide +kernel
theorem dL_law_175 : decode cL_law 175 = .ok (.iaload, 1) := by decide +kernel
theorem dL_law_176 : decode cL_law 176 = .ok (.invokevirtual 22, 3) := by decide +kernel
theorem dL_law_179 : decode cL_law 179 = .ok (.if_icmp .eq 399, 3) := by decide +kernel
theorem dL_law_182 : decode cL_law 182 = .ok (.iconst 0, 1) := by decide +kernel
theorem dL_law_183 : decode cL_law 183 = .ok (.ireturn, 1) := by decide +kernel
theorem dL_law_184 : decode cL_law 184 = .ok (.aload_n 1, 1) := by decide +kernel
theorem dL_law_185 : decode cL_law 185 = .ok (.invokevirtual 23, 3) := by decide +kernel
theorem dL_law_188 : decode cL_law 188 = .ok (.aload_n 2, 1) := by decide +kernel
theorem dL_law_189 : decode cL_law 189 = .ok (.invokevirtual 27, 3) := by decide +kernel
theorem dL_law_192 : decode cL_law 192 = .ok (.if_icmp .eq 386, 3) := by decide +kernel
theorem dL_law_195 : decode cL_law 195 = .ok (.iconst 0, 1) := by decide +kernel
theorem dL_law_196 : decode cL_law 196 = .ok (.ireturn, 1) := by decide +kernel
theorem dL_law_197 : decode cL_law 197 = .ok (.aload_n 1, 1) := by decide +kernel
theorem dL_law_198 : decode cL_law 198 = .ok (.aload_n 0, 1) := by decide +kernel
theorem dL_law_199 : decode cL_law 199 = .ok (.iload_n 3, 1) := by decide +kernel
theorem dL_law_200 : decode cL_law 200 = .ok (.iconst 1, 1) := by decide +kernel
theorem dL_law_201 : decode cL_law 201 = .ok (.iadd, 1) := by decide +kernel
theorem dL_law_202 : decode cL_law 202 = .ok (.iaload, 1) := by decide +kernel
theorem dL_law_203 : decode cL_law 203 = .ok (.invokevirtual 28, 3) := by decide +kernel
theorem dL_law_206 : decode cL_law 206 = .ok (.aload_n 2, 1) := by decide +kernel
theorem dL_law_207 : decode cL_law 207 = .ok (.aload_n 0, 1) := by decide +kernel
theorem dL_law_208 : decode cL_law 208 = .ok (.iload_n 3, 1) := by decide +kernel
theorem dL_law_209 : decode cL_law 209 = .ok (.iconst 1, 1) := by decide +kernel
theorem dL_law_210 : decode cL_law 210 = .ok (.iadd, 1) := by decide +kernel
theorem dL_law_211 : decode cL_law 211 = .ok (.iaload, 1) := by decide +kernel
theorem dL_law_212 : decode cL_law 212 = .ok (.invokevirtual 31, 3) := by decide +kernel
theorem dL_law_215 : decode cL_law 215 = .ok (.if_icmp .eq 363, 3) := by decide +kernel
theorem dL_law_218 : decode cL_law 218 = .ok (.iconst 0, 1) := by decide +kernel
theorem dL_law_219 : decode cL_law 219 = .ok (.ireturn, 1) := by decide +kernel
theorem dL_law_220 : decode cL_law 220 = .ok (.aload_n 1, 1) := by decide +kernel
theorem dL_law_221 : decode cL_law 221 = .ok (.aload_n 0, 1) := by decide +kernel
theorem dL_law_222 : decode cL_law 222 = .ok (.iload_n 3, 1) := by decide +kernel
theorem dL_law_223 : decode cL_law 223 = .ok (.iconst 1, 1) := by decide +kernel
theorem dL_law_224 : decode cL_law 224 = .ok (.iadd, 1) := by decide +kernel
theorem dL_law_225 : decode cL_law 225 = .ok (.iaload, 1) := by decide +kernel
theorem dL_law_226 : decode cL_law 226 = .ok (.invokevirtual 32, 3) := by decide +kernel
theorem dL_law_229 : decode cL_law 229 = .ok (.aload_n 2, 1) := by decide +kernel
theorem dL_law_230 : decode cL_law 230 = .ok (.aload_n 0, 1) := by decide +kernel
theorem dL_law_231 : decode cL_law 231 = .ok (.iload_n 3, 1) := by decide +kernel
theorem dL_law_232 : decode cL_law 232 = .ok (.iconst 1, 1) := by decide +kernel
theorem dL_law_233 : decode cL_law 233 = .ok (.iadd, 1) := by decide +kernel
theorem dL_law_234 : decode cL_law 234 = .ok (.iaload, 1) := by decide +kernel
theorem dL_law_235 : decode cL_law 235 = .ok (.invokevirtual 35, 3) := by decide +kernel
theorem dL_law_238 : decode cL_law 238 = .ok (.if_icmp .eq 340, 3) := by decide +kernel
theorem dL_law_241 : decode cL_law 241 = .ok (.iconst 0, 1) := by decide +kernel
theorem dL_law_242 : decode cL_law 242 = .ok (.ireturn, 1) := by decide +kernel
theorem dL_law_243 : decode cL_law 243 = .ok (.aload_n 1, 1) := by decide +kernel
theorem dL_law_244 : decode cL_law 244 = .ok (.aload_n 0, 1) := by decide +kernel
theorem dL_law_245 : decode cL_law 245 = .ok (.iload_n 3, 1) := by decide +kernel
theorem dL_law_246 : decode cL_law 246 = .ok (.iconst 1, 1) := by decide +kernel
theorem dL_law_247 : decode cL_law 247 = .ok (.iadd, 1) := by decide +kernel
theorem dL_law_248 : decode cL_law 248 = .ok (.iaload, 1) := by decide +kernel
theorem dL_law_249 : decode cL_law 249 = .ok (.invokevirtual 36, 3) := by decide +kernel
theorem dL_law_252 : decode cL_law 252 = .ok (.aload_n 2, 1) := by decide +kernel
theorem dL_law_253 : decode cL_law 253 = .ok (.aload_n 0, 1) := by decide +kernel
theorem dL_law_254 : decode cL_law 254 = .ok (.iload_n 3, 1) := by decide +kernel
theorem dL_law_255 : decode cL_law 255 = .ok (.iconst 1, 1) := by decide +kernel
theorem dL_law_256 : decode cL_law 256 = .ok (.iadd, 1) := by decide +kernel
theorem dL_law_257 : decode cL_law 257 = .ok (.iaload, 1) := by decide +kernel
theorem dL_law_258 : decode cL_law 258 = .ok (.invokevirtual 39, 3) := by decide +kernel
theorem dL_law_261 : decode cL_law 261 = .ok (.if_icmp .eq 317, 3) := by decide +kernel
theorem dL_law_264 : decode cL_law 264 = .ok (.iconst 0, 1) := by decide +kernel
theorem dL_law_265 : decode cL_law 265 = .ok (.ireturn, 1) := by decide +kernel
theorem dL_law_266 : decode cL_law 266 = .ok (.aload_n 1, 1) := by decide +kernel
theorem dL_law_267 : decode cL_law 267 = .ok (.invokevirtual 40, 3) := by decide +kernel
theorem dL_law_270 : decode cL_law 270 = .ok (.aload_n 2, 1) := by decide +kernel
theorem dL_law_271 : decode cL_law 271 = .ok (.invokevirtual 43, 3) := by decide +kernel
theorem dL_law_274 : decode cL_law 274 = .ok (.if_icmp .eq 304, 3) := by decide +kernel
theorem dL_law_277 : decode cL_law 277 = .ok (.iconst 0, 1) := by decide +kernel
theorem dL_law_278 : decode cL_law 278 = .ok (.ireturn, 1) := by decide +kernel
theorem dL_law_279 : decode cL_law 279 = .ok (.aload_n 1, 1) := by decide +kernel
theorem dL_law_280 : decode cL_law 280 = .ok (.aload_n 0, 1) := by decide +kernel
theorem dL_law_281 : decode cL_law 281 = .ok (.iload_n 3, 1) := by decide +kernel
theorem dL_law_282 : decode cL_law 282 = .ok (.iconst 1, 1) := by decide +kernel
theorem dL_law_283 : decode cL_law 283 = .ok (.iadd, 1) := by decide +kernel
theorem dL_law_284 : decode cL_law 284 = .ok (.iaload, 1) := by decide +kernel
theorem dL_law_285 : decode cL_law 285 = .ok (.invokevirtual 44, 3) := by decide +kernel
theorem dL_law_288 : decode cL_law 288 = .ok (.aload_n 2, 1) := by decide +kernel
theorem dL_law_289 : decode cL_law 289 = .ok (.aload_n 0, 1) := by decide +kernel
theorem dL_law_290 : decode cL_law 290 = .ok (.iload_n 3, 1) := by decide +kernel
theorem dL_law_291 : decode cL_law 291 = .ok (.iconst 1, 1) := by decide +kernel
theorem dL_law_292 : decode cL_law 292 = .ok (.iadd, 1) := by decide +kernel
theorem dL_law_293 : decode cL_law 293 = .ok (.iaload, 1) := by decide +kernel
theorem dL_law_294 : decode cL_law 294 = .ok (.invokevirtual 47, 3) := by decide +kernel
theorem dL_law_297 : decode cL_law 297 = .ok (.if_icmp .eq 281, 3) := by decide +kernel
theorem dL_law_300 : decode cL_law 300 = .ok (.iconst 0, 1) := by decide +kernel
theorem dL_law_301 : decode cL_law 301 = .ok (.ireturn, 1) := by decide +kernel
theorem dL_law_302 : decode cL_law 302 = .ok (.aload_n 1, 1) := by decide +kernel
theorem dL_law_303 : decode cL_law 303 = .ok (.invokevirtual 48, 3) := by decide +kernel
theorem dL_law_306 : decode cL_law 306 = .ok (.aload_n 2, 1) := by decide +kernel
theorem dL_law_307 : decode cL_law 307 = .ok (.invokevirtual 51, 3) := by decide +kernel
theorem dL_law_310 : decode cL_law 310 = .ok (.if_icmp .eq 268, 3) := by decide +kernel
theorem dL_law_313 : decode cL_law 313 = .ok (.iconst 0, 1) := by decide +kernel
theorem dL_law_314 : decode cL_law 314 = .ok (.ireturn, 1) := by decide +kernel
theorem dL_law_315 : decode cL_law 315 = .ok (.aload_n 1, 1) := by decide +kernel
theorem dL_law_316 : decode cL_law 316 = .ok (.invokevirtual 52, 3) := by decide +kernel
theorem dL_law_319 : decode cL_law 319 = .ok (.aload_n 2, 1) := by decide +kernel
theorem dL_law_320 : decode cL_law 320 = .ok (.invokevirtual 55, 3) := by decide +kernel
theorem dL_law_323 : decode cL_law 323 = .ok (.if_icmp .eq 255, 3) := by decide +kernel
theorem dL_law_326 : decode cL_law 326 = .ok (.iconst 0, 1) := by decide +kernel
theorem dL_law_327 : decode cL_law 327 = .ok (.ireturn, 1) := by decide +kernel
theorem dL_law_328 : decode cL_law 328 = .ok (.aload_n 1, 1) := by decide +kernel
theorem dL_law_329 : decode cL_law 329 = .ok (.aload_n 0, 1) := by decide +kernel
theorem dL_law_330 : decode cL_law 330 = .ok (.iload_n 3, 1) := by decide +kernel
theorem dL_law_331 : decode cL_law 331 = .ok (.iconst 1, 1) := by decide +kernel
theorem dL_law_332 : decode cL_law 332 = .ok (.iadd, 1) := by decide +kernel
theorem dL_law_333 : decode cL_law 333 = .ok (.iaload, 1) := by decide +kernel
theorem dL_law_334 : decode cL_law 334 = .ok (.invokevirtual 56, 3) := by decide +kernel
theorem dL_law_337 : decode cL_law 337 = .ok (.aload_n 2, 1) := by decide +kernel
theorem dL_law_338 : decode cL_law 338 = .ok (.aload_n 0, 1) := by decide +kernel
theorem dL_law_339 : decode cL_law 339 = .ok (.iload_n 3, 1) := by decide +kernel
theorem dL_law_340 : decode cL_law 340 = .ok (.iconst 1, 1) := by decide +kernel
theorem dL_law_341 : decode cL_law 341 = .ok (.iadd, 1) := by decide +kernel
theorem dL_law_342 : decode cL_law 342 = .ok (.iaload, 1) := by decide +kernel
theorem dL_law_343 : decode cL_law 343 = .ok (.invokevirtual 59, 3) := by decide +kernel
theorem dL_law_346 : decode cL_law 346 = .ok (.if_icmp .eq 232, 3) := by decide +kernel
theorem dL_law_349 : decode cL_law 349 = .ok (.iconst 0, 1) := by decide +kernel
theorem dL_law_350 : decode cL_law 350 = .ok (.ireturn, 1) := by decide +kernel
theorem dL_law_351 : decode cL_law 351 = .ok (.aload_n 1, 1) := by decide +kernel
theorem dL_law_352 : decode cL_law 352 = .ok (.aload_n 0, 1) := by decide +kernel
theorem dL_law_353 : decode cL_law 353 = .ok (.iload_n 3, 1) := by decide +kernel
theorem dL_law_354 : decode cL_law 354 = .ok (.iconst 1, 1) := by decide +kernel
theorem dL_law_355 : decode cL_law 355 = .ok (.iadd, 1) := by decide +kernel
theorem dL_law_356 : decode cL_law 356 = .ok (.iaload, 1) := by decide +kernel
theorem dL_law_357 : decode cL_law 357 = .ok (.aload_n 0, 1) := by decide +kernel
theorem dL_law_358 : decode cL_law 358 = .ok (.iload_n 3, 1) := by decide +kernel
theorem dL_law_359 : decode cL_law 359 = .ok (.iconst 2, 1) := by decide +kernel
theorem dL_law_360 : decode cL_law 360 = .ok (.iadd, 1) := by decide +kernel
theorem dL_law_361 : decode cL_law 361 = .ok (.iaload, 1) := by decide +kernel
theorem dL_law_362 : decode cL_law 362 = .ok (.invokevirtual 60, 3) := by decide +kernel
theorem dL_law_365 : decode cL_law 365 = .ok (.aload_n 2, 1) := by decide +kernel
theorem dL_law_366 : decode cL_law 366 = .ok (.aload_n 0, 1) := by decide +kernel
theorem dL_law_367 : decode cL_law 367 = .ok (.iload_n 3, 1) := by decide +kernel
theorem dL_law_368 : decode cL_law 368 = .ok (.iconst 1, 1) := by decide +kernel
theorem dL_law_369 : decode cL_law 369 = .ok (.iadd, 1) := by decide +kernel
theorem dL_law_370 : decode cL_law 370 = .ok (.iaload, 1) := by decide +kernel
theorem dL_law_371 : decode cL_law 371 = .ok (.aload_n 0, 1) := by decide +kernel
theorem dL_law_372 : decode cL_law 372 = .ok (.iload_n 3, 1) := by decide +kernel
theorem dL_law_373 : decode cL_law 373 = .ok (.iconst 2, 1) := by decide +kernel
theorem dL_law_374 : decode cL_law 374 = .ok (.iadd, 1) := by decide +kernel
theorem dL_law_375 : decode cL_law 375 = .ok (.iaload, 1) := by decide +kernel
theorem dL_law_376 : decode cL_law 376 = .ok (.invokevirtual 63, 3) := by decide +kernel
theorem dL_law_379 : decode cL_law 379 = .ok (.if_icmp .eq 199, 3) := by decide +kernel
theorem dL_law_382 : decode cL_law 382 = .ok (.iconst 0, 1) := by decide +kernel
theorem dL_law_383 : decode cL_law 383 = .ok (.ireturn, 1) := by decide +kernel
theorem dL_law_384 : decode cL_law 384 = .ok (.aload_n 1, 1) := by decide +kernel
theorem dL_law_385 : decode cL_law 385 = .ok (.aload_n 0, 1) := by decide +kernel
theorem dL_law_386 : decode cL_law 386 = .ok (.iload_n 3, 1) := by decide +kernel
theorem dL_law_387 : decode cL_law 387 = .ok (.iconst 1, 1) := by decide +kernel
theorem dL_law_388 : decode cL_law 388 = .ok (.iadd, 1) := by decide +kernel
theorem dL_law_389 : decode cL_law 389 = .ok (.iaload, 1) := by decide +kernel
theorem dL_law_390 : decode cL_law 390 = .ok (.aload_n 0, 1) := by decide +kernel
theorem dL_law_391 : decode cL_law 391 = .ok (.iload_n 3, 1) := by decide +kernel
theorem dL_law_392 : decode cL_law 392 = .ok (.iconst 2, 1) := by decide +kernel
theorem dL_law_393 : decode cL_law 393 = .ok (.iadd, 1) := by decide +kernel
theorem dL_law_394 : decode cL_law 394 = .ok (.iaload, 1) := by decide +kernel
theorem dL_law_395 : decode cL_law 395 = .ok (.invokevirtual 64, 3) := by decide +kernel
theorem dL_law_398 : decode cL_law 398 = .ok (.aload_n 2, 1) := by decide +kernel
theorem dL_law_399 : decode cL_law 399 = .ok (.aload_n 0, 1) := by decide +kernel
theorem dL_law_400 : decode cL_law 400 = .ok (.iload_n 3, 1) := by decide +kernel
theorem dL_law_401 : decode cL_law 401 = .ok (.iconst 1, 1) := by decide +kernel
theorem dL_law_402 : decode cL_law 402 = .ok (.iadd, 1) := by decide +kernel
theorem dL_law_403 : decode cL_law 403 = .ok (.iaload, 1) := by decide +kernel
theorem dL_law_404 : decode cL_law 404 = .ok (.aload_n 0, 1) := by decide +kernel
theorem dL_law_405 : decode cL_law 405 = .ok (.iload_n 3, 1) := by decide +kernel
theorem dL_law_406 : decode cL_law 406 = .ok (.iconst 2, 1) := by decide +kernel
theorem dL_law_407 : decode cL_law 407 = .ok (.iadd, 1) := by decide +kernel
theorem dL_law_408 : decode cL_law 408 = .ok (.iaload, 1) := by decide +kernel
theorem dL_law_409 : decode cL_law 409 = .ok (.invokevirtual 67, 3) := by decide +kernel
theorem dL_law_412 : decode cL_law 412 = .ok (.if_icmp .eq 166, 3) := by decide +kernel
theorem dL_law_415 : decode cL_law 415 = .ok (.iconst 0, 1) := by decide +kernel
theorem dL_law_416 : decode cL_law 416 = .ok (.ireturn, 1) := by decide +kernel
theorem dL_law_417 : decode cL_law 417 = .ok (.aload_n 1, 1) := by decide +kernel
theorem dL_law_418 : decode cL_law 418 = .ok (.aload_n 0, 1) := by decide +kernel
theorem dL_law_419 : decode cL_law 419 = .ok (.iload_n 3, 1) := by decide +kernel
theorem dL_law_420 : decode cL_law 420 = .ok (.iconst 1, 1) := by decide +kernel
theorem dL_law_421 : decode cL_law 421 = .ok (.iadd, 1) := by decide +kernel
theorem dL_law_422 : decode cL_law 422 = .ok (.iaload, 1) := by decide +kernel
theorem dL_law_423 : decode cL_law 423 = .ok (.aload_n 0, 1) := by decide +kernel
theorem dL_law_424 : decode cL_law 424 = .ok (.iload_n 3, 1) := by decide +kernel
theorem dL_law_425 : decode cL_law 425 = .ok (.iconst 2, 1) := by decide +kernel
theorem dL_law_426 : decode cL_law 426 = .ok (.iadd, 1) := by decide +kernel
theorem dL_law_427 : decode cL_law 427 = .ok (.iaload, 1) := by decide +kernel
theorem dL_law_428 : decode cL_law 428 = .ok (.invokevirtual 68, 3) := by decide +kernel
theorem dL_law_431 : decode cL_law 431 = .ok (.aload_n 2, 1) := by decide +kernel
theorem dL_law_432 : decode cL_law 432 = .ok (.aload_n 0, 1) := by decide +kernel
theorem dL_law_433 : decode cL_law 433 = .ok (.iload_n 3, 1) := by decide +kernel
theorem dL_law_434 : decode cL_law 434 = .ok (.iconst 1, 1) := by decide +kernel
theorem dL_law_435 : decode cL_law 435 = .ok (.iadd, 1) := by decide +kernel
theorem dL_law_436 : decode cL_law 436 = .ok (.iaload, 1) := by decide +kernel
theorem dL_law_437 : decode cL_law 437 = .ok (.aload_n 0, 1) := by decide +kernel
theorem dL_law_438 : decode cL_law 438 = .ok (.iload_n 3, 1) := by decide +kernel
theorem dL_law_439 : decode cL_law 439 = .ok (.iconst 2, 1) := by decide +kernel
theorem dL_law_440 : decode cL_law 440 = .ok (.iadd, 1) := by decide +kernel
theorem dL_law_441 : decode cL_law 441 = .ok (.iaload, 1) := by decide +kernel
theorem dL_law_442 : decode cL_law 442 = .ok (.invokevirtual 71, 3) := by decide +kernel
theorem dL_law_445 : decode cL_law 445 = .ok (.if_icmp .eq 133, 3) := by decide +kernel
theorem dL_law_448 : decode cL_law 448 = .ok (.iconst 0, 1) := by decide +kernel
theorem dL_law_449 : decode cL_law 449 = .ok (.ireturn, 1) := by decide +kernel
theorem dL_law_450 : decode cL_law 450 = .ok (.aload_n 1, 1) := by decide +kernel
theorem dL_law_451 : decode cL_law 451 = .ok (.aload_n 0, 1) := by decide +kernel
theorem dL_law_452 : decode cL_law 452 = .ok (.iload_n 3, 1) := by decide +kernel
theorem dL_law_453 : decode cL_law 453 = .ok (.iconst 1, 1) := by decide +kernel
theorem dL_law_454 : decode cL_law 454 = .ok (.iadd, 1) := by decide +kernel
theorem dL_law_455 : decode cL_law 455 = .ok (.iaload, 1) := by decide +kernel
theorem dL_law_456 : decode cL_law 456 = .ok (.invokevirtual 72, 3) := by decide +kernel
theorem dL_law_459 : decode cL_law 459 = .ok (.aload_n 2, 1) := by decide +kernel
theorem dL_law_460 : decode cL_law 460 = .ok (.aload_n 0, 1) := by decide +kernel
theorem dL_law_461 : decode cL_law 461 = .ok (.iload_n 3, 1) := by decide +kernel
theorem dL_law_462 : decode cL_law 462 = .ok (.iconst 1, 1) := by decide +kernel
theorem dL_law_463 : decode cL_law 463 = .ok (.iadd, 1) := by decide +kernel
theorem dL_law_464 : decode cL_law 464 = .ok (.iaload, 1) := by decide +kernel
theorem dL_law_465 : decode cL_law 465 = .ok (.invokevirtual 75, 3) := by decide +kernel
theorem dL_law_468 : decode cL_law 468 = .ok (.if_icmp .eq 110, 3) := by decide +kernel
theorem dL_law_471 : decode cL_law 471 = .ok (.iconst 0, 1) := by decide +kernel
theorem dL_law_472 : decode cL_law 472 = .ok (.ireturn, 1) := by decide +kernel
theorem dL_law_473 : decode cL_law 473 = .ok (.aload_n 1, 1) := by decide +kernel
theorem dL_law_474 : decode cL_law 474 = .ok (.invokevirtual 76, 3) := by decide +kernel
theorem dL_law_477 : decode cL_law 477 = .ok (.aload_n 2, 1) := by decide +kernel
theorem dL_law_478 : decode cL_law 478 = .ok (.invokevirtual 79, 3) := by decide +kernel
theorem dL_law_481 : decode cL_law 481 = .ok (.if_icmp .eq 97, 3) := by decide +kernel
theorem dL_law_484 : decode cL_law 484 = .ok (.iconst 0, 1) := by decide +kernel
theorem dL_law_485 : decode cL_law 485 = .ok (.ireturn, 1) := by decide +kernel
theorem dL_law_486 : decode cL_law 486 = .ok (.aload_n 1, 1) := by decide +kernel
theorem dL_law_487 : decode cL_law 487 = .ok (.aload_n 0, 1) := by decide +kernel
theorem dL_law_488 : decode cL_law 488 = .ok (.iload_n 3, 1) := by decide +kernel
theorem dL_law_489 : decode cL_law 489 = .ok (.iconst 1, 1) := by decide +kernel
theorem dL_law_490 : decode cL_law 490 = .ok (.iadd, 1) := by decide +kernel
theorem dL_law_491 : decode cL_law 491 = .ok (.iaload, 1) := by decide +kernel
theorem dL_law_492 : decode cL_law 492 = .ok (.aload_n 0, 1) := by decide +kernel
theorem dL_law_493 : decode cL_law 493 = .ok (.iload_n 3, 1) := by decide +kernel
theorem dL_law_494 : decode cL_law 494 = .ok (.iconst 2, 1) := by decide +kernel
theorem dL_law_495 : decode cL_law 495 = .ok (.iadd, 1) := by decide +kernel
theorem dL_law_496 : decode cL_law 496 = .ok (.iaload, 1) := by decide +kernel
theorem dL_law_497 : decode cL_law 497 = .ok (.invokevirtual 80, 3) := by decide +kernel
theorem dL_law_500 : decode cL_law 500 = .ok (.aload_n 2, 1) := by decide +kernel
theorem dL_law_501 : decode cL_law 501 = .ok (.aload_n 0, 1) := by decide +kernel
theorem dL_law_502 : decode cL_law 502 = .ok (.iload_n 3, 1) := by decide +kernel
theorem dL_law_503 : decode cL_law 503 = .ok (.iconst 1, 1) := by decide +kernel
theorem dL_law_504 : decode cL_law 504 = .ok (.iadd, 1) := by decide +kernel
theorem dL_law_505 : decode cL_law 505 = .ok (.iaload, 1) := by decide +kernel
theorem dL_law_506 : decode cL_law 506 = .ok (.aload_n 0, 1) := by decide +kernel
theorem dL_law_507 : decode cL_law 507 = .ok (.iload_n 3, 1) := by decide +kernel
theorem dL_law_508 : decode cL_law 508 = .ok (.iconst 2, 1) := by decide +kernel
theorem dL_law_509 : decode cL_law 509 = .ok (.iadd, 1) := by decide +kernel
theorem dL_law_510 : decode cL_law 510 = .ok (.iaload, 1) := by decide +kernel
theorem dL_law_511 : decode cL_law 511 = .ok (.invokevirtual 83, 3) := by decide +kernel
theorem dL_law_514 : decode cL_law 514 = .ok (.if_icmp .eq 64, 3) := by decide +kernel
theorem dL_law_517 : decode cL_law 517 = .ok (.iconst 0, 1) := by decide +kernel
theorem dL_law_518 : decode cL_law 518 = .ok (.ireturn, 1) := by decide +kernel
theorem dL_law_519 : decode cL_law 519 = .ok (.aload_n 1, 1) := by decide +kernel
theorem dL_law_520 : decode cL_law 520 = .ok (.aload_n 0, 1) := by decide +kernel
theorem dL_law_521 : decode cL_law 521 = .ok (.iload_n 3, 1) := by decide +kernel
theorem dL_law_522 : decode cL_law 522 = .ok (.iconst 1, 1) := by decide +kernel
theorem dL_law_523 : decode cL_law 523 = .ok (.iadd, 1) := by decide +kernel
theorem dL_law_524 : decode cL_law 524 = .ok (.iaload, 1) := by decide +kernel
theorem dL_law_525 : decode cL_law 525 = .ok (.invokevirtual 84, 3) := by decide +kernel
theorem dL_law_528 : decode cL_law 528 = .ok (.aload_n 2, 1) := by decide +kernel
theorem dL_law_529 : decode cL_law 529 = .ok (.aload_n 0, 1) := by decide +kernel
theorem dL_law_530 : decode cL_law 530 = .ok (.iload_n 3, 1) := by decide +kernel
theorem dL_law_531 : decode cL_law 531 = .ok (.iconst 1, 1) := by decide +kernel
theorem dL_law_532 : decode cL_law 532 = .ok (.iadd, 1) := by decide +kernel
theorem dL_law_533 : decode cL_law 533 = .ok (.iaload, 1) := by decide +kernel
theorem dL_law_534 : decode cL_law 534 = .ok (.invokevirtual 87, 3) := by decide +kernel
theorem dL_law_537 : decode cL_law 537 = .ok (.if_icmp .eq 41, 3) := by decide +kernel
theorem dL_law_540 : decode cL_law 540 = .ok (.iconst 0, 1) := by decide +kernel
theorem dL_law_541 : decode cL_law 541 = .ok (.ireturn, 1) := by decide +kernel
theorem dL_law_542 : decode cL_law 542 = .ok (.aload_n 1, 1) := by decide +kernel
theorem dL_law_543 : decode cL_law 543 = .ok (.invokevirtual 88, 3) := by decide +kernel
theorem dL_law_546 : decode cL_law 546 = .ok (.aload_n 2, 1) := by decide +kernel
theorem dL_law_547 : decode cL_law 547 = .ok (.invokevirtual 91, 3) := by decide +kernel
end
section
theorem dL_law_550 : decode cL_law 550 = .ok (.if_icmp .eq 28, 3) := by decide +kernel
theorem dL_law_553 : decode cL_law 553 = .ok (.iconst 0, 1) := by decide +kernel
theorem dL_law_554 : decode cL_law 554 = .ok (.ireturn, 1) := by decide +kernel
theorem dL_law_555 : decode cL_law 555 = .ok (.aload_n 1, 1) := by decide +kernel
theorem dL_law_556 : decode cL_law 556 = .ok (.aload_n 0, 1) := by decide +kernel
theorem dL_law_557 : decode cL_law 557 = .ok (.iload_n 3, 1) := by decide +kernel
theorem dL_law_558 : decode cL_law 558 = .ok (.iconst 1, 1) := by decide +kernel
theorem dL_law_559 : decode cL_law 559 = .ok (.iadd, 1) := by decide +kernel
theorem dL_law_560 : decode cL_law 560 = .ok (.iaload, 1) := by decide +kernel
theorem dL_law_561 : decode cL_law 561 = .ok (.invokevirtual 92, 3) := by decide +kernel
theorem dL_law_564 : decode cL_law 564 = .ok (.aload_n 2, 1) := by decide +kernel
theorem dL_law_565 : decode cL_law 565 = .ok (.aload_n 0, 1) := by decide +kernel
theorem dL_law_566 : decode cL_law 566 = .ok (.iload_n 3, 1) := by decide +kernel
theorem dL_law_567 : decode cL_law 567 = .ok (.iconst 1, 1) := by decide +kernel
theorem dL_law_568 : decode cL_law 568 = .ok (.iadd, 1) := by decide +kernel
theorem dL_law_569 : decode cL_law 569 = .ok (.iaload, 1) := by decide +kernel
theorem dL_law_570 : decode cL_law 570 = .ok (.invokevirtual 95, 3) := by decide +kernel
theorem dL_law_573 : decode cL_law 573 = .ok (.if_icmp .eq 5, 3) := by decide +kernel
theorem dL_law_576 : decode cL_law 576 = .ok (.iconst 0, 1) := by decide +kernel
theorem dL_law_577 : decode cL_law 577 = .ok (.ireturn, 1) := by decide +kernel
theorem dL_law_578 : decode cL_law 578 = .ok (.iinc 3 3, 3) := by decide +kernel
theorem dL_law_581 : decode cL_law 581 = .ok (.goto (-563), 3) := by decide +kernel
theorem dL_law_584 : decode cL_law 584 = .ok (.iconst 1, 1) := by decide +kernel
theorem dL_law_585 : decode cL_law 585 = .ok (.ireturn, 1) := by decide +kernel
abbrev vwCl : List vw_C := [(RX0, TX0, 14), (RX1, TX1, 3), (RX2, TX2, 6), (RX3, TX3, 11)]
/-! ===== END printed: names (the pool left out) ===== -/
end
section
abbrev wM : Type := Nat → Nat → Nat → Int32
abbrev wm : Type := Nat → Nat → Int32
abbrev wL : Type := va_G × ClassId × ClassId × ClassId × (Nat → Nat → Nat) × List (Nat × Nat)
def qw_ad (L : wL) (k c : Nat) : Nat := L.2.2.2.2.1 k c
abbrev qw_cl (L : wL) : List (Nat × Nat) := L.2.2.2.2.2
def qw_in (L : wL) (k c : Nat) : Prop := (k, c) ∈ qw_cl L
def qw_u1 (M : wM) (k : Nat) (m : wm) : wM := fun x => if x = k then m else M x
def qw_uc (m : wm) (c : Nat) (f : Nat → Int32) : wm := fun x => if x = c then f else m x
def qw_u2 (m : wm) (c i : Nat) (v : Int32) : wm := qw_uc m c (upd (m c) i v)
theorem qw_u1s (M : wM) (k : Nat) (m : wm) : qw_u1 M k m k = m := if_pos rfl
theorem qw_u1n (M : wM) {k j : Nat} (m : wm) (h : j ≠ k) : qw_u1 M k m j = M j := if_neg h
theorem qw_u11 (M : wM) (k : Nat) (m m' : wm) : qw_u1 (qw_u1 M k m) k m' = qw_u1 M k m' := by
  funext x
  by_cases h : x = k
  · simp [qw_u1, h]
  · simp [qw_u1, h]
theorem qw_u1i (M : wM) (k : Nat) : qw_u1 M k (M k) = M := by
  funext x
  by_cases h : x = k
  · simp [qw_u1, h]
  · simp [qw_u1, h]
theorem qw_ucs (m : wm) (c : Nat) (f : Nat → Int32) : qw_uc m c f c = f := if_pos rfl
theorem qw_ucn (m : wm) {c x : Nat} (f : Nat → Int32) (h : x ≠ c) : qw_uc m c f x = m x := if_neg h
theorem qw_u2_at (m : wm) (c i : Nat) (v : Int32) (x y : Nat) : qw_u2 m c i v x y = if x = c ∧ y = i then v else m x y := by
  by_cases h : x = c
  · subst h
    by_cases h2 : y = i
    · simp [qw_u2, qw_uc, upd, h2]
    · simp [qw_u2, qw_uc, upd, h2]
  · simp [qw_u2, qw_uc, h]
abbrev qw_T (L : wL) : List (ClassId × FieldType) := [(L.2.1, .int), (L.2.2.1, .object "ReturnPile$State"), (L.2.2.2.1, .array .int)]
/-- the state k is there, the pile is there, the reference is there -/
def qw_k (L : wL) (k : Nat) : Prop := k < 8 ∧ ∀ c : Nat, c < 25 → qw_in L k c
def qw_8 (L : wL) : Prop := ∀ c : Nat, c < 4 → qw_in L 8 c
def qw_9 (L : wL) : Prop := ∀ c : Nat, c < 7 → qw_in L 9 c
def qw_R (L : wL) : Prop := qw_8 L ∧ ∀ k : Nat, k < 8 → qw_k L k
def qw_lnS (c : Nat) : Nat := if c < 3 then 4 else if c = 3 then 200 else if c < 13 then 40 else if c < 16 then 16 else if c < 19 then 200 else 12
def qw_ln9 (c : Nat) : Nat := if c = 1 then 935 else if c = 2 then 4675 else if c = 3 then 935 else if c = 4 then 120 else if c = 5 then 16 else 40
def qw_ln (k c : Nat) : Nat := if k < 8 then qw_lnS c else if k = 8 then 120 else qw_ln9 c
def qw_nr (c : Nat) : Nat := if c = 4 then 5 else if c = 7 then 6 else 3
def qw_rb (c : Nat) : Nat := if c = 4 then 8 else if c = 5 then 13 else if c = 6 then 16 else 19
def qw_ct (L : wL) (M : wM) (hp : Nat → Nat) (k c : Nat) : va_E :=
  if k < 8 then
    if c = 0 then .inr (0, [.int (M k 0 0), .int (M k 0 1), .int (M k 0 2), .int (M k 0 3), .int (M k 0 4), .int (M k 0 5), .int (M k 0 6), .ref (qw_ad L k 1), .ref (qw_ad L k 2), .ref (qw_ad L k 3), .ref (qw_ad L k 4), .ref (qw_ad L k 5), .ref (qw_ad L k 6), .ref (qw_ad L k 7)])
    else if 4 ≤ c ∧ c < 8 then .inl (L.2.2.2.1, qw_nr c, .inr (.inr (.inr (.inr (fun i => if i < qw_nr c then some (qw_ad L k (qw_rb c + i)) else none)))))
    else .inl (L.2.1, qw_ln k c, .inl (M k c))
  else if k = 8 then
    if c = 0 then .inr (2, [.ref (qw_ad L 0 0), .ref (qw_ad L 1 0), .ref (qw_ad L 2 0), .ref (qw_ad L 8 1), .int (M k 0 4), .ref (qw_ad L 8 2)])
    else if c = 1 then .inl (L.2.2.1, 5, .inr (.inr (.inr (.inr (fun i => if i < 5 then some (qw_ad L (hp i) 0) else none)))))
    else if c = 2 then .inr (1, [.ref (qw_ad L 8 3), .int (M k 2 1), .int (M k 2 2)])
    else .inl (L.2.1, qw_ln k c, .inl (M k c))
  else
    if c = 0 then .inr (3, [.ref (qw_ad L 9 1), .ref (qw_ad L 9 2), .ref (qw_ad L 9 3), .int (M k 0 3), .int (M k 0 4), .ref (qw_ad L 9 4), .int (M k 0 6), .int (M k 0 7), .int (M k 0 8), .ref (qw_ad L 9 5), .ref (qw_ad L 9 6)])
    else .inl (L.2.1, qw_ln k c, .inl (M k c))
def qw_WD (L : wL) (M : wM) (hp : Nat → Nat) : va_W := (qw_cl L).map (fun q => (qw_ad L q.1 q.2, qw_ct L M hp q.1 q.2))
theorem qw_ix {L : wL} {k c : Nat} (h : qw_in L k c) : ∃ n : Nat, (qw_cl L)[n]? = some (k, c) := List.getElem?_of_mem h
theorem qw_get {L : wL} {M : wM} {hp : Nat → Nat} {k c n : Nat} (h : (qw_cl L)[n]? = some (k, c)) {e : va_E} (he : qw_ct L M hp k c = e) : (qw_WD L M hp)[n]? = some (qw_ad L k c, e) := by
  unfold qw_WD
  rw [List.getElem?_map, h]
  simp only [Option.map_some, he]
theorem qw_at {L : wL} {M : wM} {hp : Nat → Nat} {n : Nat} {q : Nat × va_E} (h : (qw_WD L M hp)[n]? = some q) : ∃ k c : Nat, (qw_cl L)[n]? = some (k, c) ∧ q = (qw_ad L k c, qw_ct L M hp k c) := by
  unfold qw_WD at h
  rw [List.getElem?_map] at h
  cases hx : (qw_cl L)[n]? with
  | none => rw [hx] at h; cases h
  | some x =>
    rw [hx] at h
    exact ⟨x.1, x.2, rfl, (Option.some.inj h).symm⟩
theorem qw_set {L : wL} {M M' : wM} {hp hp' : Nat → Nat} {k c n : Nat} (hu : ∀ (i j : Nat) (x : Nat × Nat), (qw_cl L)[i]? = some x → (qw_cl L)[j]? = some x → i = j) (h : (qw_cl L)[n]? = some (k, c)) {e : va_E} (he : qw_ct L M' hp' k c = e) (hn : ∀ k' c' : Nat, ¬ (k' = k ∧ c' = c) → qw_ct L M' hp' k' c' = qw_ct L M hp k' c') : (qw_WD L M hp).set n (qw_ad L k c, e) = qw_WD L M' hp' := by
  have hlen : (qw_WD L M hp).length = (qw_cl L).length := by simp [qw_WD]
  have hl1 : n < (qw_cl L).length := (List.getElem?_eq_some_iff.mp h).1
  apply List.ext_getElem?
  intro i
  by_cases hi : i = n
  · subst hi
    rw [List.getElem?_set_self (by rw [hlen]; exact hl1), qw_get h he]
  · rw [List.getElem?_set_ne (Ne.symm hi)]
    unfold qw_WD
    rw [List.getElem?_map, List.getElem?_map]
    cases hx : (qw_cl L)[i]? with
    | none => rfl
    | some x =>
      show some (_, _) = some (_, _)
      rw [hn x.1 x.2]
      rintro ⟨e1, e2⟩
      exact hi (hu i n x hx (by rw [h, ← e1, ← e2]))
theorem qw_ct_cg {L : wL} {M M' : wM} {hp hp' : Nat → Nat} {k c : Nat} (h : M' k c = M k c) (hh : hp' = hp ∨ ¬ (k = 8 ∧ c = 1)) : qw_ct L M' hp' k c = qw_ct L M hp k c := by
  unfold qw_ct
  by_cases hk : k < 8
  · rw [if_pos hk, if_pos hk]
    by_cases hc : c = 0
    · subst hc
      rw [if_pos rfl, if_pos rfl, h]
    · rw [if_neg hc, if_neg hc, h]
  · rw [if_neg hk, if_neg hk]
    by_cases hk8 : k = 8
    · subst hk8
      rw [if_pos rfl, if_pos rfl]
      by_cases hc : c = 0
      · subst hc
        rw [if_pos rfl, if_pos rfl, h]
      · rw [if_neg hc, if_neg hc]
        by_cases hc1 : c = 1
        · subst hc1
          rcases hh with hh | hh
          · rw [hh]
          · exact absurd ⟨rfl, rfl⟩ hh
        · rw [if_neg hc1, if_neg hc1]
          by_cases hc2 : c = 2
          · subst hc2
            rw [if_pos rfl, if_pos rfl, h]
          · rw [if_neg hc2, if_neg hc2, h]
    · rw [if_neg hk8, if_neg hk8]
      by_cases hc : c = 0
      · subst hc
        rw [if_pos rfl, if_pos rfl]
        rw [h]
      · rw [if_neg hc, if_neg hc, h]
def qw_P (L : wL) (M : wM) (hp : Nat → Nat) (H : Heap) : Prop := va_P L.1 vwCl (qw_WD L M hp) H
def qw_J (L : wL) : Prop := (∀ (i j : Nat) (x : Nat × Nat), (qw_cl L)[i]? = some x → (qw_cl L)[j]? = some x → i = j) ∧ ∀ k c k' c' : Nat, qw_in L k c → qw_in L k' c' → qw_ad L k c = qw_ad L k' c' → k = k' ∧ c = c'
def qw_A (L : wL) : Nat → Prop := fun q => ∃ k c : Nat, qw_in L k c ∧ q = qw_ad L k c
def qw_G (L : wL) (A : Nat → Prop) (s : State) : Prop := va_K L.1 vwCl (qw_T L) s ∧ qw_J L ∧ ∀ k c : Nat, qw_in L k c → A (qw_ad L k c)
theorem qw_D {L : wL} {A : Nat → Prop} (hJ : qw_J L) (hA : ∀ k c : Nat, qw_in L k c → A (qw_ad L k c)) (M : wM) (hp : Nat → Nat) : va_D A (qw_WD L M hp) := by
  refine ⟨fun i j p q hi hj hpq => ?_, fun n q h => ?_⟩
  · obtain ⟨k1, c1, a1, a2⟩ := qw_at hi
    obtain ⟨k2, c2, b1, b2⟩ := qw_at hj
    subst a2
    subst b2
    obtain ⟨e1, e2⟩ := hJ.2 _ _ _ _ (List.mem_of_getElem? a1) (List.mem_of_getElem? b1) hpq
    subst e1
    subst e2
    exact hJ.1 _ _ _ a1 b1
  · obtain ⟨k1, c1, a1, a2⟩ := qw_at h
    subst a2
    exact hA _ _ (List.mem_of_getElem? a1)
theorem qw_ctS {L : wL} {M : wM} {hp : Nat → Nat} {k : Nat} (hk : k < 8) {m : wm} (hX : M k = m) : qw_ct L M hp k 0 = .inr (0, [.int (m 0 0), .int (m 0 1), .int (m 0 2), .int (m 0 3), .int (m 0 4), .int (m 0 5), .int (m 0 6), .ref (qw_ad L k 1), .ref (qw_ad L k 2), .ref (qw_ad L k 3), .ref (qw_ad L k 4), .ref (qw_ad L k 5), .ref (qw_ad L k 6), .ref (qw_ad L k 7)]) := by
  unfold qw_ct
  rw [if_pos hk, if_pos rfl, hX]
theorem qw_ctR {L : wL} {M : wM} {hp : Nat → Nat} {m : wm} (hX : M 8 = m) : qw_ct L M hp 8 0 = .inr (2, [.ref (qw_ad L 0 0), .ref (qw_ad L 1 0), .ref (qw_ad L 2 0), .ref (qw_ad L 8 1), .int (m 0 4), .ref (qw_ad L 8 2)]) := by
  unfold qw_ct
  rw [if_neg (by decide), if_pos rfl, if_pos rfl, hX]
theorem qw_ctX {L : wL} {M : wM} {hp : Nat → Nat} {m : wm} (hX : M 8 = m) : qw_ct L M hp 8 2 = .inr (1, [.ref (qw_ad L 8 3), .int (m 2 1), .int (m 2 2)]) := by
  unfold qw_ct
  rw [if_neg (by decide), if_pos rfl, if_neg (by decide), if_neg (by decide), if_pos rfl, hX]
theorem qw_ctM {L : wL} {M : wM} {hp : Nat → Nat} {m : wm} (hX : M 9 = m) : qw_ct L M hp 9 0 = .inr (3, [.ref (qw_ad L 9 1), .ref (qw_ad L 9 2), .ref (qw_ad L 9 3), .int (m 0 3), .int (m 0 4), .ref (qw_ad L 9 4), .int (m 0 6), .int (m 0 7), .int (m 0 8), .ref (qw_ad L 9 5), .ref (qw_ad L 9 6)]) := by
  unfold qw_ct
  rw [if_neg (by decide), if_neg (by decide), if_pos rfl, hX]
theorem qw_ctH {L : wL} {M : wM} {hp : Nat → Nat} : qw_ct L M hp 8 1 = .inl (L.2.2.1, 5, .inr (.inr (.inr (.inr (fun i => if i < 5 then some (qw_ad L (hp i) 0) else none))))) := by
  unfold qw_ct
  rw [if_neg (by decide), if_pos rfl, if_neg (by decide), if_pos rfl]
theorem qw_ctT {L : wL} {M : wM} {hp : Nat → Nat} {k c : Nat} (hk : k < 8) (h4 : 4 ≤ c) (h8 : c < 8) : qw_ct L M hp k c = .inl (L.2.2.2.1, qw_nr c, .inr (.inr (.inr (.inr (fun i => if i < qw_nr c then some (qw_ad L k (qw_rb c + i)) else none))))) := by
  unfold qw_ct
  rw [if_pos hk, if_neg (by omega), if_pos ⟨h4, h8⟩]
/-- the cell (k, c) is an int array of length n -/
def qw_I (L : wL) (k c n : Nat) : Prop := qw_in L k c ∧ ((k < 8 ∧ ((1 ≤ c ∧ c < 4) ∨ (8 ≤ c ∧ c < 25))) ∨ (k = 8 ∧ c = 3) ∨ (k = 9 ∧ 1 ≤ c ∧ c < 7)) ∧ qw_ln k c = n
theorem qw_ctI {L : wL} {M : wM} {hp : Nat → Nat} {k c n : Nat} (h : qw_I L k c n) {m : wm} (hX : M k = m) : qw_ct L M hp k c = .inl (L.2.1, n, .inl (m c)) := by
  obtain ⟨-, h, e⟩ := h
  subst e
  subst hX
  unfold qw_ct
  rcases h with h | h | h
  · rw [if_pos h.1, if_neg (by omega), if_neg (by omega)]
  · obtain ⟨rfl, rfl⟩ := h
    rw [if_neg (by decide), if_pos rfl, if_neg (by decide), if_neg (by decide), if_neg (by decide)]
  · obtain ⟨rfl, h1, h2⟩ := h
    rw [if_neg (by decide), if_neg (by decide), if_neg (by omega)]
theorem qw_IS {L : wL} {k c n : Nat} (hk : qw_k L k) (h : ((1 ≤ c ∧ c < 4) ∨ (8 ≤ c ∧ c < 25)) ∧ qw_lnS c = n) : qw_I L k c n := ⟨hk.2 c (by omega), Or.inl ⟨hk.1, h.1⟩, by unfold qw_ln; rw [if_pos hk.1]; exact h.2⟩
theorem qw_I8 {L : wL} (hv : qw_8 L) : qw_I L 8 3 120 := ⟨hv 3 (by decide), Or.inr (Or.inl ⟨rfl, rfl⟩), rfl⟩
theorem qw_I9 {L : wL} (hv : qw_9 L) {c n : Nat} (h : (1 ≤ c ∧ c < 7) ∧ qw_ln9 c = n) : qw_I L 9 c n := ⟨hv c (by omega), Or.inr (Or.inr ⟨rfl, h.1⟩), h.2⟩
theorem qw_row4 {L : wL} {k i : Nat} (hk : qw_k L k) (h : i < 5) : qw_I L k (8 + i) 40 := qw_IS hk ⟨Or.inr ⟨by omega, by omega⟩, by unfold qw_lnS; rw [if_neg (by omega), if_neg (by omega), if_pos (by omega)]⟩
theorem qw_row5 {L : wL} {k i : Nat} (hk : qw_k L k) (h : i < 3) : qw_I L k (13 + i) 16 := qw_IS hk ⟨Or.inr ⟨by omega, by omega⟩, by unfold qw_lnS; rw [if_neg (by omega), if_neg (by omega), if_neg (by omega), if_pos (by omega)]⟩
theorem qw_row6 {L : wL} {k i : Nat} (hk : qw_k L k) (h : i < 3) : qw_I L k (16 + i) 200 := qw_IS hk ⟨Or.inr ⟨by omega, by omega⟩, by unfold qw_lnS; rw [if_neg (by omega), if_neg (by omega), if_neg (by omega), if_neg (by omega), if_pos (by omega)]⟩
theorem qw_row7 {L : wL} {k i : Nat} (hk : qw_k L k) (h : i < 6) : qw_I L k (19 + i) 12 := qw_IS hk ⟨Or.inr ⟨by omega, by omega⟩, by unfold qw_lnS; rw [if_neg (by omega), if_neg (by omega), if_neg (by omega), if_neg (by omega), if_neg (by omega)]⟩
/-- a row of the table t, its length by the table -/
def qw_rl (t : Nat) : Nat := if t = 4 then 40 else if t = 5 then 16 else if t = 6 then 200 else 12
theorem qw_rowT {L : wL} {k t i : Nat} (hk : qw_k L k) (h4 : 4 ≤ t) (h8 : t < 8) (h : i < qw_nr t) : qw_I L k (qw_rb t + i) (qw_rl t) := by
  rcases (show t = 4 ∨ t = 5 ∨ t = 6 ∨ t = 7 by omega) with rfl | rfl | rfl | rfl
  · exact qw_row4 hk h
  · exact qw_row5 hk h
  · exact qw_row6 hk h
  · exact qw_row7 hk h
/-- a change of the one cell (k, c) -/
theorem qw_wr {L : wL} {X X' : wM} {hp : Nat → Nat} {k c n : Nat} {m : wm} {f : Nat → Int32} (hJ : qw_J L) (h : (qw_cl L)[n]? = some (k, c)) (hX : X k = m) (hX' : qw_u1 X k (qw_uc m c f) = X') {e : va_E} (he : qw_ct L X' hp k c = e) : (qw_WD L X hp).set n (qw_ad L k c, e) = qw_WD L X' hp := by
  refine qw_set hJ.1 h he (fun k' c' hne => qw_ct_cg ?_ (Or.inl rfl))
  subst hX'
  by_cases hk : k' = k
  · subst hk
    rw [qw_u1s, qw_ucn _ _ (fun q => hne ⟨rfl, q⟩), hX]
  · rw [qw_u1n X _ hk]
theorem qw_X' {X X' : wM} {k c : Nat} {m : wm} {f : Nat → Int32} (hX' : qw_u1 X k (qw_uc m c f) = X') : X' k = qw_uc m c f := by
  subst hX'
  exact qw_u1s _ _ _
end
section
section QR
variable {p : Program} {l : Launch} {e : Env} {R : Room} {s : State} {mi : MethodId} {args : Array Value} {below : List Frame} {meth : Method} {co : Code} {H : Heap} {locs : List Loc} {cells slots : Nat} {Q : State → Prop}
variable {cc : ByteArray} {pc nL : Nat} {ls : Array Slot} {rest : List Value} {A : Nat → Prop} {H0 : Heap} {L : wL} {X X' : wM} {hp : Nat → Nat} {Ts : List Cond} {own : String} {index : Nat} {k : Nat} {m : wm}
/-- an int of a state -/
theorem qr_gS (F : CallFix p mi co cc nL s args Ts own) (G : qw_G L A s) (hw : ∀ w ∈ wsX00, w.before args s = true) (hP : qw_P L X hp H) (hk : qw_k L k) (hX : X k = m) (j : Nat) (hj : j < 7) (hl : Cond.fieldLink own index "ReturnPile$State" (TX0 j).2.1 (TX0 j).2.2.1 ∈ Ts) {z : Int32} (ez : z = m 0 j) (hdg : decode cc pc = .ok (.getfield index, 3))
    (kk : W p l e R s mi args below meth co H locs cells slots Q (F0 mi (pc + 3) ls (.int z :: rest))) : W p l e R s mi args below meth co H locs cells slots Q (F0 mi pc ls (.ref (qw_ad L k 0) :: rest)) := by
  obtain ⟨n9, h9⟩ := qw_ix (hk.2 0 (by decide))
  have hg := qw_get h9 (qw_ctS (L := L) (hp := hp) hk.1 hX)
  subst ez
  rcases (show j = 0 ∨ j = 1 ∨ j = 2 ∨ j = 3 ∨ j = 4 ∨ j = 5 ∨ j = 6 by omega) with rfl | rfl | rfl | rfl | rfl | rfl | rfl <;>
    exact va_get F.1 F.2.1 hw (fun _ h => h) F.2.2.2.1 G.1 hP _ hg rfl _ (by decide) (F.2.2.2.2 _ hl) (fun _ h => h) rfl hdg kk
/-- a reference of a state -/
theorem qr_gSr (F : CallFix p mi co cc nL s args Ts own) (G : qw_G L A s) (hw : ∀ w ∈ wsX00, w.before args s = true) (hP : qw_P L X hp H) (hk : qw_k L k) (j : Nat) (hj : 1 ≤ j ∧ j < 8) (hl : Cond.fieldLink own index "ReturnPile$State" (TX0 (j + 6)).2.1 (TX0 (j + 6)).2.2.1 ∈ Ts) (hdg : decode cc pc = .ok (.getfield index, 3))
    (kk : W p l e R s mi args below meth co H locs cells slots Q (F0 mi (pc + 3) ls (.ref (qw_ad L k j) :: rest))) : W p l e R s mi args below meth co H locs cells slots Q (F0 mi pc ls (.ref (qw_ad L k 0) :: rest)) := by
  obtain ⟨n9, h9⟩ := qw_ix (hk.2 0 (by decide))
  have hg := qw_get h9 (qw_ctS (L := L) (M := X) (hp := hp) hk.1 rfl)
  rcases (show j = 1 ∨ j = 2 ∨ j = 3 ∨ j = 4 ∨ j = 5 ∨ j = 6 ∨ j = 7 by omega) with rfl | rfl | rfl | rfl | rfl | rfl | rfl <;>
    exact va_get F.1 F.2.1 hw (fun _ h => h) F.2.2.2.1 G.1 hP _ hg rfl _ (by decide) (F.2.2.2.2 _ hl) (fun _ h => h) rfl hdg kk
/-- an int of a state is written -/
theorem qr_pS (F : CallFix p mi co cc nL s args Ts own) (G : qw_G L A s) (hw : ∀ w ∈ wsX00, w.before args s = true) (hP : qw_P L X hp H) (hS : va_S A H0 H locs) (hk : qw_k L k) (hX : X k = m) (j : Nat) (hj : j < 7) (hl : Cond.fieldLink own index "ReturnPile$State" (TX0 j).2.1 (TX0 j).2.2.1 ∈ Ts) {v : Int32} (hX' : qw_u1 X k (qw_u2 m 0 j v) = X') (hdg : decode cc pc = .ok (.putfield index, 3))
    (kk : ∀ (H : Heap) (locs : List Loc), qw_P L X' hp H → va_S A H0 H locs → W p l e R s mi args below meth co H locs cells slots Q (F0 mi (pc + 3) ls rest)) : W p l e R s mi args below meth co H locs cells slots Q (F0 mi pc ls (.int v :: .ref (qw_ad L k 0) :: rest)) := by
  obtain ⟨n9, h9⟩ := qw_ix (hk.2 0 (by decide))
  have hg := qw_get h9 (qw_ctS (L := L) (hp := hp) hk.1 hX)
  have hx' : X' k = qw_uc m 0 (upd (m 0) j v) := qw_X' hX'
  have hc := qw_ctS (L := L) (M := X') (hp := hp) hk.1 hx'
  rcases (show j = 0 ∨ j = 1 ∨ j = 2 ∨ j = 3 ∨ j = 4 ∨ j = 5 ∨ j = 6 by omega) with rfl | rfl | rfl | rfl | rfl | rfl | rfl <;>
    exact va_put (ty := .int) F.1 F.2.1 hw (fun _ h => h) tyX0 tyX0_ok nmX0 F.2.2.2.1 G.1 hP (qw_D G.2.1 G.2.2 X hp) hS _ hg rfl _ (by decide) (F.2.2.2.2 _ hl) (fun _ h => h) rfl (by decide +kernel) rfl rfl (by decide) hdg (fun H locs hP2 _ hS2 => kk H locs (by
      have hw9 := qw_wr (L := L) (hp := hp) G.2.1 h9 hX hX' hc
      unfold qw_P
      rw [← hw9]
      exact hP2) hS2)
/-- the text's ints -/
theorem qr_gX (F : CallFix p mi co cc nL s args Ts own) (G : qw_G L A s) (hv : qw_8 L) (hw : ∀ w ∈ wsX10, w.before args s = true) (hP : qw_P L X hp H) (hX : X 8 = m) (j : Nat) (hj : j = 1 ∨ j = 2) (hl : Cond.fieldLink own index "ReturnPile$Text" (TX1 j).2.1 (TX1 j).2.2.1 ∈ Ts) {z : Int32} (ez : z = m 2 j) (hdg : decode cc pc = .ok (.getfield index, 3))
    (kk : W p l e R s mi args below meth co H locs cells slots Q (F0 mi (pc + 3) ls (.int z :: rest))) : W p l e R s mi args below meth co H locs cells slots Q (F0 mi pc ls (.ref (qw_ad L 8 2) :: rest)) := by
  obtain ⟨n9, h9⟩ := qw_ix (hv 2 (by decide))
  have hg := qw_get h9 (qw_ctX (L := L) (hp := hp) hX)
  subst ez
  rcases hj with rfl | rfl <;>
    exact va_get F.1 F.2.1 hw (fun _ h => h) F.2.2.2.1 G.1 hP _ hg rfl _ (by decide) (F.2.2.2.2 _ hl) (fun _ h => h) rfl hdg kk
theorem qr_gXr (F : CallFix p mi co cc nL s args Ts own) (G : qw_G L A s) (hv : qw_8 L) (hw : ∀ w ∈ wsX10, w.before args s = true) (hP : qw_P L X hp H) (hl : Cond.fieldLink own index "ReturnPile$Text" "characters" "[I" ∈ Ts) (hdg : decode cc pc = .ok (.getfield index, 3))
    (kk : W p l e R s mi args below meth co H locs cells slots Q (F0 mi (pc + 3) ls (.ref (qw_ad L 8 3) :: rest))) : W p l e R s mi args below meth co H locs cells slots Q (F0 mi pc ls (.ref (qw_ad L 8 2) :: rest)) := by
  obtain ⟨n9, h9⟩ := qw_ix (hv 2 (by decide))
  have hg := qw_get h9 (qw_ctX (L := L) (M := X) (hp := hp) rfl)
  exact va_get F.1 F.2.1 hw (fun _ h => h) F.2.2.2.1 G.1 hP _ hg rfl 0 (by decide) (F.2.2.2.2 _ hl) (fun _ h => h) rfl hdg kk
theorem qr_pX (F : CallFix p mi co cc nL s args Ts own) (G : qw_G L A s) (hv : qw_8 L) (hw : ∀ w ∈ wsX10, w.before args s = true) (hP : qw_P L X hp H) (hS : va_S A H0 H locs) (hX : X 8 = m) (j : Nat) (hj : j = 1 ∨ j = 2) (hl : Cond.fieldLink own index "ReturnPile$Text" (TX1 j).2.1 (TX1 j).2.2.1 ∈ Ts) {v : Int32} (hX' : qw_u1 X 8 (qw_u2 m 2 j v) = X') (hdg : decode cc pc = .ok (.putfield index, 3))
    (kk : ∀ (H : Heap) (locs : List Loc), qw_P L X' hp H → va_S A H0 H locs → W p l e R s mi args below meth co H locs cells slots Q (F0 mi (pc + 3) ls rest)) : W p l e R s mi args below meth co H locs cells slots Q (F0 mi pc ls (.int v :: .ref (qw_ad L 8 2) :: rest)) := by
  obtain ⟨n9, h9⟩ := qw_ix (hv 2 (by decide))
  have hg := qw_get h9 (qw_ctX (L := L) (hp := hp) hX)
  have hx' : X' 8 = qw_uc m 2 (upd (m 2) j v) := qw_X' hX'
  have hc := qw_ctX (L := L) (M := X') (hp := hp) hx'
  rcases hj with rfl | rfl <;>
    exact va_put (ty := .int) F.1 F.2.1 hw (fun _ h => h) tyX1 tyX1_ok nmX1 F.2.2.2.1 G.1 hP (qw_D G.2.1 G.2.2 X hp) hS _ hg rfl _ (by decide) (F.2.2.2.2 _ hl) (fun _ h => h) rfl (by decide +kernel) rfl rfl (by decide) hdg (fun H locs hP2 _ hS2 => kk H locs (by
      have hw9 := qw_wr (L := L) (hp := hp) G.2.1 h9 hX hX' hc
      unfold qw_P
      rw [← hw9]
      exact hP2) hS2)
/-- the pile's own fields -/
theorem qr_gR (F : CallFix p mi co cc nL s args Ts own) (G : qw_G L A s) (hv : qw_8 L) (hw : ∀ w ∈ wsX20, w.before args s = true) (hP : qw_P L X hp H) (hX : X 8 = m) (hl : Cond.fieldLink own index "ReturnPile" "historyLength" "I" ∈ Ts) {z : Int32} (ez : z = m 0 4) (hdg : decode cc pc = .ok (.getfield index, 3))
    (kk : W p l e R s mi args below meth co H locs cells slots Q (F0 mi (pc + 3) ls (.int z :: rest))) : W p l e R s mi args below meth co H locs cells slots Q (F0 mi pc ls (.ref (qw_ad L 8 0) :: rest)) := by
  obtain ⟨n9, h9⟩ := qw_ix (hv 0 (by decide))
  have hg := qw_get h9 (qw_ctR (L := L) (hp := hp) hX)
  subst ez
  exact va_get F.1 F.2.1 hw (fun _ h => h) F.2.2.2.1 G.1 hP _ hg rfl 4 (by decide) (F.2.2.2.2 _ hl) (fun _ h => h) rfl hdg kk
theorem qr_gRr (F : CallFix p mi co cc nL s args Ts own) (G : qw_G L A s) (hv : qw_8 L) (hw : ∀ w ∈ wsX20, w.before args s = true) (hP : qw_P L X hp H) (j ko kc : Nat) (hj : (j = 0 ∧ ko = 0 ∧ kc = 0) ∨ (j = 1 ∧ ko = 1 ∧ kc = 0) ∨ (j = 2 ∧ ko = 2 ∧ kc = 0) ∨ (j = 3 ∧ ko = 8 ∧ kc = 1) ∨ (j = 5 ∧ ko = 8 ∧ kc = 2)) (hl : Cond.fieldLink own index "ReturnPile" (TX2 j).2.1 (TX2 j).2.2.1 ∈ Ts) (hdg : decode cc pc = .ok (.getfield index, 3))
    (kk : W p l e R s mi args below meth co H locs cells slots Q (F0 mi (pc + 3) ls (.ref (qw_ad L ko kc) :: rest))) : W p l e R s mi args below meth co H locs cells slots Q (F0 mi pc ls (.ref (qw_ad L 8 0) :: rest)) := by
  obtain ⟨n9, h9⟩ := qw_ix (hv 0 (by decide))
  have hg := qw_get h9 (qw_ctR (L := L) (M := X) (hp := hp) rfl)
  rcases hj with ⟨rfl, rfl, rfl⟩ | ⟨rfl, rfl, rfl⟩ | ⟨rfl, rfl, rfl⟩ | ⟨rfl, rfl, rfl⟩ | ⟨rfl, rfl, rfl⟩ <;>
    exact va_get F.1 F.2.1 hw (fun _ h => h) F.2.2.2.1 G.1 hP _ hg rfl _ (by decide) (F.2.2.2.2 _ hl) (fun _ h => h) rfl hdg kk
theorem qr_pR (F : CallFix p mi co cc nL s args Ts own) (G : qw_G L A s) (hv : qw_8 L) (hw : ∀ w ∈ wsX20, w.before args s = true) (hP : qw_P L X hp H) (hS : va_S A H0 H locs) (hX : X 8 = m) (hl : Cond.fieldLink own index "ReturnPile" "historyLength" "I" ∈ Ts) {v : Int32} (hX' : qw_u1 X 8 (qw_u2 m 0 4 v) = X') (hdg : decode cc pc = .ok (.putfield index, 3))
    (kk : ∀ (H : Heap) (locs : List Loc), qw_P L X' hp H → va_S A H0 H locs → W p l e R s mi args below meth co H locs cells slots Q (F0 mi (pc + 3) ls rest)) : W p l e R s mi args below meth co H locs cells slots Q (F0 mi pc ls (.int v :: .ref (qw_ad L 8 0) :: rest)) := by
  obtain ⟨n9, h9⟩ := qw_ix (hv 0 (by decide))
  have hg := qw_get h9 (qw_ctR (L := L) (hp := hp) hX)
  have hx' : X' 8 = qw_uc m 0 (upd (m 0) 4 v) := qw_X' hX'
  have hc := qw_ctR (L := L) (M := X') (hp := hp) hx'
  exact va_put (ty := .int) F.1 F.2.1 hw (fun _ h => h) tyX2 tyX2_ok nmX2 F.2.2.2.1 G.1 hP (qw_D G.2.1 G.2.2 X hp) hS _ hg rfl 4 (by decide) (F.2.2.2.2 _ hl) (fun _ h => h) rfl (by decide +kernel) rfl rfl (by decide) hdg (fun H locs hP2 _ hS2 => kk H locs (by
      have hw9 := qw_wr (L := L) (hp := hp) G.2.1 h9 hX hX' hc
      unfold qw_P
      rw [← hw9]
      exact hP2) hS2)
/-- the reference's own fields -/
theorem qr_gM (F : CallFix p mi co cc nL s args Ts own) (G : qw_G L A s) (hv : qw_9 L) (hw : ∀ w ∈ wsX30, w.before args s = true) (hP : qw_P L X hp H) (hX : X 9 = m) (j : Nat) (hj : j = 3 ∨ j = 4 ∨ j = 6 ∨ j = 7 ∨ j = 8) (hl : Cond.fieldLink own index "ReturnPileModel" (TX3 j).2.1 (TX3 j).2.2.1 ∈ Ts) {z : Int32} (ez : z = m 0 j) (hdg : decode cc pc = .ok (.getfield index, 3))
    (kk : W p l e R s mi args below meth co H locs cells slots Q (F0 mi (pc + 3) ls (.int z :: rest))) : W p l e R s mi args below meth co H locs cells slots Q (F0 mi pc ls (.ref (qw_ad L 9 0) :: rest)) := by
  obtain ⟨n9, h9⟩ := qw_ix (hv 0 (by decide))
  have hg := qw_get h9 (qw_ctM (L := L) (hp := hp) hX)
  subst ez
  rcases hj with rfl | rfl | rfl | rfl | rfl <;>
    exact va_get F.1 F.2.1 hw (fun _ h => h) F.2.2.2.1 G.1 hP _ hg rfl _ (by decide) (F.2.2.2.2 _ hl) (fun _ h => h) rfl hdg kk
theorem qr_gMr (F : CallFix p mi co cc nL s args Ts own) (G : qw_G L A s) (hv : qw_9 L) (hw : ∀ w ∈ wsX30, w.before args s = true) (hP : qw_P L X hp H) (j kc : Nat) (hj : (j = 0 ∧ kc = 1) ∨ (j = 1 ∧ kc = 2) ∨ (j = 2 ∧ kc = 3) ∨ (j = 5 ∧ kc = 4) ∨ (j = 9 ∧ kc = 5) ∨ (j = 10 ∧ kc = 6)) (hl : Cond.fieldLink own index "ReturnPileModel" (TX3 j).2.1 (TX3 j).2.2.1 ∈ Ts) (hdg : decode cc pc = .ok (.getfield index, 3))
    (kk : W p l e R s mi args below meth co H locs cells slots Q (F0 mi (pc + 3) ls (.ref (qw_ad L 9 kc) :: rest))) : W p l e R s mi args below meth co H locs cells slots Q (F0 mi pc ls (.ref (qw_ad L 9 0) :: rest)) := by
  obtain ⟨n9, h9⟩ := qw_ix (hv 0 (by decide))
  have hg := qw_get h9 (qw_ctM (L := L) (M := X) (hp := hp) rfl)
  rcases hj with ⟨rfl, rfl⟩ | ⟨rfl, rfl⟩ | ⟨rfl, rfl⟩ | ⟨rfl, rfl⟩ | ⟨rfl, rfl⟩ | ⟨rfl, rfl⟩ <;>
    exact va_get F.1 F.2.1 hw (fun _ h => h) F.2.2.2.1 G.1 hP _ hg rfl _ (by decide) (F.2.2.2.2 _ hl) (fun _ h => h) rfl hdg kk
theorem qr_pM (F : CallFix p mi co cc nL s args Ts own) (G : qw_G L A s) (hv : qw_9 L) (hw : ∀ w ∈ wsX30, w.before args s = true) (hP : qw_P L X hp H) (hS : va_S A H0 H locs) (hX : X 9 = m) (j : Nat) (hj : j = 3 ∨ j = 6 ∨ j = 7 ∨ j = 8) (hl : Cond.fieldLink own index "ReturnPileModel" (TX3 j).2.1 (TX3 j).2.2.1 ∈ Ts) {v : Int32} (hX' : qw_u1 X 9 (qw_u2 m 0 j v) = X') (hdg : decode cc pc = .ok (.putfield index, 3))
    (kk : ∀ (H : Heap) (locs : List Loc), qw_P L X' hp H → va_S A H0 H locs → W p l e R s mi args below meth co H locs cells slots Q (F0 mi (pc + 3) ls rest)) : W p l e R s mi args below meth co H locs cells slots Q (F0 mi pc ls (.int v :: .ref (qw_ad L 9 0) :: rest)) := by
  obtain ⟨n9, h9⟩ := qw_ix (hv 0 (by decide))
  have hg := qw_get h9 (qw_ctM (L := L) (hp := hp) hX)
  have hx' : X' 9 = qw_uc m 0 (upd (m 0) j v) := qw_X' hX'
  have hc := qw_ctM (L := L) (M := X') (hp := hp) hx'
  rcases hj with rfl | rfl | rfl | rfl <;>
    exact va_put (ty := .int) F.1 F.2.1 hw (fun _ h => h) tyX3 tyX3_ok nmX3 F.2.2.2.1 G.1 hP (qw_D G.2.1 G.2.2 X hp) hS _ hg rfl _ (by decide) (F.2.2.2.2 _ hl) (fun _ h => h) rfl (by decide +kernel) rfl rfl (by decide) hdg (fun H locs hP2 _ hS2 => kk H locs (by
      have hw9 := qw_wr (L := L) (hp := hp) G.2.1 h9 hX hX' hc
      unfold qw_P
      rw [← hw9]
      exact hP2) hS2)
/-- the reference's flag -/
theorem qr_pMz (F : CallFix p mi co cc nL s args Ts own) (G : qw_G L A s) (hv : qw_9 L) (hw : ∀ w ∈ wsX30, w.before args s = true) (hP : qw_P L X hp H) (hS : va_S A H0 H locs) (hX : X 9 = m) (hl : Cond.fieldLink own index "ReturnPileModel" "runs" "Z" ∈ Ts) {v : Int32} (hv0 : v = 0 ∨ v = 1) (hX' : qw_u1 X 9 (qw_u2 m 0 4 v) = X') (hdg : decode cc pc = .ok (.putfield index, 3))
    (kk : ∀ (H : Heap) (locs : List Loc), qw_P L X' hp H → va_S A H0 H locs → W p l e R s mi args below meth co H locs cells slots Q (F0 mi (pc + 3) ls rest)) : W p l e R s mi args below meth co H locs cells slots Q (F0 mi pc ls (.int v :: .ref (qw_ad L 9 0) :: rest)) := by
  obtain ⟨n9, h9⟩ := qw_ix (hv 0 (by decide))
  have hg := qw_get h9 (qw_ctM (L := L) (hp := hp) hX)
  have hx' : X' 9 = qw_uc m 0 (upd (m 0) 4 v) := qw_X' hX'
  have hc := qw_ctM (L := L) (M := X') (hp := hp) hx'
  exact va_put (ty := .boolean) F.1 F.2.1 hw (fun _ h => h) tyX3 tyX3_ok nmX3 F.2.2.2.1 G.1 hP (qw_D G.2.1 G.2.2 X hp) hS _ hg rfl 4 (by decide) (F.2.2.2.2 _ hl) (fun _ h => h) rfl (by decide +kernel) (by rcases hv0 with rfl | rfl <;> rfl) (by rcases hv0 with rfl | rfl <;> rfl) (by decide) hdg (fun H locs hP2 _ hS2 => kk H locs (by
      have hw9 := qw_wr (L := L) (hp := hp) G.2.1 h9 hX hX' hc
      unfold qw_P
      rw [← hw9]
      exact hP2) hS2)
/-- int arrays -/
theorem qr_ald (F : CallFix p mi co cc nL s args Ts own) (G : qw_G L A s) (hP : qw_P L X hp H) (hX : X k = m) {c n i' : Nat} (hI : qw_I L k c n) {i : Int32} (hin : vp_in i n) (hi : i.toNatClampNeg = i') {z : Int32} (ez : z = m c i') (hdg : decode cc pc = .ok (.iaload, 1))
    (kk : W p l e R s mi args below meth co H locs cells slots Q (F0 mi (pc + 1) ls (.int z :: rest))) : W p l e R s mi args below meth co H locs cells slots Q (F0 mi pc ls (.int i :: .ref (qw_ad L k c) :: rest)) := by
  obtain ⟨n9, h9⟩ := qw_ix hI.1
  have hg := qw_get h9 (qw_ctI (L := L) (hp := hp) hI hX)
  subst ez
  subst hi
  exact va_iald F.1 F.2.1 G.1 hP _ 0 hg rfl hin hdg kk
theorem qr_ast (F : CallFix p mi co cc nL s args Ts own) (G : qw_G L A s) (hP : qw_P L X hp H) (hS : va_S A H0 H locs) (hX : X k = m) {c n i' : Nat} (hI : qw_I L k c n) {i v : Int32} (hin : vp_in i n) (hi : i.toNatClampNeg = i') (hX' : qw_u1 X k (qw_u2 m c i' v) = X') (hdg : decode cc pc = .ok (.iastore, 1))
    (kk : ∀ (H : Heap) (locs : List Loc), qw_P L X' hp H → va_S A H0 H locs → W p l e R s mi args below meth co H locs cells slots Q (F0 mi (pc + 1) ls rest)) : W p l e R s mi args below meth co H locs cells slots Q (F0 mi pc ls (.int v :: .int i :: .ref (qw_ad L k c) :: rest)) := by
  obtain ⟨n9, h9⟩ := qw_ix hI.1
  have hg := qw_get h9 (qw_ctI (L := L) (hp := hp) hI hX)
  subst hi
  have hx' := qw_X' hX'
  have hc := qw_ctI (L := L) (M := X') (hp := hp) hI hx'
  rw [qw_ucs] at hc
  exact va_iast F.1 F.2.1 G.1 hP (qw_D G.2.1 G.2.2 X hp) hS _ 0 hg rfl hin hdg (fun H locs hP2 _ hS2 => kk H locs (by
      have hw9 := qw_wr (L := L) (hp := hp) G.2.1 h9 hX hX' hc
      unfold qw_P
      rw [← hw9]
      exact hP2) hS2)
theorem qr_len (F : CallFix p mi co cc nL s args Ts own) (G : qw_G L A s) (hP : qw_P L X hp H) {c n : Nat} (hI : qw_I L k c n) {z : Int32} (ez : z = Int32.ofNat n) (hdg : decode cc pc = .ok (.arraylength, 1))
    (kk : W p l e R s mi args below meth co H locs cells slots Q (F0 mi (pc + 1) ls (.int z :: rest))) : W p l e R s mi args below meth co H locs cells slots Q (F0 mi pc ls (.ref (qw_ad L k c) :: rest)) := by
  obtain ⟨n9, h9⟩ := qw_ix hI.1
  have hg := qw_get h9 (qw_ctI (L := L) (M := X) (hp := hp) hI rfl)
  exact va_alen F.1 F.2.1 G.1 hP _ 0 hg rfl ez.symm hdg kk
theorem qr_lenT (F : CallFix p mi co cc nL s args Ts own) (G : qw_G L A s) (hP : qw_P L X hp H) {c : Nat} (hk : qw_k L k) (h4 : 4 ≤ c) (h8 : c < 8) {z : Int32} (ez : z = Int32.ofNat (qw_nr c)) (hdg : decode cc pc = .ok (.arraylength, 1))
    (kk : W p l e R s mi args below meth co H locs cells slots Q (F0 mi (pc + 1) ls (.int z :: rest))) : W p l e R s mi args below meth co H locs cells slots Q (F0 mi pc ls (.ref (qw_ad L k c) :: rest)) := by
  obtain ⟨n9, h9⟩ := qw_ix (hk.2 _ (by omega))
  have hg := qw_get h9 (qw_ctT (L := L) (M := X) (hp := hp) hk.1 h4 h8)
  exact va_alen F.1 F.2.1 G.1 hP _ 2 hg rfl ez.symm hdg kk
/-- a row of a table -/
theorem qr_row (F : CallFix p mi co cc nL s args Ts own) (G : qw_G L A s) (hP : qw_P L X hp H) (hk : qw_k L k) {t c n b : Nat} (h4 : 4 ≤ t) (h8 : t < 8) (hn : qw_nr t = n) (hrb : qw_rb t = b) {i : Int32} (hin : vp_in i n) (hc : b + i.toNatClampNeg = c) (hdg : decode cc pc = .ok (.aaload, 1))
    (kk : W p l e R s mi args below meth co H locs cells slots Q (F0 mi (pc + 1) ls (.ref (qw_ad L k c) :: rest))) : W p l e R s mi args below meth co H locs cells slots Q (F0 mi pc ls (.int i :: .ref (qw_ad L k t) :: rest)) := by
  obtain ⟨n9, h9⟩ := qw_ix (hk.2 _ (by omega))
  have hg := qw_get h9 (qw_ctT (L := L) (M := X) (hp := hp) hk.1 h4 h8)
  subst hn
  subst hrb
  subst hc
  have hlt : i.toNatClampNeg < qw_nr t := Nat.not_le.mp fun q => hin (Or.inr q)
  exact W.aald (v := .ref (qw_ad L k (qw_rb t + i.toNatClampNeg))) (ty := .array .int) F.1 F.2.1 (hP _ _ hg) ((G.1.2 2 _ rfl).1 _ _) rfl (fun q => by cases q) (by show ¬ (i < 0 ∨ (arrV _ _ _).slots.size ≤ _); rw [arrV_size]; exact hin) (by show (arrV _ _ _).slots[_]? = _; rw [arrV_read _ _ hlt]; simp only [if_pos hlt, va_rf]) rfl rfl hdg kk
/-- the history's states -/
theorem qr_his (F : CallFix p mi co cc nL s args Ts own) (G : qw_G L A s) (hv : qw_8 L) (hP : qw_P L X hp H) {i : Int32} (hin : vp_in i 5) {o : Nat} (ho : hp i.toNatClampNeg = o) (hdg : decode cc pc = .ok (.aaload, 1))
    (kk : W p l e R s mi args below meth co H locs cells slots Q (F0 mi (pc + 1) ls (.ref (qw_ad L o 0) :: rest))) : W p l e R s mi args below meth co H locs cells slots Q (F0 mi pc ls (.int i :: .ref (qw_ad L 8 1) :: rest)) := by
  obtain ⟨n9, h9⟩ := qw_ix (hv 1 (by decide))
  have hg := qw_get h9 (qw_ctH (L := L) (M := X) (hp := hp))
  have hlt : i.toNatClampNeg < 5 := Nat.not_le.mp fun q => hin (Or.inr q)
  subst ho
  refine va_aldq (C := "ReturnPile$State") F.1 F.2.1 G.1 hP _ 1 hg rfl hin hdg ?_
  rw [if_pos hlt]
  exact kk
def qw_hu (hp : Nat → Nat) (i o : Nat) : Nat → Nat := fun j => if j = i then o else hp j
theorem qr_hisW (F : CallFix p mi co cc nL s args Ts own) (G : qw_G L A s) (hv : qw_8 L) (hP : qw_P L X hp H) (hS : va_S A H0 H locs) {i : Int32} (hin : vp_in i 5) {i' o : Nat} (hi : i.toNatClampNeg = i') (ho : qw_k L o) {hp' : Nat → Nat} (hp2 : qw_hu hp i' o = hp') (hdg : decode cc pc = .ok (.aastore, 1))
    (kk : ∀ (H : Heap) (locs : List Loc), qw_P L X hp' H → va_S A H0 H locs → W p l e R s mi args below meth co H locs cells slots Q (F0 mi (pc + 1) ls rest)) : W p l e R s mi args below meth co H locs cells slots Q (F0 mi pc ls (.ref (qw_ad L o 0) :: .int i :: .ref (qw_ad L 8 1) :: rest)) := by
  obtain ⟨n9, h9⟩ := qw_ix (hv 1 (by decide))
  have hg := qw_get h9 (qw_ctH (L := L) (M := X) (hp := hp))
  obtain ⟨n8, h8⟩ := qw_ix (ho.2 0 (by decide))
  have hgo := qw_get h8 (qw_ctS (L := L) (M := X) (hp := hp) ho.1 rfl)
  have hlt : i.toNatClampNeg < 5 := Nat.not_le.mp fun q => hin (Or.inr q)
  subst hi
  subst hp2
  refine va_astq (r := (RX0, TX0, 14)) F.1 F.2.1 G.1 hP (qw_D G.2.1 G.2.2 X hp) hS _ 1 _ 0 hg rfl hgo rfl hin hdg (fun H locs hP2 _ hS2 => kk H locs ?_ hS2)
  have hw9 : (qw_WD L X hp).set n9 (qw_ad L 8 1, .inl (L.2.2.1, 5, .inr (.inr (.inr (.inr (va_up (fun i => if i < 5 then some (qw_ad L (hp i) 0) else none) i.toNatClampNeg (some (qw_ad L o 0)))))))) = qw_WD L X (qw_hu hp i.toNatClampNeg o) := by
    refine qw_set G.2.1.1 h9 ?_ (fun k' c' hne => qw_ct_cg rfl (Or.inr hne))
    rw [qw_ctH]
    congr 6
    funext j
    by_cases hj : j = i.toNatClampNeg
    · subst hj
      simp [va_up, qw_hu, hlt]
    · simp [va_up, qw_hu, hj]
  unfold qw_P
  rw [← hw9]
  exact hP2
/-- a run of cells is copied between two int arrays -/
theorem qr_cpy (F : CallFix p mi co cc nL s args Ts own) (G : qw_G L A s) (hP : qw_P L X hp H) (hS : va_S A H0 H locs) (hX : X k = m) {k0 c0 c n0 n1 : Nat} (hI0 : qw_I L k0 c0 n0) (hI : qw_I L k c n1) {f : Nat → Int32} (hf : X k0 c0 = f) {sp dp n : Int32} {sp' dp' n' : Nat} (h1 : ¬ sp < 0) (h2 : ¬ dp < 0) (h3 : ¬ n < 0) (e1 : sp.toNatClampNeg = sp') (e2 : dp.toNatClampNeg = dp') (e3 : n.toNatClampNeg = n') (h4 : sp' + n' ≤ n0) (h5 : dp' + n' ≤ n1) (hX' : qw_u1 X k (qw_uc m c (va_cpy f (m c) sp' dp' n')) = X')
    (hl : Cond.methodLink own index arraycopyName ∈ Ts) (hnat : Cond.native arraycopyName ∈ Ts) (hstat : Cond.static arraycopyName ∈ Ts) (hini : Cond.initialized "java/lang/System" ∈ Ts) (hls : ls.size = nL) (hframes : 1 ≤ R.frames) (hlocals : (rest.map fun v => v.category).sum + (nativeFrameWords "java/lang/System" "arraycopy" 5 + 11) ≤ R.locals) (hdg : decode cc pc = .ok (.invokestatic index, 3))
    (kk : ∀ (H : Heap) (locs : List Loc), qw_P L X' hp H → va_S A H0 H locs → W p l e R s mi args below meth co H locs cells slots Q (F0 mi (pc + 3) ls rest)) : W p l e R s mi args below meth co H locs cells slots Q (F0 mi pc ls (.int n :: .int dp :: .ref (qw_ad L k c) :: .int sp :: .ref (qw_ad L k0 c0) :: rest)) := by
  obtain ⟨n9, h9⟩ := qw_ix hI.1
  have hg := qw_get h9 (qw_ctI (L := L) (hp := hp) hI hX)
  obtain ⟨n8, h8⟩ := qw_ix hI0.1
  have hg0 := qw_get h8 (qw_ctI (L := L) (M := X) (hp := hp) hI0 rfl)
  rw [hf] at hg0
  subst e1
  subst e2
  subst e3
  have hx' := qw_X' hX'
  have hc := qw_ctI (L := L) (M := X') (hp := hp) hI hx'
  rw [qw_ucs] at hc
  exact va_copyi (ty := .int) F.1 F.2.1 (F.2.2.1.trans hls.symm) F.2.2.2.1 (F.2.2.2.2 _ hl) (F.2.2.2.2 _ hnat) (F.2.2.2.2 _ hstat) (F.2.2.2.2 _ hini) G.1 hP (qw_D G.2.1 G.2.2 X hp) hS _ _ 0 0 hg0 hg rfl rfl rfl h1 h2 h3 h4 h5 (fun _ _ => rfl) hframes hlocals hdg (fun H locs hP2 _ hS2 => kk H locs (by
      have hw9 := qw_wr (L := L) (hp := hp) G.2.1 h9 hX hX' hc
      unfold qw_P
      rw [← hw9]
      exact hP2) hS2)
end QR
end
section
def qw_Pre (L : wL) (X : wM) (hp : Nat → Nat) : State → Prop := fun U => qw_P L X hp U.heap ∧ va_K L.1 vwCl (qw_T L) U
def qw_MI (l : Launch) (y : MethodName) (ws : List Cond) (rm : Room) (L : wL) (av : List Value) (X : wM) (hp : Nat → Nat) (r : Int32) (X' : wM) (hp' : Nat → Nat) : Prop :=
  Met l y ws rm (va_Pc av (qw_Pre L X hp)) (va_Qi (fun (r' : Int32) (_ : Unit) => r' = r) (fun _ t => qw_P L X' hp' t.heap) (qw_A L)) 0 0 (qw_A L)
def qw_MV (l : Launch) (y : MethodName) (ws : List Cond) (rm : Room) (L : wL) (av : List Value) (X : wM) (hp : Nat → Nat) (X' : wM) (hp' : Nat → Nat) : Prop :=
  Met l y ws rm (va_Pc av (qw_Pre L X hp)) (va_Qv (fun (_ : Unit) => True) (fun _ t => qw_P L X' hp' t.heap) (qw_A L)) 0 0 (qw_A L)
def qw_RI (p : Program) (l : Launch) (e : Env) (R : Room) (s : State) (mi : MethodId) (args : Array Value) (below : List Frame) (meth : Method) (co : Code) (cc : ByteArray) (ty : FieldType) (Q : State → Prop) (L : wL) (r : Int32) (X' : wM) (hp' : Nat → Nat) : Prop :=
  ∀ (H : Heap) (locs : List Loc) (pc : Nat) (ls : Array Slot), qw_P L X' hp' H → va_S (qw_A L) s.heap H locs → narrow ty (.int r) = .int r → decode cc pc = .ok (.ireturn, 1) → W p l e R s mi args below meth co H locs 0 0 Q (F0 mi pc ls [.int r])
def qw_RV (p : Program) (l : Launch) (e : Env) (R : Room) (s : State) (mi : MethodId) (args : Array Value) (below : List Frame) (meth : Method) (co : Code) (cc : ByteArray) (Q : State → Prop) (L : wL) (X' : wM) (hp' : Nat → Nat) : Prop :=
  ∀ (H : Heap) (locs : List Loc) (pc : Nat) (ls : Array Slot), qw_P L X' hp' H → va_S (qw_A L) s.heap H locs → decode cc pc = .ok (.return_, 1) → W p l e R s mi args below meth co H locs 0 0 Q (F0 mi pc ls [])
theorem qw_MI_of {l : Launch} {y : MethodName} {ws ws' : List Cond} {rm : Room} {cc : ByteArray} {maxL : Nat} {ty : FieldType} {L : wL} {av : List Value} {X X' : wM} {hp hp' : Nat → Nat} {r : Int32} (hy : plainName y.cls = true) (hw : ws = Cond.code y cc maxL (some ty) :: ws') (hJ : qw_J L) (hlen : (lg_sl av).length ≤ maxL)
    (body : ∀ (p : Program) (e : Env) (s : State) (mi : MethodId) (below : List Frame) (meth : Method) (co : Code) (Q : State → Prop) (ls : Array Slot), CallFix p mi co cc maxL s av.toArray ws y.cls → qw_G L (qw_A L) s → qw_P L X hp s.heap → qw_RI p l e rm s mi av.toArray below meth co cc ty Q L r X' hp' → lv_has ls maxL (lv_args 0 av) → W p l e rm s mi av.toArray below meth co s.heap [] 0 0 Q (F0 mi 0 ls [])) : qw_MI l y ws rm L av X hp r X' hp' := by
  refine Met.ofW (cc := cc) (maxL := maxL) (ret := some ty) hy hw ?_
  intro p e s m args below meth c s₁ B hml hv
  obtain ⟨rfl, hP, hK⟩ := hv
  have hts := atoms_spec (ws := ws) B.pre
  have hown : s.vm.findClass y.cls = some m.cls := findClass_of_methodNamed B.named
  have hl := lv_entry av (n := maxL) hlen
  rw [lg_entry_eq]
  generalize (lg_sl av ++ List.replicate (maxL - (lg_sl av).length) Slot.unset).toArray = ls at hl ⊢
  refine body p e s m below meth c _ ls ⟨B.exec, B.bytes, hml, hown, hts⟩ ⟨hK, hJ, fun k c h => ⟨k, c, h, rfl⟩⟩ hP ?_ hl
  intro H locs pc ls hP' hS' hn hdg
  have hlocks := B.notSynchronized
  exact W.zret B.exec B.bytes B.returns hn (fun t ht hW => ⟨⟨r, (), rfl, rfl, by rw [ht]; exact hP'⟩, hS'.F ht⟩) hS'.2.2 hdg
theorem qw_MV_of {l : Launch} {y : MethodName} {ws ws' : List Cond} {rm : Room} {cc : ByteArray} {maxL : Nat} {L : wL} {av : List Value} {X X' : wM} {hp hp' : Nat → Nat} (hy : plainName y.cls = true) (hw : ws = Cond.code y cc maxL none :: ws') (hJ : qw_J L) (hlen : (lg_sl av).length ≤ maxL)
    (body : ∀ (p : Program) (e : Env) (s : State) (mi : MethodId) (below : List Frame) (meth : Method) (co : Code) (Q : State → Prop) (ls : Array Slot), CallFix p mi co cc maxL s av.toArray ws y.cls → qw_G L (qw_A L) s → qw_P L X hp s.heap → qw_RV p l e rm s mi av.toArray below meth co cc Q L X' hp' → lv_has ls maxL (lv_args 0 av) → W p l e rm s mi av.toArray below meth co s.heap [] 0 0 Q (F0 mi 0 ls [])) : qw_MV l y ws rm L av X hp X' hp' := by
  refine Met.ofW (cc := cc) (maxL := maxL) (ret := none) hy hw ?_
  intro p e s m args below meth c s₁ B hml hv
  obtain ⟨rfl, hP, hK⟩ := hv
  have hts := atoms_spec (ws := ws) B.pre
  have hown : s.vm.findClass y.cls = some m.cls := findClass_of_methodNamed B.named
  have hl := lv_entry av (n := maxL) hlen
  rw [lg_entry_eq]
  generalize (lg_sl av ++ List.replicate (maxL - (lg_sl av).length) Slot.unset).toArray = ls at hl ⊢
  refine body p e s m below meth c _ ls ⟨B.exec, B.bytes, hml, hown, hts⟩ ⟨hK, hJ, fun k c h => ⟨k, c, h, rfl⟩⟩ hP ?_ hl
  intro H locs pc ls hP' hS' hdg
  have hlocks := B.notSynchronized
  exact W.vret B.exec B.bytes B.returns (fun t ht hW => ⟨⟨(), rfl, trivial, by rw [ht]; exact hP'⟩, hS'.F ht⟩) hS'.2.2 hdg
/-- the receiver at the cell (k, c) is of the class C -/
def qw_rc (C : String) (L : wL) (X : wM) (hp : Nat → Nat) (k c : Nat) : Prop := ∃ (ci : Nat) (q : vw_C) (fs : List Value), qw_in L k c ∧ qw_ct L X hp k c = .inr (ci, fs) ∧ vwCl[ci]? = some q ∧ q.1 = C
theorem qw_rcS {L : wL} {X : wM} {hp : Nat → Nat} {k : Nat} (hk : qw_k L k) : qw_rc RX0 L X hp k 0 := ⟨0, _, _, hk.2 0 (by decide), qw_ctS hk.1 rfl, rfl, rfl⟩
theorem qw_rcX {L : wL} {X : wM} {hp : Nat → Nat} (hv : qw_8 L) : qw_rc RX1 L X hp 8 2 := ⟨1, _, _, hv 2 (by decide), qw_ctX rfl, rfl, rfl⟩
theorem qw_rcR {L : wL} {X : wM} {hp : Nat → Nat} (hv : qw_8 L) : qw_rc RX2 L X hp 8 0 := ⟨2, _, _, hv 0 (by decide), qw_ctR rfl, rfl, rfl⟩
theorem qw_rcM {L : wL} {X : wM} {hp : Nat → Nat} (hv : qw_9 L) : qw_rc RX3 L X hp 9 0 := ⟨3, _, _, hv 0 (by decide), qw_ctM rfl, rfl, rfl⟩
theorem qw_Pre_blind (L : wL) (X : wM) (hp : Nat → Nat) (av : List Value) : FrameBlind (va_Pc av (qw_Pre L X hp)) := fun a U g mk q => ⟨q.1, q.2.1, va_K.moved (u := U) (U := U.calling g mk a) (Vm.Alike.refl U.vm) q.2.2⟩
theorem qw_Pre_at {L : wL} {A : Nat → Prop} {s : State} {X : wM} {hp : Nat → Nat} {H : Heap} (G : qw_G L A s) (hP : qw_P L X hp H) (av : List Value) : ∀ U : State, U.heap = H → s.WarmedH U.vm → va_Pc av (qw_Pre L X hp) av.toArray U := fun U hU hW => ⟨rfl, by rw [hU]; exact hP, va_K.moved hW.alike G.1⟩
theorem qw_recv {L : wL} {A : Nat → Prop} {s : State} {X : wM} {hp : Nat → Nat} {H : Heap} {C : String} {k c : Nat} (G : qw_G L A s) (hP : qw_P L X hp H) (h : qw_rc C L X hp k c) : ∃ cell : Cell, H[qw_ad L k c]? = some cell ∧ cell.vm.isStatics = false ∧ s.vm.findClass C = some cell.cls := by
  obtain ⟨ci, q, fs, hv, hc, h1, rfl⟩ := h
  obtain ⟨n9, h9⟩ := qw_ix hv
  exact va_recv G.1 hP h1 (qw_get h9 hc)
abbrev qw_hd (y : MethodName) (C : String) (n : Nat) : Prop := y.cls = C ∧ y.cls ≠ "java/lang/invoke/MethodHandle" ∧ y.cls ≠ "java/lang/invoke/VarHandle" ∧ (parseMethodDescriptor y.desc).map (fun d => d.parameters.length) = some n
section QC
variable {p : Program} {l : Launch} {e : Env} {R : Room} {s : State} {mi : MethodId} {args : Array Value} {below : List Frame} {meth : Method} {co : Code} {H : Heap} {locs : List Loc} {cells slots : Nat} {Q : State → Prop}
variable {cc : ByteArray} {pc nL : Nat} {ls : Array Slot} {rest st0 : List Value} {A : Nat → Prop} {H0 : Heap} {L : wL} {X X' : wM} {hp hp' : Nat → Nat} {Ts : List Cond} {own C : String} {index : Nat} {k c : Nat} {As : List Value} {y : MethodName} {ws ws' : List Cond} {rm : Room} {bytes : ByteArray} {maxL n : Nat} {ret : Option FieldType} {r : Int32}
theorem qr_cVi (F : CallFix p mi co cc nL s args Ts own) (G : qw_G L A s) (hP : qw_P L X hp H) (hS : va_S A H0 H locs) (hM : qw_MI l y ws rm L (.ref (qw_ad L k c) :: As) X hp r X' hp') (hr : qw_rc C L X hp k c) (hT : GoodIn Ts (wsV own index C y ws)) (hw : ws = Cond.code y bytes maxL ret :: ws') (hrm : rm.cells = 0 ∧ rm.slots = 0) (hd : qw_hd y C n) (hR : rm.frames + 1 ≤ R.frames ∧ 8 + (maxL + 11) + rm.locals ≤ R.locals) (hn : As.length = n) (hsz : ls.size = nL) (hst : st0 = As.reverse ++ .ref (qw_ad L k c) :: rest) (hcat : (rest.map fun v => v.category).sum ≤ 8) (hcs : cells ≤ R.cells ∧ slots ≤ R.slots) (hdg : decode cc pc = .ok (.invokevirtual index, 3))
    (kk : ∀ (H : Heap) (locs : List Loc), qw_P L X' hp' H → va_S A H0 H locs → W p l e R s mi args below meth co H locs cells slots Q (F0 mi (pc + 3) ls (.int r :: rest))) : W p l e R s mi args below meth co H locs cells slots Q (F0 mi pc ls st0) := by
  have hsub : ∀ q : Nat, qw_A L q → A q := fun q h => by
    obtain ⟨k, c, h1, rfl⟩ := h
    exact G.2.2 k c h1
  subst hst
  refine va_calli (va_runV (As := As) (rest := rest) F hM (cwV n F.2.2.2.2 hT hw hrm.1 hrm.2 hd hR) ⟨qw_Pre_blind L X hp _, qw_recv G hP hr, qw_Pre_at G hP _⟩ rfl hn hsz rfl (lv_room (pc := 0) (ls := #[]) (m := mi) (rest := []) hcat) hdg hcs) hS (fun q _ h => hsub q h) hsub (fun r1 u t H1 locs1 ht hvm hw1 hB hz1 hk1 hS1 => ?_)
  subst hw1
  rw [ht] at hB
  exact kk H1 locs1 hB hS1
theorem qr_cVv (F : CallFix p mi co cc nL s args Ts own) (G : qw_G L A s) (hP : qw_P L X hp H) (hS : va_S A H0 H locs) (hM : qw_MV l y ws rm L (.ref (qw_ad L k c) :: As) X hp X' hp') (hr : qw_rc C L X hp k c) (hT : GoodIn Ts (wsV own index C y ws)) (hw : ws = Cond.code y bytes maxL ret :: ws') (hrm : rm.cells = 0 ∧ rm.slots = 0) (hd : qw_hd y C n) (hR : rm.frames + 1 ≤ R.frames ∧ 8 + (maxL + 11) + rm.locals ≤ R.locals) (hn : As.length = n) (hsz : ls.size = nL) (hst : st0 = As.reverse ++ .ref (qw_ad L k c) :: rest) (hcat : (rest.map fun v => v.category).sum ≤ 8) (hcs : cells ≤ R.cells ∧ slots ≤ R.slots) (hdg : decode cc pc = .ok (.invokevirtual index, 3))
    (kk : ∀ (H : Heap) (locs : List Loc), qw_P L X' hp' H → va_S A H0 H locs → W p l e R s mi args below meth co H locs cells slots Q (F0 mi (pc + 3) ls rest)) : W p l e R s mi args below meth co H locs cells slots Q (F0 mi pc ls st0) := by
  have hsub : ∀ q : Nat, qw_A L q → A q := fun q h => by
    obtain ⟨k, c, h1, rfl⟩ := h
    exact G.2.2 k c h1
  subst hst
  refine va_callv (va_runV (As := As) (rest := rest) F hM (cwV n F.2.2.2.2 hT hw hrm.1 hrm.2 hd hR) ⟨qw_Pre_blind L X hp _, qw_recv G hP hr, qw_Pre_at G hP _⟩ rfl hn hsz rfl (lv_room (pc := 0) (ls := #[]) (m := mi) (rest := []) hcat) hdg hcs) hS (fun q _ h => hsub q h) hsub (fun u t H1 locs1 ht hvm _ hB hz1 hk1 hS1 => ?_)
  rw [ht] at hB
  exact kk H1 locs1 hB hS1
theorem qr_cSi (F : CallFix p mi co cc nL s args Ts own) (G : qw_G L A s) (hP : qw_P L X hp H) (hS : va_S A H0 H locs) (hM : qw_MI l y ws rm L As X hp r X' hp') (hT : GoodIn Ts (va_wsS own index y ws)) (hw : ws = Cond.code y bytes maxL ret :: ws') (hrm : rm.cells = 0 ∧ rm.slots = 0) (hd : qw_hd y C n) (hR : rm.frames + 1 ≤ R.frames ∧ 8 + (maxL + 11) + rm.locals ≤ R.locals) (hn : As.length = n) (hsz : ls.size = nL) (hst : st0 = As.reverse ++ rest) (hcat : (rest.map fun v => v.category).sum ≤ 8) (hcs : cells ≤ R.cells ∧ slots ≤ R.slots) (hdg : decode cc pc = .ok (.invokestatic index, 3))
    (kk : ∀ (H : Heap) (locs : List Loc), qw_P L X' hp' H → va_S A H0 H locs → W p l e R s mi args below meth co H locs cells slots Q (F0 mi (pc + 3) ls (.int r :: rest))) : W p l e R s mi args below meth co H locs cells slots Q (F0 mi pc ls st0) := by
  have hsub : ∀ q : Nat, qw_A L q → A q := fun q h => by
    obtain ⟨k, c, h1, rfl⟩ := h
    exact G.2.2 k c h1
  subst hst
  refine va_calli (va_runS (As := As) (rest := rest) F hM (va_cwS n F.2.2.2.2 hT hw hrm.1 hrm.2 hd.2 hR) ⟨qw_Pre_blind L X hp _, qw_Pre_at G hP _⟩ rfl hn hsz rfl (lv_room (pc := 0) (ls := #[]) (m := mi) (rest := []) hcat) hdg hcs) hS (fun q _ h => hsub q h) hsub (fun r1 u t H1 locs1 ht hvm hw1 hB hz1 hk1 hS1 => ?_)
  subst hw1
  rw [ht] at hB
  exact kk H1 locs1 hB hS1
theorem qr_cSv (F : CallFix p mi co cc nL s args Ts own) (G : qw_G L A s) (hP : qw_P L X hp H) (hS : va_S A H0 H locs) (hM : qw_MV l y ws rm L As X hp X' hp') (hT : GoodIn Ts (va_wsS own index y ws)) (hw : ws = Cond.code y bytes maxL ret :: ws') (hrm : rm.cells = 0 ∧ rm.slots = 0) (hd : qw_hd y C n) (hR : rm.frames + 1 ≤ R.frames ∧ 8 + (maxL + 11) + rm.locals ≤ R.locals) (hn : As.length = n) (hsz : ls.size = nL) (hst : st0 = As.reverse ++ rest) (hcat : (rest.map fun v => v.category).sum ≤ 8) (hcs : cells ≤ R.cells ∧ slots ≤ R.slots) (hdg : decode cc pc = .ok (.invokestatic index, 3))
    (kk : ∀ (H : Heap) (locs : List Loc), qw_P L X' hp' H → va_S A H0 H locs → W p l e R s mi args below meth co H locs cells slots Q (F0 mi (pc + 3) ls rest)) : W p l e R s mi args below meth co H locs cells slots Q (F0 mi pc ls st0) := by
  have hsub : ∀ q : Nat, qw_A L q → A q := fun q h => by
    obtain ⟨k, c, h1, rfl⟩ := h
    exact G.2.2 k c h1
  subst hst
  refine va_callv (va_runS (As := As) (rest := rest) F hM (va_cwS n F.2.2.2.2 hT hw hrm.1 hrm.2 hd.2 hR) ⟨qw_Pre_blind L X hp _, qw_Pre_at G hP _⟩ rfl hn hsz rfl (lv_room (pc := 0) (ls := #[]) (m := mi) (rest := []) hcat) hdg hcs) hS (fun q _ h => hsub q h) hsub (fun u t H1 locs1 ht hvm _ hB hz1 hk1 hS1 => ?_)
  rw [ht] at hB
  exact kk H1 locs1 hB hS1
theorem qr_max (F : CallFix p mi co cc nL s args Ts own) (hl : Cond.methodLink own index Lib.Math.max.name ∈ Ts) (hstat : Cond.static Lib.Math.max.name ∈ Ts) (hini : Cond.initialized "java/lang/Math" ∈ Ts) (hcode : Cond.code Lib.Math.max.name Lib.Math.max.code 2 (some .int) ∈ Ts) (hsz : ls.size = nL) (hframes : 1 ≤ R.frames) (hlocals : (rest.map fun v => v.category).sum + 13 ≤ R.locals) (hcs : cells ≤ R.cells ∧ slots ≤ R.slots) {x y z : Int32} (ez : z = if x < y then y else x) (hdg : decode cc pc = .ok (.invokestatic index, 3))
    (kk : W p l e R s mi args below meth co H locs cells slots Q (F0 mi (pc + 3) ls (.int z :: rest))) : W p l e R s mi args below meth co H locs cells slots Q (F0 mi pc ls (.int y :: .int x :: rest)) := by
  subst ez
  exact va_mmax F.1 F.2.1 (F.2.2.1.trans hsz.symm) F.2.2.2.1 (F.2.2.2.2 _ hl) (F.2.2.2.2 _ hstat) (F.2.2.2.2 _ hini) (F.2.2.2.2 _ hcode) hframes hlocals hcs.1 hcs.2 hdg kk
theorem qr_min (F : CallFix p mi co cc nL s args Ts own) (hl : Cond.methodLink own index Lib.Math.min.name ∈ Ts) (hstat : Cond.static Lib.Math.min.name ∈ Ts) (hini : Cond.initialized "java/lang/Math" ∈ Ts) (hcode : Cond.code Lib.Math.min.name Lib.Math.min.code 2 (some .int) ∈ Ts) (hsz : ls.size = nL) (hframes : 1 ≤ R.frames) (hlocals : (rest.map fun v => v.category).sum + 13 ≤ R.locals) (hcs : cells ≤ R.cells ∧ slots ≤ R.slots) {x y z : Int32} (ez : z = if y < x then y else x) (hdg : decode cc pc = .ok (.invokestatic index, 3))
    (kk : W p l e R s mi args below meth co H locs cells slots Q (F0 mi (pc + 3) ls (.int z :: rest))) : W p l e R s mi args below meth co H locs cells slots Q (F0 mi pc ls (.int y :: .int x :: rest)) := by
  subst ez
  exact va_mmin F.1 F.2.1 (F.2.2.1.trans hsz.symm) F.2.2.2.1 (F.2.2.2.2 _ hl) (F.2.2.2.2 _ hstat) (F.2.2.2.2 _ hini) (F.2.2.2.2 _ hcode) hframes hlocals hcs.1 hcs.2 hdg kk
/-- numbers, named -/
theorem qr_iadd (F : CallFix p mi co cc nL s args Ts own) {x y z : Int32} (ez : z = x + y) (hdg : decode cc pc = .ok (.iadd, 1)) (kk : W p l e R s mi args below meth co H locs cells slots Q (F0 mi (pc + 1) ls (.int z :: rest))) : W p l e R s mi args below meth co H locs cells slots Q (F0 mi pc ls (.int y :: .int x :: rest)) := lv_iadd F.1 F.2.1 hdg (ez ▸ kk)
theorem qr_isub (F : CallFix p mi co cc nL s args Ts own) {x y z : Int32} (ez : z = x - y) (hdg : decode cc pc = .ok (.isub, 1)) (kk : W p l e R s mi args below meth co H locs cells slots Q (F0 mi (pc + 1) ls (.int z :: rest))) : W p l e R s mi args below meth co H locs cells slots Q (F0 mi pc ls (.int y :: .int x :: rest)) := lv_isub F.1 F.2.1 hdg (ez ▸ kk)
theorem qr_imul (F : CallFix p mi co cc nL s args Ts own) {x y z : Int32} (ez : z = x * y) (hdg : decode cc pc = .ok (.imul, 1)) (kk : W p l e R s mi args below meth co H locs cells slots Q (F0 mi (pc + 1) ls (.int z :: rest))) : W p l e R s mi args below meth co H locs cells slots Q (F0 mi pc ls (.int y :: .int x :: rest)) := lv_imul F.1 F.2.1 hdg (ez ▸ kk)
theorem qr_irem (F : CallFix p mi co cc nL s args Ts own) {x y z : Int32} (hy : ¬ y = 0) (ez : z = x - x / y * y) (hdg : decode cc pc = .ok (.irem, 1)) (kk : W p l e R s mi args below meth co H locs cells slots Q (F0 mi (pc + 1) ls (.int z :: rest))) : W p l e R s mi args below meth co H locs cells slots Q (F0 mi pc ls (.int y :: .int x :: rest)) := lv_irem F.1 F.2.1 hdg hy (ez ▸ kk)
/-- a switch by a table, out of its rows -/
theorem qr_swD (F : CallFix p mi co cc nL s args Ts own) {dflt hi : Int} {offs : Array Int} {len : Nat} {x : Int32} {tgt n : Nat} (hdg : decode cc pc = .ok (.tableswitch dflt 0 hi offs, len)) (hhi : hi = n) (hn : n < 1000) (h : ∀ j : Nat, j ≤ n → ¬ x = nI j) (ht : (pc : Int) + dflt = (tgt : Int)) (kk : W p l e R s mi args below meth co H locs cells slots Q (F0 mi tgt ls rest)) : W p l e R s mi args below meth co H locs cells slots Q (F0 mi pc ls (.int x :: rest)) := by
  refine lv_tableOut F.1 F.2.1 hdg ?_ ht kk
  subst hhi
  by_cases h1 : x.toInt < 0
  · exact Or.inl h1
  · by_cases h2 : (n : Int) < x.toInt
    · exact Or.inr h2
    · refine absurd ?_ (h x.toInt.toNat (by omega))
      apply Int32.toInt_inj.mp
      rw [nI_toInt (by omega)]
      omega
end QC
/-! a function of the walk, step by step -/
def qn {α β : Type} (x : α) (k : α → Option β) : Option β := k x
theorem qn_x {α β : Type} {x : α} {k : α → Option β} {r : β} (h : qn x k = some r) : ∃ z, z = x ∧ k z = some r := ⟨x, rfl, h⟩
noncomputable def qg {β : Type} (p : Prop) (k : Option β) : Option β := @ite _ p (Classical.propDecidable p) k none
theorem qg_x {β : Type} {p : Prop} {k : Option β} {r : β} (h : qg p k = some r) : p ∧ k = some r := by
  unfold qg at h
  by_cases hp : p
  · exact ⟨hp, by rw [if_pos hp] at h; exact h⟩
  · rw [if_neg hp] at h
    cases h
theorem qg_t {β : Type} {p : Prop} {k : Option β} (hp : p) : qg p k = k := by
  unfold qg
  exact if_pos hp
def qb1 {α β : Type} (o : Option α) (k : α → Option β) : Option β := match o with
  | none => none
  | some a => k a
theorem qb1_x {α β : Type} {o : Option α} {k : α → Option β} {r : β} (h : qb1 o k = some r) : ∃ a, o = some a ∧ k a = some r := by
  cases o with
  | none => cases h
  | some a => exact ⟨a, rfl, h⟩
def qb2 {α γ β : Type} (o : Option (α × γ)) (k : α → γ → Option β) : Option β := match o with
  | none => none
  | some a => k a.1 a.2
theorem qb2_x {α γ β : Type} {o : Option (α × γ)} {k : α → γ → Option β} {r : β} (h : qb2 o k = some r) : ∃ a b, o = some (a, b) ∧ k a b = some r := by
  cases o with
  | none => cases h
  | some a => exact ⟨a.1, a.2, rfl, h⟩
def qb3 {α γ δ β : Type} (o : Option (α × γ × δ)) (k : α → γ → δ → Option β) : Option β := match o with
  | none => none
  | some a => k a.1 a.2.1 a.2.2
theorem qb3_x {α γ δ β : Type} {o : Option (α × γ × δ)} {k : α → γ → δ → Option β} {r : β} (h : qb3 o k = some r) : ∃ a b c, o = some (a, b, c) ∧ k a b c = some r := by
  cases o with
  | none => cases h
  | some a => exact ⟨a.1, a.2.1, a.2.2, rfl, h⟩
theorem qb1_s {α β : Type} {o : Option α} {k : α → Option β} {a : α} (h : o = some a) : qb1 o k = k a := by
  subst h
  rfl
theorem qb2_s {α γ β : Type} {o : Option (α × γ)} {k : α → γ → Option β} {a : α} {b : γ} (h : o = some (a, b)) : qb2 o k = k a b := by
  subst h
  rfl
theorem qb3_s {α γ δ β : Type} {o : Option (α × γ × δ)} {k : α → γ → δ → Option β} {a : α} {b : γ} {c : δ} (h : o = some (a, b, c)) : qb3 o k = k a b c := by
  subst h
  rfl
theorem qs1 {α : Type} {a b : α} (h : some a = some b) : a = b := Option.some.inj h
theorem qs2 {α β : Type} {a c : α} {b d : β} (h : some (a, b) = some (c, d)) : a = c ∧ b = d := by
  cases h
  exact ⟨rfl, rfl⟩
theorem qs3 {α β γ : Type} {a c : α} {b d : β} {x y : γ} (h : some (a, b, x) = some (c, d, y)) : a = c ∧ b = d ∧ x = y := by
  cases h
  exact ⟨rfl, rfl, rfl⟩
theorem qw_fx {M : wM} {k : Nat} {m m' m2 : wm} (h : m2 = m') : qw_u1 (qw_u1 M k m) k m' = qw_u1 M k m2 := by rw [h, qw_u11]
theorem qw_cl {i : Int32} {n j : Nat} (h : n = j) (h2 : i.toNatClampNeg = n) : i.toNatClampNeg = j := h2.trans h
theorem qi_t {α : Type} {c : Prop} {_ : Decidable c} {a b r : α} (h : c) (hf : (if c then a else b) = r) : a = r := by
  rw [if_pos h] at hf
  exact hf
theorem qi_f {α : Type} {c : Prop} {_ : Decidable c} {a b r : α} (h : ¬ c) (hf : (if c then a else b) = r) : b = r := by
  rw [if_neg h] at hf
  exact hf
theorem qw_lt {i : Int32} {n : Nat} (h : vp_in i n) : i.toNatClampNeg < n := Nat.not_le.mp fun q => h (Or.inr q)
theorem qw_nz {z : Int32} (h : z = 0 ∨ z = 1) : narrow .boolean (.int z) = .int z := by rcases h with rfl | rfl <;> rfl
/-- the turns that a loop may take -/
def qfu : Nat := 6000
end
section
noncomputable def qf_J7_fill_53178_5 : Nat → Nat → Nat → Int32 → Int32 → Int32 → wm → Option wm
  | 0, _, _, _, _, _, _ => none
  | n + 1, ca, le, x1, x2, x3, m =>
  if x3 ≤ x2 then
    some m
  else
    qg (vp_in x2 le) <|
    qn (qw_u2 m ca x2.toNatClampNeg x1) fun m3 =>
    qn (x2 + 1) fun z4 =>
    qf_J7_fill_53178_5 n ca le x1 z4 x3 m3
noncomputable def qf_J7_fill_53178 (ca : Nat) (le : Nat) (x1 : Int32) (m : wm) : Option wm :=
  qn (Int32.ofNat le) fun z1 =>
  qf_J7_fill_53178_5 qfu ca le x1 (0 : Int32) z1 m
noncomputable def qf_X0_beginAnew (x1 : Int32) (m : wm) : Option wm :=
  qn (qw_u2 m 0 1 x1) fun m1 =>
  qn (x1 - (1 : Int32)) fun z2 =>
  qn (qw_u2 m1 0 2 z2) fun m3 =>
  qn (qw_u2 m3 0 3 (0 : Int32)) fun m4 =>
  qn (qw_u2 m4 0 4 (0 : Int32)) fun m5 =>
  qn (qw_u2 m5 0 5 (0 : Int32)) fun m6 =>
  qn (qw_u2 m6 0 6 (0 : Int32)) fun m7 =>
  qb1 (qf_J7_fill_53178 1 4 (0 : Int32) m7) fun m9 =>
  qb1 (qf_J7_fill_53178 2 4 (0 : Int32) m9) fun m11 =>
  qb1 (qf_J7_fill_53178 3 200 (0 : Int32) m11) fun m13 =>
  qb1 (qf_J7_fill_53178 13 16 (-9 : Int32) m13) fun m15 =>
  qb1 (qf_J7_fill_53178 14 16 (-9 : Int32) m15) fun m17 =>
  qb1 (qf_J7_fill_53178 15 16 (0 : Int32) m17) fun m19 =>
  some m19
noncomputable def qf_X0_copyRows_2 : Nat → Nat → wm → Int32 → Int32 → wm → Option wm
  | 0, _, _, _, _, _ => none
  | n + 1, t, mo, x2, x3, m =>
  qn (Int32.ofNat (qw_nr t)) fun z1 =>
  if z1 ≤ x3 then
    some m
  else
    qg (vp_in x3 (qw_nr t)) <|
    qg (vp_in x3 (qw_nr t)) <|
    qg (¬ x2 < 0) <|
    qg (0 + x2.toNatClampNeg ≤ (qw_rl t)) <|
    qg (0 + x2.toNatClampNeg ≤ (qw_rl t)) <|
    qn (qw_uc m ((qw_rb t) + x3.toNatClampNeg) (va_cpy (mo ((qw_rb t) + x3.toNatClampNeg)) (m ((qw_rb t) + x3.toNatClampNeg)) 0 0 x2.toNatClampNeg)) fun m8 =>
    qn (x3 + 1) fun z9 =>
    qf_X0_copyRows_2 n t mo x2 z9 m8
noncomputable def qf_X0_copyRows (t : Nat) (mo : wm) (x2 : Int32) (m : wm) : Option wm :=
  qf_X0_copyRows_2 qfu t mo x2 (0 : Int32) m
noncomputable def qf_X0_copyFrom (mo : wm) (m : wm) : Option wm :=
  qn (mo 0 0) fun z1 =>
  qn (qw_u2 m 0 0 z1) fun m2 =>
  qn (mo 0 1) fun z3 =>
  qn (qw_u2 m2 0 1 z3) fun m4 =>
  qn (mo 0 2) fun z5 =>
  qn (qw_u2 m4 0 2 z5) fun m6 =>
  qn (mo 0 3) fun z7 =>
  qn (qw_u2 m6 0 3 z7) fun m8 =>
  qn (mo 0 4) fun z9 =>
  qn (qw_u2 m8 0 4 z9) fun m10 =>
  qn (mo 0 5) fun z11 =>
  qn (qw_u2 m10 0 5 z11) fun m12 =>
  qn (mo 0 6) fun z13 =>
  qn (qw_u2 m12 0 6 z13) fun m14 =>
  qn (qw_uc m14 1 (va_cpy (mo 1) (m14 1) 0 0 4)) fun m15 =>
  qn (qw_uc m15 2 (va_cpy (mo 2) (m15 2) 0 0 4)) fun m16 =>
  qn (qw_uc m16 3 (va_cpy (mo 3) (m16 3) 0 0 200)) fun m17 =>
  qb1 (qf_X0_copyRows 4 mo (40 : Int32) m17) fun m19 =>
  qb1 (qf_X0_copyRows 5 mo (16 : Int32) m19) fun m21 =>
  qb1 (qf_X0_copyRows 6 mo (200 : Int32) m21) fun m23 =>
  qb1 (qf_X0_copyRows 7 mo (12 : Int32) m23) fun m25 =>
  some m25
noncomputable def qf_X0_isNumberFor (x0 : Int32) (x1 : Int32) : Option Int32 :=
  if x0 = 0 then
    if x1 < 0 then
      some (0 : Int32)
    else
      if (999 : Int32) < x1 then
        some (0 : Int32)
      else
        some (1 : Int32)
  else
    if x0 = (3 : Int32) then
      if x1 < (1 : Int32) then
        some (0 : Int32)
      else
        if (40 : Int32) < x1 then
          some (0 : Int32)
        else
          some (1 : Int32)
    else
      some (1 : Int32)
noncomputable def qf_X0_framesNeeded (x0 : Int32) (x1 : Int32) : Option Int32 :=
  if x0 = (0 : Int32) then
    some (0 : Int32)
  else
  if x0 = (3 : Int32) then
    some x1
  else
  some (1 : Int32)
noncomputable def qf_X0_errorOf (x1 : Int32) (x2 : Int32) (x3 : Int32) (m : wm) : Option Int32 :=
  if x2 < 0 then
    some (-1 : Int32)
  else
    if (15 : Int32) < x2 then
      some (-1 : Int32)
    else
      qb1 (qf_X0_isNumberFor x1 x3) fun r3 =>
      if r3 = 0 then
        some (-1 : Int32)
      else
        qn (m 0 3) fun z6 =>
        qb1 (qf_X0_framesNeeded x1 x3) fun r7 =>
        if r7 ≤ z6 then
          qn (m 0 5) fun z10 =>
          if (200 : Int32) ≤ z10 then
            some (-3 : Int32)
          else
            if x1 = 0 then
              qn (m 0 3) fun z13 =>
              if z13 < (40 : Int32) then
                some (0 : Int32)
              else
                some (-3 : Int32)
            else
              some (0 : Int32)
        else
          some (-2 : Int32)
noncomputable def qf_X0_isOverrun (x1 : Int32) (m : wm) : Option Int32 :=
  qg (vp_in x1 40) <|
  qn (m 12 x1.toNatClampNeg) fun z1 =>
  if z1 = (-9 : Int32) then
    some (0 : Int32)
  else
    some (1 : Int32)
noncomputable def qf_X0_overrunFramesOfTop_2 : Nat → Int32 → Int32 → wm → Option wm
  | 0, _, _, _ => none
  | n + 1, x1, x2, m =>
  qn (m 0 3) fun z1 =>
  if z1 ≤ x2 then
    some m
  else
    qg (vp_in x2 40) <|
    qn (m 11 x2.toNatClampNeg) fun z3 =>
    qn (m 0 2) fun z5 =>
    if z3 = z5 then
      qb1 (qf_X0_isOverrun x2 m) fun r8 =>
      if r8 = 0 then
        qg (vp_in x2 40) <|
        qn (qw_u2 m 12 x2.toNatClampNeg x1) fun m13 =>
        qn (x2 + 1) fun z14 =>
        qf_X0_overrunFramesOfTop_2 n x1 z14 m13
      else
        qn (x2 + 1) fun z11 =>
        qf_X0_overrunFramesOfTop_2 n x1 z11 m
    else
      qn (x2 + 1) fun z7 =>
      qf_X0_overrunFramesOfTop_2 n x1 z7 m
noncomputable def qf_X0_overrunFramesOfTop (x1 : Int32) (m : wm) : Option wm :=
  qf_X0_overrunFramesOfTop_2 qfu x1 (0 : Int32) m
noncomputable def qf_X0_addFrame_31 (x1 : Int32) (x2 : Int32) (x3 : Int32) (y0 : Int32) (m : wm) : Option (Int32 × wm) :=
  qn (qw_u2 m 0 2 y0) fun m1 =>
  qb1 (qf_X0_overrunFramesOfTop x3 m1) fun m3 =>
  qn (m3 0 2) fun z4 =>
  qg (vp_in z4 16) <|
  qn (qw_u2 m3 13 z4.toNatClampNeg x3) fun m6 =>
  qn (m6 0 2) fun z7 =>
  qg (vp_in z7 16) <|
  qn (qw_u2 m6 14 z7.toNatClampNeg x2) fun m9 =>
  qn (m9 0 2) fun z10 =>
  qg (vp_in z10 16) <|
  qn (m9 15 z10.toNatClampNeg) fun z11 =>
  qn (z11 + (1 : Int32)) fun z13 =>
  qg (vp_in z10 16) <|
  qn (qw_u2 m9 15 z10.toNatClampNeg z13) fun m15 =>
  qn (m15 0 3) fun z16 =>
  qg (vp_in z16 40) <|
  qn (qw_u2 m15 8 z16.toNatClampNeg x3) fun m18 =>
  qn (m18 0 3) fun z19 =>
  qg (vp_in z19 40) <|
  qn (qw_u2 m18 9 z19.toNatClampNeg x1) fun m21 =>
  qn (m21 0 3) fun z22 =>
  qg (vp_in z22 40) <|
  qn (qw_u2 m21 10 z22.toNatClampNeg x2) fun m24 =>
  qn (m24 0 3) fun z25 =>
  qn (m24 0 2) fun z26 =>
  qg (vp_in z25 40) <|
  qn (qw_u2 m24 11 z25.toNatClampNeg z26) fun m28 =>
  qn (m28 0 3) fun z29 =>
  qg (vp_in z29 40) <|
  qn (qw_u2 m28 12 z29.toNatClampNeg (-9 : Int32)) fun m31 =>
  qn (m31 0 3) fun z32 =>
  qn (z32 + (1 : Int32)) fun z33 =>
  qn (qw_u2 m31 0 3 z33) fun m34 =>
  qn (m34 0 4) fun z35 =>
  qn (m34 0 3) fun z36 =>
  qn (if z35 < z36 then z36 else z35) fun z37 =>
  qn (qw_u2 m34 0 4 z37) fun m38 =>
  some (x3, m38)
noncomputable def qf_X0_addFrame (x1 : Int32) (x2 : Int32) (m : wm) : Option (Int32 × wm) :=
  qn (m 1 0) fun z1 =>
  qn (m 0 2) fun z2 =>
  qn (z2 + (1 : Int32)) fun z3 =>
  qn (m 0 1) fun z4 =>
  if z4 ≤ z3 then
    qf_X0_addFrame_31 x1 x2 z1 (0 : Int32) m
  else
    qn (m 0 2) fun z6 =>
    qn (z6 + (1 : Int32)) fun z7 =>
    qf_X0_addFrame_31 x1 x2 z1 z7 m
noncomputable def qf_X0_replaceFunction (x1 : Int32) (m : wm) : Option (Int32 × wm) :=
  qn (m 0 3) fun z1 =>
  qn (z1 - (1 : Int32)) fun z2 =>
  qg (vp_in z2 40) <|
  qn (m 9 z2.toNatClampNeg) fun z3 =>
  qn (m 0 3) fun z5 =>
  qn (z5 - (1 : Int32)) fun z6 =>
  qg (vp_in z6 40) <|
  qn (qw_u2 m 9 z6.toNatClampNeg x1) fun m8 =>
  some (z3, m8)
noncomputable def qf_X0_outcomeOf (x1 : Int32) (x2 : Int32) (m : wm) : Option Int32 :=
  qg (vp_in x2 16) <|
  qn (m 14 x2.toNatClampNeg) fun z1 =>
  qg (vp_in x1 40) <|
  qn (m 10 x1.toNatClampNeg) fun z3 =>
  if z1 = z3 then
    qg (vp_in x2 16) <|
    qn (m 13 x2.toNatClampNeg) fun z9 =>
    qg (vp_in x1 40) <|
    qn (m 8 x1.toNatClampNeg) fun z11 =>
    if z9 = z11 then
      some (0 : Int32)
    else
      some (1 : Int32)
  else
    qb1 (qf_X0_isOverrun x1 m) fun r6 =>
    if r6 = 0 then
      some (3 : Int32)
    else
      some (2 : Int32)
noncomputable def qf_X0_confess_99 (x2 : Int32) (x4 : Int32) (y0 : Int32) (y1 : Int32) (m : wm) : Option wm :=
  qg (vp_in y1 12) <|
  qn (qw_u2 m 19 y1.toNatClampNeg y0) fun m2 =>
  qn (qw_u2 m2 20 0 x4) fun m3 =>
  qg (vp_in x2 40) <|
  qn (m3 8 x2.toNatClampNeg) fun z4 =>
  qn (qw_u2 m3 21 0 z4) fun m6 =>
  qn (m6 0 2) fun z7 =>
  qg (vp_in z7 16) <|
  qn (m6 14 z7.toNatClampNeg) fun z8 =>
  qn (qw_u2 m6 22 0 z8) fun m10 =>
  qg (vp_in x2 40) <|
  qn (m10 10 x2.toNatClampNeg) fun z11 =>
  qn (qw_u2 m10 23 0 z11) fun m13 =>
  qn (m13 0 5) fun z14 =>
  qn (qw_u2 m13 24 0 z14) fun m15 =>
  qn (m15 0 6) fun z16 =>
  qn (z16 + (1 : Int32)) fun z17 =>
  qn (if (12 : Int32) < z17 then (12 : Int32) else z17) fun z18 =>
  qn (qw_u2 m15 0 6 z18) fun m19 =>
  if x4 < 0 then
    some m19
  else
    qg (vp_in x4 200) <|
    qn (m19 3 x4.toNatClampNeg) fun z21 =>
    qn (z21 + (1 : Int32)) fun z23 =>
    qg (vp_in x4 200) <|
    qn (qw_u2 m19 3 x4.toNatClampNeg z23) fun m25 =>
    some m25
noncomputable def qf_X0_confess_49 : Nat → Int32 → Int32 → Int32 → Int32 → wm → Option wm
  | 0, _, _, _, _, _ => none
  | n + 1, x2, x3, x4, x5, m =>
  if (6 : Int32) ≤ x5 then
    if x3 = 0 then
      qf_X0_confess_99 x2 x4 (2 : Int32) (0 : Int32) m
    else
      qf_X0_confess_99 x2 x4 (1 : Int32) (0 : Int32) m
  else
    qg (vp_in x5 6) <|
    qg (vp_in x5 6) <|
    qn (qw_uc m (19 + x5.toNatClampNeg) (va_cpy (m (19 + x5.toNatClampNeg)) (m (19 + x5.toNatClampNeg)) 0 1 11)) fun m5 =>
    qn (x5 + 1) fun z6 =>
    qf_X0_confess_49 n x2 x3 x4 z6 m5
noncomputable def qf_X0_confess_44 (x2 : Int32) (x3 : Int32) (y0 : Int32) (m : wm) : Option wm :=
  qf_X0_confess_49 qfu x2 x3 y0 (0 : Int32) m
noncomputable def qf_X0_confess_17 (x2 : Int32) (y0 : Int32) (m : wm) : Option wm :=
  if y0 = 0 then
    qn (m 0 2) fun z2 =>
    qg (vp_in z2 16) <|
    qn (m 13 z2.toNatClampNeg) fun z3 =>
    qf_X0_confess_44 x2 y0 z3 m
  else
    qg (vp_in x2 40) <|
    qn (m 12 x2.toNatClampNeg) fun z5 =>
    qf_X0_confess_44 x2 y0 z5 m
noncomputable def qf_X0_confess (x1 : Int32) (m : wm) : Option wm :=
  qn (m 0 3) fun z1 =>
  qn (z1 - (1 : Int32)) fun z2 =>
  if x1 = (2 : Int32) then
    qf_X0_confess_17 z2 (1 : Int32) m
  else
    qf_X0_confess_17 z2 (0 : Int32) m
noncomputable def qf_X0_slotBefore (x1 : Int32) (m : wm) : Option Int32 :=
  if x1 ≤ 0 then
    qn (m 0 1) fun z2 =>
    qn (z2 - (1 : Int32)) fun z3 =>
    some z3
  else
    qn (x1 - (1 : Int32)) fun z4 =>
    some z4
noncomputable def qf_X0_removeFrame_30 (x1 : Int32) (m : wm) : Option (Int32 × wm) :=
  qg (vp_in x1 4) <|
  qn (m 2 x1.toNatClampNeg) fun z1 =>
  qn (z1 + (1 : Int32)) fun z3 =>
  qg (vp_in x1 4) <|
  qn (qw_u2 m 2 x1.toNatClampNeg z3) fun m5 =>
  qn (m5 0 3) fun z6 =>
  qn (z6 - (1 : Int32)) fun z7 =>
  qn (qw_u2 m5 0 3 z7) fun m8 =>
  qn (m8 0 2) fun z9 =>
  qb1 (qf_X0_slotBefore z9 m8) fun r10 =>
  qn (qw_u2 m8 0 2 r10) fun m12 =>
  some (x1, m12)
noncomputable def qf_X0_removeFrame_25 (x1 : Int32) (m : wm) : Option (Int32 × wm) :=
  qb1 (qf_X0_confess x1 m) fun m2 =>
  qf_X0_removeFrame_30 x1 m2
noncomputable def qf_X0_removeFrame (m : wm) : Option (Int32 × wm) :=
  qn (m 0 3) fun z1 =>
  qn (z1 - (1 : Int32)) fun z2 =>
  qn (m 0 2) fun z3 =>
  qb1 (qf_X0_outcomeOf z2 z3 m) fun r4 =>
  if r4 = (2 : Int32) then
    qf_X0_removeFrame_25 r4 m
  else
    if r4 = (3 : Int32) then
      qf_X0_removeFrame_25 r4 m
    else
      qf_X0_removeFrame_30 r4 m
noncomputable def qf_X0_removeFrames_20 : Nat → Int32 → Int32 → wm → Option (Int32 × wm)
  | 0, _, _, _ => none
  | n + 1, x1, x2, m =>
  if x1 ≤ x2 then
    qn (m 0 3) fun z2 =>
    some (z2, m)
  else
    qn (m 0 2) fun z3 =>
    qb1 (qf_X0_slotBefore z3 m) fun r4 =>
    qn (qw_u2 m 0 2 r4) fun m6 =>
    qn (x2 + 1) fun z7 =>
    qf_X0_removeFrames_20 n x1 z7 m6
noncomputable def qf_X0_removeFrames (x1 : Int32) (m : wm) : Option (Int32 × wm) :=
  qn (m 0 3) fun z1 =>
  qn (z1 - x1) fun z2 =>
  qn (qw_u2 m 0 3 z2) fun m3 =>
  qn (m3 0 0) fun z4 =>
  if z4 = (1 : Int32) then
    qf_X0_removeFrames_20 qfu x1 (0 : Int32) m3
  else
    qn (m3 0 3) fun z6 =>
    some (z6, m3)
noncomputable def qf_X0_remember (x1 : Int32) (x2 : Int32) (x3 : Int32) (m : wm) : Option wm :=
  qn (m 0 5) fun z1 =>
  qg (vp_in z1 200) <|
  qn (qw_u2 m 16 z1.toNatClampNeg x1) fun m3 =>
  qn (m3 0 5) fun z4 =>
  qg (vp_in z4 200) <|
  qn (qw_u2 m3 17 z4.toNatClampNeg x2) fun m6 =>
  qn (m6 0 5) fun z7 =>
  qg (vp_in z7 200) <|
  qn (qw_u2 m6 18 z7.toNatClampNeg x3) fun m9 =>
  qn (m9 0 5) fun z10 =>
  qn (z10 + (1 : Int32)) fun z11 =>
  qn (qw_u2 m9 0 5 z11) fun m12 =>
  qg (vp_in x1 4) <|
  qn (m12 1 x1.toNatClampNeg) fun z13 =>
  qn (z13 + (1 : Int32)) fun z15 =>
  qg (vp_in x1 4) <|
  qn (qw_u2 m12 1 x1.toNatClampNeg z15) fun m17 =>
  some m17
noncomputable def qf_X0_take_81 (x1 : Int32) (x2 : Int32) (x3 : Int32) (x5 : Int32) (m : wm) : Option (Int32 × wm) :=
  qb1 (qf_X0_remember x1 x2 x3 m) fun m2 =>
  some (x5, m2)
noncomputable def qf_X0_take (x1 : Int32) (x2 : Int32) (x3 : Int32) (m : wm) : Option (Int32 × wm) :=
  qb1 (qf_X0_errorOf x1 x2 x3 m) fun r1 =>
  if r1 = 0 then
    if x1 = (0 : Int32) then
      qb2 (qf_X0_addFrame x2 x3 m) fun r5 m7 =>
      qf_X0_take_81 x1 x2 x3 r5 m7
    else
    if x1 = (1 : Int32) then
      qb2 (qf_X0_replaceFunction x2 m) fun r9 m11 =>
      qf_X0_take_81 x1 x2 x3 r9 m11
    else
    if x1 = (2 : Int32) then
      qb2 (qf_X0_removeFrame m) fun r13 m15 =>
      qf_X0_take_81 x1 x2 x3 r13 m15
    else
    qb2 (qf_X0_removeFrames x3 m) fun r16 m18 =>
    qf_X0_take_81 x1 x2 x3 r16 m18
  else
    some (r1, m)
noncomputable def qf_X0_overrunFrames_4 : Nat → Int32 → Int32 → wm → Option Int32
  | 0, _, _, _ => none
  | n + 1, x1, x2, m =>
  qn (m 0 3) fun z1 =>
  if z1 ≤ x2 then
    some x1
  else
    qb1 (qf_X0_isOverrun x2 m) fun r3 =>
    if r3 = 0 then
      qn (x2 + 1) fun z6 =>
      qf_X0_overrunFrames_4 n x1 z6 m
    else
      qn (x1 + 1) fun z7 =>
      qn (x2 + 1) fun z8 =>
      qf_X0_overrunFrames_4 n z7 z8 m
noncomputable def qf_X0_overrunFrames (m : wm) : Option Int32 :=
  qf_X0_overrunFrames_4 qfu (0 : Int32) (0 : Int32) m
noncomputable def qf_X0_hitsAhead_10 : Nat → Int32 → Int32 → Int32 → Int32 → wm → Option Int32
  | 0, _, _, _, _, _ => none
  | n + 1, x1, x2, x3, x4, m =>
  if x1 < x4 then
    some x2
  else
    qn (m 0 3) fun z2 =>
    qn (z2 - x4) fun z3 =>
    qb1 (qf_X0_outcomeOf z3 x3 m) fun r4 =>
    if r4 = 0 then
      qn (x2 + 1) fun z7 =>
      qb1 (qf_X0_slotBefore x3 m) fun r8 =>
      qn (x4 + 1) fun z10 =>
      qf_X0_hitsAhead_10 n x1 z7 r8 z10 m
    else
      if r4 = (1 : Int32) then
        qn (x2 + 1) fun z15 =>
        qb1 (qf_X0_slotBefore x3 m) fun r16 =>
        qn (x4 + 1) fun z18 =>
        qf_X0_hitsAhead_10 n x1 z15 r16 z18 m
      else
        qb1 (qf_X0_slotBefore x3 m) fun r12 =>
        qn (x4 + 1) fun z14 =>
        qf_X0_hitsAhead_10 n x1 x2 r12 z14 m
noncomputable def qf_X0_hitsAhead (x1 : Int32) (m : wm) : Option Int32 :=
  qn (m 0 2) fun z1 =>
  qf_X0_hitsAhead_10 qfu x1 (0 : Int32) z1 (1 : Int32) m
noncomputable def qf_X0_misses (m : wm) : Option Int32 :=
  qn (m 2 2) fun z1 =>
  qn (m 2 3) fun z2 =>
  qn (z1 + z2) fun z3 =>
  some z3
noncomputable def qf_X1_add (x1 : Int32) (m : wm) : Option wm :=
  qn (m 2 1) fun z1 =>
  qg (vp_in z1 120) <|
  qn (qw_u2 m 3 z1.toNatClampNeg x1) fun m3 =>
  qn (m3 2 1) fun z4 =>
  qn (z4 + (1 : Int32)) fun z5 =>
  qn (qw_u2 m3 2 1 z5) fun m6 =>
  some m6
noncomputable def qf_X1_isAtEnd (m : wm) : Option Int32 :=
  qn (m 2 2) fun z1 =>
  qn (m 2 1) fun z2 =>
  if z1 < z2 then
    some (0 : Int32)
  else
    some (1 : Int32)
noncomputable def qf_X1_sign (m : wm) : Option Int32 :=
  qn (m 2 2) fun z1 =>
  qn (m 2 1) fun z2 =>
  if z2 ≤ z1 then
    some (0 : Int32)
  else
    qn (m 2 2) fun z4 =>
    qg (vp_in z4 120) <|
    qn (m 3 z4.toNatClampNeg) fun z5 =>
    some z5
noncomputable def qf_X1_skipSpaces_0 : Nat → wm → Option wm
  | 0, _ => none
  | n + 1, m =>
  qn (m 2 2) fun z1 =>
  qn (m 2 1) fun z2 =>
  if z2 ≤ z1 then
    some m
  else
    qn (m 2 2) fun z4 =>
    qg (vp_in z4 120) <|
    qn (m 3 z4.toNatClampNeg) fun z5 =>
    if z5 = (32 : Int32) then
      qn (m 2 2) fun z8 =>
      qn (z8 + (1 : Int32)) fun z9 =>
      qn (qw_u2 m 2 2 z9) fun m10 =>
      qf_X1_skipSpaces_0 n m10
    else
      some m
noncomputable def qf_X1_skipSpaces (m : wm) : Option wm :=
  qn (m 2 2) fun z1 =>
  qn (m 2 1) fun z2 =>
  if z2 ≤ z1 then
    some m
  else
    qn (m 2 2) fun z4 =>
    qg (vp_in z4 120) <|
    qn (m 3 z4.toNatClampNeg) fun z5 =>
    if z5 = (32 : Int32) then
      qn (m 2 2) fun z8 =>
      qn (z8 + (1 : Int32)) fun z9 =>
      qn (qw_u2 m 2 2 z9) fun m10 =>
      qf_X1_skipSpaces_0 qfu m10
    else
      some m
noncomputable def qf_X1_readSign (x1 : Int32) (m : wm) : Option (Int32 × wm) :=
  qb1 (qf_X1_skipSpaces m) fun m2 =>
  qb1 (qf_X1_sign m2) fun r3 =>
  if r3 = x1 then
    qn (m2 2 2) fun z6 =>
    qn (z6 + (1 : Int32)) fun z7 =>
    qn (qw_u2 m2 2 2 z7) fun m8 =>
    some ((1 : Int32), m8)
  else
    some ((0 : Int32), m2)
noncomputable def qf_X1_isDigit (x0 : Int32) : Option Int32 :=
  if x0 < (48 : Int32) then
    some (0 : Int32)
  else
    if (57 : Int32) < x0 then
      some (0 : Int32)
    else
      some (1 : Int32)
noncomputable def qf_X1_readNumber_116 (x1 : Int32) (x2 : Int32) (y0 : Int32) (m : wm) : Option (Int32 × wm) :=
  if y0 = 0 then
    qn (qw_u2 m 2 2 x1) fun m2 =>
    some ((-1 : Int32), m2)
  else
    some (x2, m)
noncomputable def qf_X1_readNumber_111 (x1 : Int32) (x2 : Int32) (m : wm) : Option (Int32 × wm) :=
  qf_X1_readNumber_116 x1 x2 (1 : Int32) m
noncomputable def qf_X1_readNumber_115 (x1 : Int32) (x2 : Int32) (m : wm) : Option (Int32 × wm) :=
  qf_X1_readNumber_116 x1 x2 (0 : Int32) m
noncomputable def qf_X1_readNumber_78 (x1 : Int32) (x2 : Int32) (m : wm) : Option (Int32 × wm) :=
  qn (m 2 2) fun z1 =>
  qn (z1 - x1) fun z2 =>
  if z2 = (1 : Int32) then
    qf_X1_readNumber_111 x1 x2 m
  else
    if z2 ≤ (1 : Int32) then
      qf_X1_readNumber_115 x1 x2 m
    else
      if (3 : Int32) < z2 then
        qf_X1_readNumber_115 x1 x2 m
      else
        qg (vp_in x1 120) <|
        qn (m 3 x1.toNatClampNeg) fun z6 =>
        if z6 = (48 : Int32) then
          qf_X1_readNumber_115 x1 x2 m
        else
          qf_X1_readNumber_111 x1 x2 m
noncomputable def qf_X1_readNumber_11 : Nat → Int32 → Int32 → wm → Option (Int32 × wm)
  | 0, _, _, _ => none
  | n + 1, x1, x2, m =>
  qn (m 2 2) fun z1 =>
  qn (m 2 1) fun z2 =>
  if z2 ≤ z1 then
    qf_X1_readNumber_78 x1 x2 m
  else
    qn (m 2 2) fun z4 =>
    qn (z4 - x1) fun z5 =>
    if (3 : Int32) < z5 then
      qf_X1_readNumber_78 x1 x2 m
    else
      qn (m 2 2) fun z7 =>
      qg (vp_in z7 120) <|
      qn (m 3 z7.toNatClampNeg) fun z8 =>
      qb1 (qf_X1_isDigit z8) fun r10 =>
      if r10 = 0 then
        qf_X1_readNumber_78 x1 x2 m
      else
        qn ((10 : Int32) * x2) fun z13 =>
        qn (m 2 2) fun z14 =>
        qg (vp_in z14 120) <|
        qn (m 3 z14.toNatClampNeg) fun z15 =>
        qn (z13 + z15) fun z17 =>
        qn (z17 - (48 : Int32)) fun z18 =>
        qn (m 2 2) fun z19 =>
        qn (z19 + (1 : Int32)) fun z20 =>
        qn (qw_u2 m 2 2 z20) fun m21 =>
        qf_X1_readNumber_11 n x1 z18 m21
noncomputable def qf_X1_readNumber (m : wm) : Option (Int32 × wm) :=
  qb1 (qf_X1_skipSpaces m) fun m2 =>
  qn (m2 2 2) fun z3 =>
  qf_X1_readNumber_11 qfu z3 (0 : Int32) m2
noncomputable def qf_X2_dropOldest_9 : Nat → Nat → Int32 → wM → (Nat → Nat) → Option (wM × (Nat → Nat))
  | 0, _, _, _, _ => none
  | n + 1, o1, x2, M, h =>
  if (5 : Int32) ≤ x2 then
    qn (qw_hu h 4 o1) fun h2 =>
    qn (qw_u1 M 8 (qw_u2 (M 8) 0 4 (4 : Int32))) fun M3 =>
    some (M3, h2)
  else
    qn (x2 - (1 : Int32)) fun z4 =>
    qg (vp_in x2 5) <|
    qn (h x2.toNatClampNeg) fun o6 =>
    qg (o6 < 8) <|
    qg (vp_in z4 5) <|
    qn (qw_hu h z4.toNatClampNeg o6) fun h9 =>
    qn (x2 + 1) fun z10 =>
    qf_X2_dropOldest_9 n o1 z10 M h9
noncomputable def qf_X2_dropOldest (M : wM) (h : (Nat → Nat)) : Option (wM × (Nat → Nat)) :=
  qn (h 0) fun o1 =>
  qg (o1 < 8) <|
  qf_X2_dropOldest_9 qfu o1 (1 : Int32) M h
noncomputable def qf_X2_record_12 (o : Nat) (M : wM) (h : (Nat → Nat)) : Option (wM × (Nat → Nat)) :=
  qn (M 8 0 4) fun z1 =>
  qg (vp_in z1 5) <|
  qn (h z1.toNatClampNeg) fun o3 =>
  qg (o3 < 8) <|
  qg (o ≠ o3) <|
  qg (o < 8) <|
  qb1 (qf_X0_copyFrom (M o) (M o3)) fun m8 =>
  qn (qw_u1 M o3 m8) fun M9 =>
  qn (M9 8 0 4) fun z10 =>
  qn (z10 + (1 : Int32)) fun z11 =>
  qn (qw_u1 M9 8 (qw_u2 (M9 8) 0 4 z11)) fun M12 =>
  some (M12, h)
noncomputable def qf_X2_record (o : Nat) (M : wM) (h : (Nat → Nat)) : Option (wM × (Nat → Nat)) :=
  qn (M 8 0 4) fun z1 =>
  if z1 = (5 : Int32) then
    qb2 (qf_X2_dropOldest M h) fun M4 h5 =>
    qf_X2_record_12 o M4 h5
  else
    qf_X2_record_12 o M h
noncomputable def qf_X2_takeAsAction (x1 : Int32) (x2 : Int32) (x3 : Int32) (M : wM) (h : (Nat → Nat)) : Option (Int32 × wM × (Nat → Nat)) :=
  qb1 (qf_X0_copyFrom (M 0) (M 1)) fun m2 =>
  qn (qw_u1 M 1 m2) fun M3 =>
  qb2 (qf_X0_take x1 x2 x3 (M3 0)) fun r4 m6 =>
  qn (qw_u1 M3 0 m6) fun M7 =>
  if r4 < 0 then
    some (r4, M7, h)
  else
    qb2 (qf_X2_record 1 M7 h) fun M10 h11 =>
    some (r4, M10, h11)
noncomputable def qf_X2_call (x1 : Int32) (x2 : Int32) (M : wM) (h : (Nat → Nat)) : Option (Int32 × wM × (Nat → Nat)) :=
  qb3 (qf_X2_takeAsAction (0 : Int32) x1 x2 M h) fun r1 M3 h4 =>
  some (r1, M3, h4)
noncomputable def qf_X2_tail (x1 : Int32) (M : wM) (h : (Nat → Nat)) : Option (Int32 × wM × (Nat → Nat)) :=
  qb3 (qf_X2_takeAsAction (1 : Int32) x1 (0 : Int32) M h) fun r1 M3 h4 =>
  some (r1, M3, h4)
noncomputable def qf_X2_ret (M : wM) (h : (Nat → Nat)) : Option (Int32 × wM × (Nat → Nat)) :=
  qb3 (qf_X2_takeAsAction (2 : Int32) (0 : Int32) (0 : Int32) M h) fun r1 M3 h4 =>
  some (r1, M3, h4)
noncomputable def qf_X2_raise (x1 : Int32) (M : wM) (h : (Nat → Nat)) : Option (Int32 × wM × (Nat → Nat)) :=
  qb3 (qf_X2_takeAsAction (3 : Int32) (0 : Int32) x1 M h) fun r1 M3 h4 =>
  some (r1, M3, h4)
noncomputable def qf_X2_setRepair (x1 : Int32) (M : wM) (h : (Nat → Nat)) : Option (Int32 × wM × (Nat → Nat)) :=
  if x1 < 0 then
    some ((-1 : Int32), M, h)
  else
    if x1 ≤ (1 : Int32) then
      qb2 (qf_X2_record 0 M h) fun M4 h5 =>
      qn (M4 0 0 0) fun z6 =>
      qn (qw_u1 M4 0 (qw_u2 (M4 0) 0 0 x1)) fun M7 =>
      some (z6, M7, h5)
    else
      some ((-1 : Int32), M, h)
noncomputable def qf_X2_isSize (x0 : Int32) : Option Int32 :=
  if x0 < (2 : Int32) then
    some (0 : Int32)
  else
    if (16 : Int32) < x0 then
      some (0 : Int32)
    else
      some (1 : Int32)
noncomputable def qf_X2_begin (x1 : Int32) (M : wM) (h : (Nat → Nat)) : Option (Int32 × wM × (Nat → Nat)) :=
  qb1 (qf_X2_isSize x1) fun r1 =>
  if r1 = 0 then
    some ((-1 : Int32), M, h)
  else
    qb2 (qf_X2_record 0 M h) fun M5 h6 =>
    qn (M5 0 0 1) fun z7 =>
    qb1 (qf_X0_beginAnew x1 (M5 0)) fun m9 =>
    qn (qw_u1 M5 0 m9) fun M10 =>
    some (z7, M10, h6)
noncomputable def qf_X2_undo (M : wM) (h : (Nat → Nat)) : Option (Int32 × wM × (Nat → Nat)) :=
  qn (M 8 0 4) fun z1 =>
  if z1 = 0 then
    some ((-2 : Int32), M, h)
  else
    qn (M 8 0 4) fun z3 =>
    qn (z3 - (1 : Int32)) fun z4 =>
    qn (qw_u1 M 8 (qw_u2 (M 8) 0 4 z4)) fun M5 =>
    qn (M5 8 0 4) fun z6 =>
    qg (vp_in z6 5) <|
    qn (h z6.toNatClampNeg) fun o8 =>
    qg (o8 < 8) <|
    qg (o8 ≠ 0) <|
    qb1 (qf_X0_copyFrom (M5 o8) (M5 0)) fun m12 =>
    qn (qw_u1 M5 0 m12) fun M13 =>
    qn (M13 8 0 4) fun z14 =>
    some (z14, M13, h)
noncomputable def qf_X2_append (x1 : Int32) (M : wM) (h : (Nat → Nat)) : Option (Int32 × wM × (Nat → Nat)) :=
  if x1 < (1 : Int32) then
    some ((-1 : Int32), M, h)
  else
    if x1 ≤ (255 : Int32) then
      qn (M 8 2 1) fun z3 =>
      if z3 = (120 : Int32) then
        some ((-3 : Int32), M, h)
      else
        qb1 (qf_X1_add x1 (M 8)) fun m6 =>
        qn (qw_u1 M 8 m6) fun M7 =>
        qn (M7 8 2 1) fun z8 =>
        some (z8, M7, h)
    else
      some ((-1 : Int32), M, h)
noncomputable def qf_X2_clearText (M : wM) (h : (Nat → Nat)) : Option (Int32 × wM × (Nat → Nat)) :=
  qn (M 8 2 1) fun z1 =>
  qn (qw_u1 M 8 (qw_u2 (M 8) 2 1 (0 : Int32))) fun M2 =>
  some (z1, M2, h)
noncomputable def qf_X2_kindOf (x0 : Int32) : Option Int32 :=
  if x0 = (99 : Int32) then
    some (0 : Int32)
  else
  if x0 = (114 : Int32) then
    some (2 : Int32)
  else
  if x0 = (116 : Int32) then
    some (1 : Int32)
  else
  if x0 = (120 : Int32) then
    some (3 : Int32)
  else
  some (-1 : Int32)
noncomputable def qf_X2_takeStepOfText_101 (x1 : Int32) (x2 : Int32) (x3 : Int32) (x4 : Int32) (M : wM) (h : (Nat → Nat)) : Option (Int32 × wM × (Nat → Nat)) :=
  if 0 ≤ x4 then
    qb2 (qf_X0_take x2 x3 x4 (M 0)) fun r2 m4 =>
    qn (qw_u1 M 0 m4) fun M5 =>
    if 0 ≤ r2 then
      some ((1 : Int32), M5, h)
    else
      qn (qw_u1 M5 8 (qw_u2 (M5 8) 2 2 x1)) fun M7 =>
      some ((0 : Int32), M7, h)
  else
    some ((0 : Int32), M, h)
noncomputable def qf_X2_takeStepOfText_92 (x1 : Int32) (x2 : Int32) (x3 : Int32) (M : wM) (h : (Nat → Nat)) : Option (Int32 × wM × (Nat → Nat)) :=
  qb2 (qf_X1_readNumber (M 8)) fun r1 m3 =>
  qn (qw_u1 M 8 m3) fun M4 =>
  qf_X2_takeStepOfText_101 x1 x2 x3 r1 M4 h
noncomputable def qf_X2_takeStepOfText_83 (x1 : Int32) (x2 : Int32) (x3 : Int32) (x4 : Int32) (M : wM) (h : (Nat → Nat)) : Option (Int32 × wM × (Nat → Nat)) :=
  if x2 = 0 then
    qf_X2_takeStepOfText_92 x1 x2 x3 M h
  else
    if x2 = (3 : Int32) then
      qf_X2_takeStepOfText_92 x1 x2 x3 M h
    else
      qf_X2_takeStepOfText_101 x1 x2 x3 x4 M h
noncomputable def qf_X2_takeStepOfText_61 (x1 : Int32) (x2 : Int32) (x3 : Int32) (x4 : Int32) (M : wM) (h : (Nat → Nat)) : Option (Int32 × wM × (Nat → Nat)) :=
  if x3 < 0 then
    some ((0 : Int32), M, h)
  else
    if x2 = 0 then
      qb2 (qf_X1_readSign (64 : Int32) (M 8)) fun r3 m5 =>
      qn (qw_u1 M 8 m5) fun M6 =>
      if r3 = 0 then
        some ((0 : Int32), M6, h)
      else
        qf_X2_takeStepOfText_83 x1 x2 x3 x4 M6 h
    else
      qf_X2_takeStepOfText_83 x1 x2 x3 x4 M h
noncomputable def qf_X2_takeStepOfText_53 (x1 : Int32) (x2 : Int32) (x4 : Int32) (M : wM) (h : (Nat → Nat)) : Option (Int32 × wM × (Nat → Nat)) :=
  qb2 (qf_X1_readNumber (M 8)) fun r1 m3 =>
  qn (qw_u1 M 8 m3) fun M4 =>
  qf_X2_takeStepOfText_61 x1 x2 r1 x4 M4 h
noncomputable def qf_X2_takeStepOfText (M : wM) (h : (Nat → Nat)) : Option (Int32 × wM × (Nat → Nat)) :=
  qn (M 8 2 2) fun z1 =>
  qb1 (qf_X1_sign (M 8)) fun r2 =>
  qb1 (qf_X2_kindOf r2) fun r4 =>
  if r4 = (-1 : Int32) then
    some ((0 : Int32), M, h)
  else
    qn (M 8 2 2) fun z7 =>
    qn (z7 + (1 : Int32)) fun z8 =>
    qn (qw_u1 M 8 (qw_u2 (M 8) 2 2 z8)) fun M9 =>
    if r4 = 0 then
      qf_X2_takeStepOfText_53 z1 r4 (0 : Int32) M9 h
    else
      if r4 = (1 : Int32) then
        qf_X2_takeStepOfText_53 z1 r4 (0 : Int32) M9 h
      else
        qf_X2_takeStepOfText_61 z1 r4 (0 : Int32) (0 : Int32) M9 h
noncomputable def qf_X2_takeStepsOfText_10 : Nat → Int32 → wM → (Nat → Nat) → Option (Int32 × wM × (Nat → Nat))
  | 0, _, _, _ => none
  | n + 1, x1, M, h =>
  if (120 : Int32) < x1 then
    some ((-1 : Int32), M, h)
  else
    qb1 (qf_X1_skipSpaces (M 8)) fun m3 =>
    qn (qw_u1 M 8 m3) fun M4 =>
    qb1 (qf_X1_isAtEnd (M4 8)) fun r5 =>
    if r5 = 0 then
      qb3 (qf_X2_takeStepOfText M4 h) fun r8 M10 h11 =>
      if r8 = 0 then
        some ((-1 : Int32), M10, h11)
      else
        qn (x1 + 1) fun z13 =>
        qf_X2_takeStepsOfText_10 n z13 M10 h11
    else
      some (x1, M4, h)
noncomputable def qf_X2_takeStepsOfText (M : wM) (h : (Nat → Nat)) : Option (Int32 × wM × (Nat → Nat)) :=
  qn (qw_u1 M 8 (qw_u2 (M 8) 2 2 (0 : Int32))) fun M1 =>
  qf_X2_takeStepsOfText_10 qfu (0 : Int32) M1 h
noncomputable def qf_X2_run (M : wM) (h : (Nat → Nat)) : Option (Int32 × wM × (Nat → Nat)) :=
  qb1 (qf_X0_copyFrom (M 0) (M 1)) fun m2 =>
  qn (qw_u1 M 1 m2) fun M3 =>
  qb3 (qf_X2_takeStepsOfText M3 h) fun r4 M6 h7 =>
  if 0 ≤ r4 then
    qb2 (qf_X2_record 1 M6 h7) fun M10 h11 =>
    qn (qw_u1 M10 8 (qw_u2 (M10 8) 2 1 (0 : Int32))) fun M12 =>
    some (r4, M12, h11)
  else
    qb1 (qf_X0_copyFrom (M6 1) (M6 0)) fun m14 =>
    qn (qw_u1 M6 0 m14) fun M15 =>
    qn (M15 8 2 2) fun z16 =>
    qn ((-1000 : Int32) - z16) fun z17 =>
    some (z17, M15, h7)
noncomputable def qf_X2_count (x1 : Int32) (M : wM) (h : (Nat → Nat)) : Option Int32 :=
  if x1 = (0 : Int32) then
    qn (M 0 0 3) fun z2 =>
    some z2
  else
  if x1 = (1 : Int32) then
    qn (M 0 0 5) fun z4 =>
    some z4
  else
  if x1 = (2 : Int32) then
    qn (M 0 1 0) fun z6 =>
    some z6
  else
  if x1 = (3 : Int32) then
    qn (M 0 1 1) fun z8 =>
    some z8
  else
  if x1 = (4 : Int32) then
    qn (M 0 1 2) fun z10 =>
    some z10
  else
  if x1 = (5 : Int32) then
    qn (M 0 1 3) fun z12 =>
    some z12
  else
  if x1 = (6 : Int32) then
    qn (M 0 2 0) fun z14 =>
    qn (M 0 2 1) fun z15 =>
    qn (z14 + z15) fun z16 =>
    some z16
  else
  if x1 = (7 : Int32) then
    qn (M 0 2 1) fun z18 =>
    some z18
  else
  if x1 = (8 : Int32) then
    qn (M 0 2 2) fun z20 =>
    some z20
  else
  if x1 = (9 : Int32) then
    qn (M 0 2 3) fun z22 =>
    some z22
  else
  if x1 = (10 : Int32) then
    qn (M 0 0 6) fun z24 =>
    some z24
  else
  if x1 = (11 : Int32) then
    qn (M 0 0 1) fun z26 =>
    some z26
  else
  if x1 = (12 : Int32) then
    qn (M 0 0 2) fun z28 =>
    some z28
  else
  if x1 = (13 : Int32) then
    qn (M 0 0 4) fun z30 =>
    some z30
  else
  if x1 = (14 : Int32) then
    qn (M 0 0 0) fun z32 =>
    some z32
  else
  if x1 = (15 : Int32) then
    qn (M 8 0 4) fun z34 =>
    some z34
  else
  if x1 = (16 : Int32) then
    qn (M 8 2 1) fun z36 =>
    some z36
  else
  if x1 = (17 : Int32) then
    qb1 (qf_X0_overrunFrames (M 0)) fun r38 =>
    some r38
  else
  some (-1 : Int32)
noncomputable def qf_X2_frame (x1 : Int32) (x2 : Int32) (M : wM) (h : (Nat → Nat)) : Option Int32 :=
  if x1 < 0 then
    some (-1 : Int32)
  else
    qn (M 0 0 3) fun z2 =>
    if z2 ≤ x1 then
      some (-1 : Int32)
    else
      if x2 < 0 then
        some (-1 : Int32)
      else
        if x2 < (5 : Int32) then
          qg (vp_in x2 5) <|
          qn (M 0 0 3) fun z7 =>
          qn (z7 - (1 : Int32)) fun z8 =>
          qn (z8 - x1) fun z9 =>
          qg (vp_in z9 40) <|
          qn (M 0 (8 + x2.toNatClampNeg) z9.toNatClampNeg) fun z10 =>
          some z10
        else
          some (-1 : Int32)
noncomputable def qf_X2_slot (x1 : Int32) (x2 : Int32) (M : wM) (h : (Nat → Nat)) : Option Int32 :=
  if x1 < 0 then
    some (-1 : Int32)
  else
    qn (M 0 0 1) fun z2 =>
    if z2 ≤ x1 then
      some (-1 : Int32)
    else
      if x2 < 0 then
        some (-1 : Int32)
      else
        if x2 < (3 : Int32) then
          qg (vp_in x2 3) <|
          qg (vp_in x1 16) <|
          qn (M 0 (13 + x2.toNatClampNeg) x1.toNatClampNeg) fun z7 =>
          some z7
        else
          some (-1 : Int32)
noncomputable def qf_X2_confession (x1 : Int32) (x2 : Int32) (M : wM) (h : (Nat → Nat)) : Option Int32 :=
  if x1 < 0 then
    some (-1 : Int32)
  else
    if x2 < 0 then
      some (-1 : Int32)
    else
      if x2 < (6 : Int32) then
        qn (M 0 0 6) fun z4 =>
        if x1 < z4 then
          qg (vp_in x2 6) <|
          qg (vp_in x1 12) <|
          qn (M 0 (19 + x2.toNatClampNeg) x1.toNatClampNeg) fun z7 =>
          some z7
        else
          some (-9 : Int32)
      else
        some (-1 : Int32)
noncomputable def qf_X2_named (x1 : Int32) (M : wM) (h : (Nat → Nat)) : Option Int32 :=
  if x1 < 0 then
    some (-1 : Int32)
  else
    qn (M 0 1 0) fun z2 =>
    if x1 < z2 then
      qg (vp_in x1 200) <|
      qn (M 0 3 x1.toNatClampNeg) fun z4 =>
      some z4
    else
      some (-1 : Int32)
noncomputable def qf_X2_worst_7 : Nat → Int32 → Int32 → Int32 → wM → (Nat → Nat) → Option Int32
  | 0, _, _, _, _, _ => none
  | n + 1, x1, x2, x3, M, h =>
  qn (M 0 1 0) fun z1 =>
  if z1 ≤ x3 then
    some x1
  else
    qg (vp_in x3 200) <|
    qn (M 0 3 x3.toNatClampNeg) fun z3 =>
    if z3 ≤ x2 then
      qn (x3 + 1) fun z6 =>
      qf_X2_worst_7 n x1 x2 z6 M h
    else
      qg (vp_in x3 200) <|
      qn (M 0 3 x3.toNatClampNeg) fun z7 =>
      qn (x3 + 1) fun z9 =>
      qf_X2_worst_7 n x3 z7 z9 M h
noncomputable def qf_X2_worst (M : wM) (h : (Nat → Nat)) : Option Int32 :=
  qf_X2_worst_7 qfu (-9 : Int32) (0 : Int32) (0 : Int32) M h
noncomputable def qf_X2_ahead (x1 : Int32) (x2 : Int32) (M : wM) (h : (Nat → Nat)) : Option Int32 :=
  if x1 < (1 : Int32) then
    some (-1 : Int32)
  else
    if (40 : Int32) < x1 then
      some (-1 : Int32)
    else
      if x2 < 0 then
        some (-1 : Int32)
      else
        if x2 ≤ (1 : Int32) then
          qn (M 0 0 3) fun z5 =>
          if x1 ≤ z5 then
            qb1 (qf_X0_hitsAhead x1 (M 0)) fun r7 =>
            if x2 = 0 then
              some r7
            else
              qn (x1 - r7) fun z10 =>
              some z10
          else
            some (-2 : Int32)
        else
          some (-1 : Int32)
noncomputable def qf_X2_missesInTrial_24 : Nat → Int32 → wM → (Nat → Nat) → Option (Int32 × wM × (Nat → Nat))
  | 0, _, _, _ => none
  | n + 1, x2, M, h =>
  qn (M 0 0 5) fun z1 =>
  if z1 ≤ x2 then
    qb1 (qf_X0_misses (M 2)) fun r3 =>
    some (r3, M, h)
  else
    qg (vp_in x2 200) <|
    qn (M 0 16 x2.toNatClampNeg) fun z5 =>
    qg (vp_in x2 200) <|
    qn (M 0 17 x2.toNatClampNeg) fun z7 =>
    qg (vp_in x2 200) <|
    qn (M 0 18 x2.toNatClampNeg) fun z9 =>
    qb2 (qf_X0_take z5 z7 z9 (M 2)) fun r11 m13 =>
    qn (qw_u1 M 2 m13) fun M14 =>
    qn (x2 + 1) fun z15 =>
    qf_X2_missesInTrial_24 n z15 M14 h
noncomputable def qf_X2_missesInTrial (x1 : Int32) (M : wM) (h : (Nat → Nat)) : Option (Int32 × wM × (Nat → Nat)) :=
  qn (M 0 0 0) fun z1 =>
  qn (qw_u1 M 2 (qw_u2 (M 2) 0 0 z1)) fun M2 =>
  qb1 (qf_X0_beginAnew x1 (M2 2)) fun m4 =>
  qn (qw_u1 M2 2 m4) fun M5 =>
  qf_X2_missesInTrial_24 qfu (0 : Int32) M5 h
noncomputable def qf_X2_missesWith (x1 : Int32) (M : wM) (h : (Nat → Nat)) : Option (Int32 × wM × (Nat → Nat)) :=
  qb1 (qf_X2_isSize x1) fun r1 =>
  if r1 = 0 then
    some ((-1 : Int32), M, h)
  else
    qb3 (qf_X2_missesInTrial x1 M h) fun r4 M6 h7 =>
    some (r4, M6, h7)
noncomputable def qf_X2_bestSize_10 : Nat → Int32 → Int32 → Int32 → wM → (Nat → Nat) → Option (Int32 × wM × (Nat → Nat))
  | 0, _, _, _, _, _ => none
  | n + 1, x1, x2, x3, M, h =>
  if (16 : Int32) < x3 then
    some (x1, M, h)
  else
    qb3 (qf_X2_missesInTrial x3 M h) fun r2 M4 h5 =>
    if x2 ≤ r2 then
      qn (x3 + 1) fun z7 =>
      qf_X2_bestSize_10 n x1 x2 z7 M4 h5
    else
      qn (x3 + 1) fun z8 =>
      qf_X2_bestSize_10 n x3 r2 z8 M4 h5
noncomputable def qf_X2_bestSize (M : wM) (h : (Nat → Nat)) : Option (Int32 × wM × (Nat → Nat)) :=
  qb3 (qf_X2_missesInTrial (2 : Int32) M h) fun r1 M3 h4 =>
  qf_X2_bestSize_10 qfu (2 : Int32) r1 (3 : Int32) M3 h4
noncomputable def qf_X2_callsUntil (x1 : Int32) (M : wM) (h : (Nat → Nat)) : Option Int32 :=
  if x1 < 0 then
    some (-1 : Int32)
  else
    qn (M 0 0 3) fun z2 =>
    if x1 < z2 then
      qn (M 0 0 3) fun z4 =>
      qn (z4 - (1 : Int32)) fun z5 =>
      qn (z5 - x1) fun z6 =>
      qb1 (qf_X0_isOverrun z6 (M 0)) fun r7 =>
      if r7 = 0 then
        qg (vp_in z6 40) <|
        qn (M 0 11 z6.toNatClampNeg) fun z10 =>
        qn (M 0 0 2) fun z12 =>
        qn (z10 - z12) fun z13 =>
        if z13 ≤ 0 then
          qn (M 0 0 1) fun z15 =>
          qn (z13 + z15) fun z16 =>
          some z16
        else
          some z13
      else
        some (0 : Int32)
    else
      some (-1 : Int32)
noncomputable def qf_X3_in (x0 : Int32) (x1 : Int32) (x2 : Int32) : Option Int32 :=
  if x0 < x1 then
    some (0 : Int32)
  else
    if x2 < x0 then
      some (0 : Int32)
    else
      some (1 : Int32)
noncomputable def qf_X3_acts_59 : Nat → Int32 → wm → Option wm
  | 0, _, _ => none
  | n + 1, x1, m =>
  if (935 : Int32) ≤ x1 then
    qn (m 0 3) fun z2 =>
    qn (z2 + (1 : Int32)) fun z3 =>
    qn (qw_u2 m 0 3 z3) fun m4 =>
    some m4
  else
    qn (m 0 3) fun z5 =>
    qn ((935 : Int32) * z5) fun z6 =>
    qn (z6 + x1) fun z7 =>
    qg (vp_in x1 935) <|
    qn (m 1 x1.toNatClampNeg) fun z8 =>
    qg (vp_in z7 4675) <|
    qn (qw_u2 m 2 z7.toNatClampNeg z8) fun m11 =>
    qn (x1 + 1) fun z12 =>
    qf_X3_acts_59 n z12 m11
noncomputable def qf_X3_acts_57 (m : wm) : Option wm :=
  qf_X3_acts_59 qfu (0 : Int32) m
noncomputable def qf_X3_acts_18 : Nat → Int32 → wm → Option wm
  | 0, _, _ => none
  | n + 1, x1, m =>
  if (3740 : Int32) ≤ x1 then
    qn (m 0 3) fun z2 =>
    qn (z2 - (1 : Int32)) fun z3 =>
    qn (qw_u2 m 0 3 z3) fun m4 =>
    qf_X3_acts_57 m4
  else
    qn (x1 + (935 : Int32)) fun z5 =>
    qg (vp_in z5 4675) <|
    qn (m 2 z5.toNatClampNeg) fun z6 =>
    qg (vp_in x1 4675) <|
    qn (qw_u2 m 2 x1.toNatClampNeg z6) fun m9 =>
    qn (x1 + 1) fun z10 =>
    qf_X3_acts_18 n z10 m9
noncomputable def qf_X3_acts (m : wm) : Option wm :=
  qn (m 0 4) fun z1 =>
  if z1 = 0 then
    qn (m 0 3) fun z3 =>
    if z3 = (5 : Int32) then
      qf_X3_acts_18 qfu (0 : Int32) m
    else
      qf_X3_acts_57 m
  else
    some m
noncomputable def qf_X3_begins_58 : Nat → Int32 → wm → Option wm
  | 0, _, _ => none
  | n + 1, x3, m =>
  if (16 : Int32) ≤ x3 then
    some m
  else
    qn ((3 : Int32) * x3) fun z2 =>
    qn ((215 : Int32) + z2) fun z3 =>
    qn (z3 + (0 : Int32)) fun z4 =>
    qg (vp_in z4 935) <|
    qn (qw_u2 m 1 z4.toNatClampNeg (-9 : Int32)) fun m6 =>
    qn ((3 : Int32) * x3) fun z7 =>
    qn ((215 : Int32) + z7) fun z8 =>
    qn (z8 + (1 : Int32)) fun z9 =>
    qg (vp_in z9 935) <|
    qn (qw_u2 m6 1 z9.toNatClampNeg (-9 : Int32)) fun m11 =>
    qn (x3 + 1) fun z12 =>
    qf_X3_begins_58 n z12 m11
noncomputable def qf_X3_begins_10 : Nat → Int32 → Int32 → Int32 → wm → Option wm
  | 0, _, _, _, _ => none
  | n + 1, x1, x2, x3, m =>
  if (935 : Int32) ≤ x3 then
    qn (qw_u2 m 1 14 x2) fun m2 =>
    qn (qw_u2 m2 1 11 x1) fun m3 =>
    qn (x1 - (1 : Int32)) fun z4 =>
    qn (qw_u2 m3 1 12 z4) fun m5 =>
    qf_X3_begins_58 qfu (0 : Int32) m5
  else
    qg (vp_in x3 935) <|
    qn (qw_u2 m 1 x3.toNatClampNeg (0 : Int32)) fun m7 =>
    qn (x3 + 1) fun z8 =>
    qf_X3_begins_10 n x1 x2 z8 m7
noncomputable def qf_X3_begins (x1 : Int32) (m : wm) : Option wm :=
  qn (m 1 14) fun z1 =>
  qf_X3_begins_10 qfu x1 z1 (0 : Int32) m
noncomputable def qf_X3_ofFrame (x1 : Int32) (x2 : Int32) (m : wm) : Option Int32 :=
  qn ((5 : Int32) * x1) fun z1 =>
  qn ((15 : Int32) + z1) fun z2 =>
  qn (z2 + x2) fun z3 =>
  qg (vp_in z3 935) <|
  qn (m 1 z3.toNatClampNeg) fun z4 =>
  some z4
noncomputable def qf_X3_ofSlot (x1 : Int32) (x2 : Int32) (m : wm) : Option Int32 :=
  qn ((3 : Int32) * x1) fun z1 =>
  qn ((215 : Int32) + z1) fun z2 =>
  qn (z2 + x2) fun z3 =>
  qg (vp_in z3 935) <|
  qn (m 1 z3.toNatClampNeg) fun z4 =>
  some z4
noncomputable def qf_X3_notes (x1 : Int32) (x2 : Int32) (m : wm) : Option wm :=
  qn (m 1 1) fun z1 =>
  qn ((2 : Int32) * z1) fun z2 =>
  qn ((335 : Int32) + z2) fun z3 =>
  qg (vp_in z3 935) <|
  qn (qw_u2 m 1 z3.toNatClampNeg x1) fun m5 =>
  qn (m5 1 1) fun z6 =>
  qn ((2 : Int32) * z6) fun z7 =>
  qn ((335 : Int32) + z7) fun z8 =>
  qn (z8 + (1 : Int32)) fun z9 =>
  qg (vp_in z9 935) <|
  qn (qw_u2 m5 1 z9.toNatClampNeg x2) fun m11 =>
  qn (m11 1 1) fun z12 =>
  qn (z12 + (1 : Int32)) fun z13 =>
  qn (qw_u2 m11 1 1 z13) fun m14 =>
  qn ((2 : Int32) + x1) fun z15 =>
  qg (vp_in z15 935) <|
  qn (m14 1 z15.toNatClampNeg) fun z16 =>
  qn (z16 + (1 : Int32)) fun z18 =>
  qg (vp_in z15 935) <|
  qn (qw_u2 m14 1 z15.toNatClampNeg z18) fun m20 =>
  some m20
noncomputable def qf_X3_call_333 (x2 : Int32) (x3 : Int32) (y0 : Int32) (y1 : Int32) (m : wm) : Option (Int32 × wm) :=
  qg (vp_in y1 935) <|
  qn (qw_u2 m 1 y1.toNatClampNeg y0) fun m2 =>
  qn ((735 : Int32) + x3) fun z3 =>
  qg (vp_in z3 935) <|
  qn (qw_u2 m2 1 z3.toNatClampNeg (0 : Int32)) fun m5 =>
  qb1 (qf_X3_notes (0 : Int32) x2 m5) fun m7 =>
  some (x3, m7)
noncomputable def qf_X3_call_82 : Nat → Int32 → Int32 → Int32 → Int32 → Int32 → wm → Option (Int32 × wm)
  | 0, _, _, _, _, _, _ => none
  | n + 1, x1, x2, x3, x4, x5, m =>
  qn (m 1 0) fun z1 =>
  if z1 ≤ x5 then
    qn (qw_u2 m 1 12 x4) fun m3 =>
    qn ((3 : Int32) * x4) fun z4 =>
    qn ((215 : Int32) + z4) fun z5 =>
    qn (z5 + (0 : Int32)) fun z6 =>
    qg (vp_in z6 935) <|
    qn (qw_u2 m3 1 z6.toNatClampNeg x3) fun m8 =>
    qn ((3 : Int32) * x4) fun z9 =>
    qn ((215 : Int32) + z9) fun z10 =>
    qn (z10 + (1 : Int32)) fun z11 =>
    qg (vp_in z11 935) <|
    qn (qw_u2 m8 1 z11.toNatClampNeg x2) fun m13 =>
    qn ((3 : Int32) * x4) fun z14 =>
    qn ((215 : Int32) + z14) fun z15 =>
    qn (z15 + (2 : Int32)) fun z16 =>
    qg (vp_in z16 935) <|
    qn (m13 1 z16.toNatClampNeg) fun z17 =>
    qn (z17 + (1 : Int32)) fun z19 =>
    qg (vp_in z16 935) <|
    qn (qw_u2 m13 1 z16.toNatClampNeg z19) fun m21 =>
    qn (m21 1 0) fun z22 =>
    qn ((5 : Int32) * z22) fun z23 =>
    qn ((15 : Int32) + z23) fun z24 =>
    qn (z24 + (0 : Int32)) fun z25 =>
    qg (vp_in z25 935) <|
    qn (qw_u2 m21 1 z25.toNatClampNeg x3) fun m27 =>
    qn (z24 + (1 : Int32)) fun z28 =>
    qg (vp_in z28 935) <|
    qn (qw_u2 m27 1 z28.toNatClampNeg x1) fun m30 =>
    qn (z24 + (2 : Int32)) fun z31 =>
    qg (vp_in z31 935) <|
    qn (qw_u2 m30 1 z31.toNatClampNeg x2) fun m33 =>
    qn (z24 + (3 : Int32)) fun z34 =>
    qg (vp_in z34 935) <|
    qn (qw_u2 m33 1 z34.toNatClampNeg x4) fun m36 =>
    qn (z24 + (4 : Int32)) fun z37 =>
    qg (vp_in z37 935) <|
    qn (qw_u2 m36 1 z37.toNatClampNeg (-9 : Int32)) fun m39 =>
    qn (m39 1 0) fun z40 =>
    qn (z40 + (1 : Int32)) fun z41 =>
    qn (qw_u2 m39 1 0 z41) fun m42 =>
    qn (m42 1 0) fun z43 =>
    qn (m42 1 13) fun z44 =>
    if z43 ≤ z44 then
      qn (m42 1 13) fun z46 =>
      qf_X3_call_333 x2 x3 z46 (13 : Int32) m42
    else
      qn (m42 1 0) fun z47 =>
      qf_X3_call_333 x2 x3 z47 (13 : Int32) m42
  else
    qb1 (qf_X3_ofFrame x5 (3 : Int32) m) fun r48 =>
    if r48 = x4 then
      qb1 (qf_X3_ofFrame x5 (4 : Int32) m) fun r60 =>
      if r60 = (-9 : Int32) then
        qn ((5 : Int32) * x5) fun z72 =>
        qn ((15 : Int32) + z72) fun z73 =>
        qn (z73 + (4 : Int32)) fun z74 =>
        qg (vp_in z74 935) <|
        qn (qw_u2 m 1 z74.toNatClampNeg x3) fun m77 =>
        qn (x5 + 1) fun z78 =>
        qf_X3_call_82 n x1 x2 x3 x4 z78 m77
      else
        qn ((5 : Int32) * x5) fun z63 =>
        qn ((15 : Int32) + z63) fun z64 =>
        qn (z64 + (4 : Int32)) fun z65 =>
        qb1 (qf_X3_ofFrame x5 (4 : Int32) m) fun r67 =>
        qg (vp_in z65 935) <|
        qn (qw_u2 m 1 z65.toNatClampNeg r67) fun m70 =>
        qn (x5 + 1) fun z71 =>
        qf_X3_call_82 n x1 x2 x3 x4 z71 m70
    else
      qn ((5 : Int32) * x5) fun z51 =>
      qn ((15 : Int32) + z51) fun z52 =>
      qn (z52 + (4 : Int32)) fun z53 =>
      qb1 (qf_X3_ofFrame x5 (4 : Int32) m) fun r55 =>
      qg (vp_in z53 935) <|
      qn (qw_u2 m 1 z53.toNatClampNeg r55) fun m58 =>
      qn (x5 + 1) fun z59 =>
      qf_X3_call_82 n x1 x2 x3 x4 z59 m58
noncomputable def qf_X3_call (x1 : Int32) (x2 : Int32) (m : wm) : Option (Int32 × wm) :=
  qb1 (qf_X3_in x1 (0 : Int32) (15 : Int32)) fun r1 =>
  if r1 = 0 then
    some ((-1 : Int32), m)
  else
    qb1 (qf_X3_in x2 (0 : Int32) (999 : Int32)) fun r4 =>
    if r4 = 0 then
      some ((-1 : Int32), m)
    else
      qn (m 1 0) fun z7 =>
      if z7 = (40 : Int32) then
        some ((-3 : Int32), m)
      else
        qn (m 1 1) fun z9 =>
        if z9 = (200 : Int32) then
          some ((-3 : Int32), m)
        else
          qb1 (qf_X3_acts m) fun m12 =>
          qn (m12 1 2) fun z13 =>
          qn (m12 1 12) fun z14 =>
          qn (z14 + (1 : Int32)) fun z15 =>
          qn (m12 1 11) fun z16 =>
          qg (¬ z16 = 0) <|
          qn (z15 - z15 / z16 * z16) fun z17 =>
          qf_X3_call_82 qfu x1 x2 z13 z17 (0 : Int32) m12
noncomputable def qf_X3_tail (x1 : Int32) (m : wm) : Option (Int32 × wm) :=
  qb1 (qf_X3_in x1 (0 : Int32) (15 : Int32)) fun r1 =>
  if r1 = 0 then
    some ((-1 : Int32), m)
  else
    qn (m 1 0) fun z4 =>
    if z4 = 0 then
      some ((-2 : Int32), m)
    else
      qn (m 1 1) fun z6 =>
      if z6 = (200 : Int32) then
        some ((-3 : Int32), m)
      else
        qb1 (qf_X3_acts m) fun m9 =>
        qn (m9 1 0) fun z10 =>
        qn (z10 - (1 : Int32)) fun z11 =>
        qn ((5 : Int32) * z11) fun z12 =>
        qn ((15 : Int32) + z12) fun z13 =>
        qn (z13 + (1 : Int32)) fun z14 =>
        qg (vp_in z14 935) <|
        qn (m9 1 z14.toNatClampNeg) fun z15 =>
        qg (vp_in z14 935) <|
        qn (qw_u2 m9 1 z14.toNatClampNeg x1) fun m18 =>
        qb1 (qf_X3_notes (1 : Int32) x1 m18) fun m20 =>
        some (z15, m20)
noncomputable def qf_X3_tells_59 (x1 : Int32) (x2 : Int32) (x3 : Int32) (m : wm) : Option wm :=
  qn (m 1 10) fun z1 =>
  qn ((6 : Int32) * z1) fun z2 =>
  qn ((263 : Int32) + z2) fun z3 =>
  qg (vp_in z3 935) <|
  qn (qw_u2 m 1 z3.toNatClampNeg x1) fun m5 =>
  qn (z3 + (1 : Int32)) fun z6 =>
  qg (vp_in z6 935) <|
  qn (qw_u2 m5 1 z6.toNatClampNeg x2) fun m8 =>
  qn (z3 + (2 : Int32)) fun z9 =>
  qb1 (qf_X3_ofFrame x3 (0 : Int32) m8) fun r10 =>
  qg (vp_in z9 935) <|
  qn (qw_u2 m8 1 z9.toNatClampNeg r10) fun m13 =>
  qn (z3 + (3 : Int32)) fun z14 =>
  qn (m13 1 12) fun z15 =>
  qb1 (qf_X3_ofSlot z15 (1 : Int32) m13) fun r16 =>
  qg (vp_in z14 935) <|
  qn (qw_u2 m13 1 z14.toNatClampNeg r16) fun m19 =>
  qn (z3 + (4 : Int32)) fun z20 =>
  qb1 (qf_X3_ofFrame x3 (2 : Int32) m19) fun r21 =>
  qg (vp_in z20 935) <|
  qn (qw_u2 m19 1 z20.toNatClampNeg r21) fun m24 =>
  qn (z3 + (5 : Int32)) fun z25 =>
  qn (m24 1 1) fun z26 =>
  qg (vp_in z25 935) <|
  qn (qw_u2 m24 1 z25.toNatClampNeg z26) fun m28 =>
  qn (m28 1 10) fun z29 =>
  qn (z29 + (1 : Int32)) fun z30 =>
  qn (qw_u2 m28 1 10 z30) fun m31 =>
  if x2 = (-9 : Int32) then
    some m31
  else
    qn ((735 : Int32) + x2) fun z33 =>
    qg (vp_in z33 935) <|
    qn (m31 1 z33.toNatClampNeg) fun z34 =>
    qn (z34 + (1 : Int32)) fun z36 =>
    qg (vp_in z33 935) <|
    qn (qw_u2 m31 1 z33.toNatClampNeg z36) fun m38 =>
    some m38
noncomputable def qf_X3_tells_17 : Nat → Int32 → Int32 → Int32 → Int32 → wm → Option wm
  | 0, _, _, _, _, _ => none
  | n + 1, x1, x2, x3, x4, m =>
  if (329 : Int32) ≤ x4 then
    qn (m 1 10) fun z2 =>
    qn (z2 - (1 : Int32)) fun z3 =>
    qn (qw_u2 m 1 10 z3) fun m4 =>
    qf_X3_tells_59 x1 x2 x3 m4
  else
    qn (x4 + (6 : Int32)) fun z5 =>
    qg (vp_in z5 935) <|
    qn (m 1 z5.toNatClampNeg) fun z6 =>
    qg (vp_in x4 935) <|
    qn (qw_u2 m 1 x4.toNatClampNeg z6) fun m9 =>
    qn (x4 + 1) fun z10 =>
    qf_X3_tells_17 n x1 x2 x3 z10 m9
noncomputable def qf_X3_tells (x1 : Int32) (x2 : Int32) (x3 : Int32) (m : wm) : Option wm :=
  qn (m 1 10) fun z1 =>
  if z1 = (12 : Int32) then
    qf_X3_tells_17 qfu x1 x2 x3 (263 : Int32) m
  else
    qf_X3_tells_59 x1 x2 x3 m
noncomputable def qf_X3_returns_85 (x2 : Int32) (y0 : Int32) (y1 : Int32) (y2 : Int32) (m : wm) : Option (Int32 × wm) :=
  qn (y1 + y0) fun z1 =>
  qg (vp_in y2 935) <|
  qn (qw_u2 m 1 y2.toNatClampNeg z1) fun m3 =>
  if x2 = 0 then
    some ((0 : Int32), m3)
  else
    some ((1 : Int32), m3)
noncomputable def qf_X3_returns_56 (y0 : Int32) (m : wm) : Option (Int32 × wm) :=
  qn (m 1 6) fun z1 =>
  qn (z1 + (1 : Int32)) fun z2 =>
  qn (qw_u2 m 1 6 z2) fun m3 =>
  qn (m3 1 7) fun z4 =>
  if y0 = 0 then
    qf_X3_returns_85 y0 (0 : Int32) z4 (7 : Int32) m3
  else
    qf_X3_returns_85 y0 (1 : Int32) z4 (7 : Int32) m3
noncomputable def qf_X3_returns (m : wm) : Option (Int32 × wm) :=
  qn (m 1 0) fun z1 =>
  qn (z1 - (1 : Int32)) fun z2 =>
  qn (m 1 12) fun z3 =>
  qb1 (qf_X3_ofSlot z3 (1 : Int32) m) fun r4 =>
  qb1 (qf_X3_ofFrame z2 (2 : Int32) m) fun r6 =>
  if r4 = r6 then
    qn (m 1 12) fun z27 =>
    qb1 (qf_X3_ofSlot z27 (0 : Int32) m) fun r28 =>
    qb1 (qf_X3_ofFrame z2 (0 : Int32) m) fun r30 =>
    if r28 = r30 then
      qf_X3_returns_56 (0 : Int32) m
    else
      qf_X3_returns_56 (1 : Int32) m
  else
    qb1 (qf_X3_ofFrame z2 (4 : Int32) m) fun r9 =>
    if r9 = (-9 : Int32) then
      qn (m 1 9) fun z12 =>
      qn (z12 + (1 : Int32)) fun z13 =>
      qn (qw_u2 m 1 9 z13) fun m14 =>
      qn (m14 1 12) fun z15 =>
      qb1 (qf_X3_ofSlot z15 (0 : Int32) m14) fun r16 =>
      qb1 (qf_X3_tells (2 : Int32) r16 z2 m14) fun m19 =>
      some ((3 : Int32), m19)
    else
      qn (m 1 8) fun z20 =>
      qn (z20 + (1 : Int32)) fun z21 =>
      qn (qw_u2 m 1 8 z21) fun m22 =>
      qb1 (qf_X3_ofFrame z2 (4 : Int32) m22) fun r23 =>
      qb1 (qf_X3_tells (1 : Int32) r23 z2 m22) fun m26 =>
      some ((2 : Int32), m26)
noncomputable def qf_X3_back (x0 : Int32) (x1 : Int32) (x2 : Int32) : Option Int32 :=
  qn (x2 * (40 : Int32)) fun z1 =>
  qn (x0 + z1) fun z2 =>
  qn (z2 - x1) fun z3 =>
  qg (¬ x2 = 0) <|
  qn (z3 - z3 / x2 * x2) fun z4 =>
  some z4
noncomputable def qf_X3_ret (m : wm) : Option (Int32 × wm) :=
  qn (m 1 0) fun z1 =>
  if z1 = 0 then
    some ((-2 : Int32), m)
  else
    qn (m 1 1) fun z3 =>
    if z3 = (200 : Int32) then
      some ((-3 : Int32), m)
    else
      qb1 (qf_X3_acts m) fun m6 =>
      qb2 (qf_X3_returns m6) fun r7 m9 =>
      qn (m9 1 0) fun z10 =>
      qn (z10 - (1 : Int32)) fun z11 =>
      qn (qw_u2 m9 1 0 z11) fun m12 =>
      qn (m12 1 12) fun z13 =>
      qn (m12 1 11) fun z14 =>
      qb1 (qf_X3_back z13 (1 : Int32) z14) fun r15 =>
      qn (qw_u2 m12 1 12 r15) fun m17 =>
      qb1 (qf_X3_notes (2 : Int32) (0 : Int32) m17) fun m19 =>
      some (r7, m19)
noncomputable def qf_X3_raise_99 (x1 : Int32) (y0 : Int32) (y1 : Int32) (m : wm) : Option (Int32 × wm) :=
  qg (vp_in y1 935) <|
  qn (qw_u2 m 1 y1.toNatClampNeg y0) fun m2 =>
  qb1 (qf_X3_notes (3 : Int32) x1 m2) fun m4 =>
  qn (m4 1 0) fun z5 =>
  some (z5, m4)
noncomputable def qf_X3_raise (x1 : Int32) (m : wm) : Option (Int32 × wm) :=
  qb1 (qf_X3_in x1 (1 : Int32) (40 : Int32)) fun r1 =>
  if r1 = 0 then
    some ((-1 : Int32), m)
  else
    qn (m 1 0) fun z4 =>
    if x1 ≤ z4 then
      qn (m 1 1) fun z6 =>
      if z6 = (200 : Int32) then
        some ((-3 : Int32), m)
      else
        qb1 (qf_X3_acts m) fun m9 =>
        qn (m9 1 0) fun z10 =>
        qn (z10 - x1) fun z11 =>
        qn (qw_u2 m9 1 0 z11) fun m12 =>
        qn (m12 1 14) fun z13 =>
        if z13 = (1 : Int32) then
          qn (m12 1 12) fun z16 =>
          qn (m12 1 11) fun z17 =>
          qb1 (qf_X3_back z16 x1 z17) fun r18 =>
          qf_X3_raise_99 x1 r18 (12 : Int32) m12
        else
          qn (m12 1 12) fun z15 =>
          qf_X3_raise_99 x1 z15 (12 : Int32) m12
    else
      some ((-2 : Int32), m)
noncomputable def qf_X3_setRepair (x1 : Int32) (m : wm) : Option (Int32 × wm) :=
  qb1 (qf_X3_in x1 (0 : Int32) (1 : Int32)) fun r1 =>
  if r1 = 0 then
    some ((-1 : Int32), m)
  else
    qb1 (qf_X3_acts m) fun m5 =>
    qn (m5 1 14) fun z6 =>
    qn (qw_u2 m5 1 14 x1) fun m7 =>
    some (z6, m7)
noncomputable def qf_X3_begin (x1 : Int32) (m : wm) : Option (Int32 × wm) :=
  qb1 (qf_X3_in x1 (2 : Int32) (16 : Int32)) fun r1 =>
  if r1 = 0 then
    some ((-1 : Int32), m)
  else
    qb1 (qf_X3_acts m) fun m5 =>
    qn (m5 1 11) fun z6 =>
    qb1 (qf_X3_begins x1 m5) fun m8 =>
    some (z6, m8)
noncomputable def qf_X3_undo_22 : Nat → Int32 → wm → Option (Int32 × wm)
  | 0, _, _ => none
  | n + 1, x1, m =>
  if (935 : Int32) ≤ x1 then
    qn (m 0 3) fun z2 =>
    some (z2, m)
  else
    qn (m 0 3) fun z3 =>
    qn ((935 : Int32) * z3) fun z4 =>
    qn (z4 + x1) fun z5 =>
    qg (vp_in z5 4675) <|
    qn (m 2 z5.toNatClampNeg) fun z6 =>
    qg (vp_in x1 935) <|
    qn (qw_u2 m 1 x1.toNatClampNeg z6) fun m9 =>
    qn (x1 + 1) fun z10 =>
    qf_X3_undo_22 n z10 m9
noncomputable def qf_X3_undo (m : wm) : Option (Int32 × wm) :=
  qn (m 0 3) fun z1 =>
  if z1 = 0 then
    some ((-2 : Int32), m)
  else
    qn (m 0 3) fun z3 =>
    qn (z3 - (1 : Int32)) fun z4 =>
    qn (qw_u2 m 0 3 z4) fun m5 =>
    qf_X3_undo_22 qfu (0 : Int32) m5
noncomputable def qf_X3_append (x1 : Int32) (m : wm) : Option (Int32 × wm) :=
  qb1 (qf_X3_in x1 (1 : Int32) (255 : Int32)) fun r1 =>
  if r1 = 0 then
    some ((-1 : Int32), m)
  else
    qn (m 0 6) fun z4 =>
    if z4 = (120 : Int32) then
      some ((-3 : Int32), m)
    else
      qn (m 0 6) fun z6 =>
      qg (vp_in z6 120) <|
      qn (qw_u2 m 4 z6.toNatClampNeg x1) fun m8 =>
      qn (m8 0 6) fun z9 =>
      qn (z9 + (1 : Int32)) fun z10 =>
      qn (qw_u2 m8 0 6 z10) fun m11 =>
      qn (m11 0 6) fun z12 =>
      some (z12, m11)
noncomputable def qf_X3_clearText (m : wm) : Option (Int32 × wm) :=
  qn (m 0 6) fun z1 =>
  qn (qw_u2 m 0 6 (0 : Int32)) fun m2 =>
  some (z1, m2)
noncomputable def qf_X3_skips_0 : Nat → wm → Option wm
  | 0, _ => none
  | n + 1, m =>
  qn (m 0 7) fun z1 =>
  qn (m 0 6) fun z2 =>
  if z2 ≤ z1 then
    some m
  else
    qn (m 0 7) fun z4 =>
    qg (vp_in z4 120) <|
    qn (m 4 z4.toNatClampNeg) fun z5 =>
    if z5 = (32 : Int32) then
      qn (m 0 7) fun z8 =>
      qn (z8 + (1 : Int32)) fun z9 =>
      qn (qw_u2 m 0 7 z9) fun m10 =>
      qf_X3_skips_0 n m10
    else
      some m
noncomputable def qf_X3_skips (m : wm) : Option wm :=
  qn (m 0 7) fun z1 =>
  qn (m 0 6) fun z2 =>
  if z2 ≤ z1 then
    some m
  else
    qn (m 0 7) fun z4 =>
    qg (vp_in z4 120) <|
    qn (m 4 z4.toNatClampNeg) fun z5 =>
    if z5 = (32 : Int32) then
      qn (m 0 7) fun z8 =>
      qn (z8 + (1 : Int32)) fun z9 =>
      qn (qw_u2 m 0 7 z9) fun m10 =>
      qf_X3_skips_0 qfu m10
    else
      some m
noncomputable def qf_X3_isDigit (x1 : Int32) (m : wm) : Option Int32 :=
  qn (m 0 6) fun z1 =>
  if z1 ≤ x1 then
    some (0 : Int32)
  else
    qg (vp_in x1 120) <|
    qn (m 4 x1.toNatClampNeg) fun z3 =>
    qb1 (qf_X3_in z3 (48 : Int32) (57 : Int32)) fun r5 =>
    if r5 = 0 then
      some (0 : Int32)
    else
      some (1 : Int32)
noncomputable def qf_X3_number_123 (x1 : Int32) (y0 : Int32) (m : wm) : Option (Int32 × wm) :=
  if y0 = 0 then
    qn (qw_u2 m 0 7 x1) fun m2 =>
    qg (y0 = 0 ∨ y0 = 1) <|
    some (y0, m2)
  else
    qn (m 0 7) fun z4 =>
    qn (qw_u2 m 0 7 z4) fun m5 =>
    qg (y0 = 0 ∨ y0 = 1) <|
    some (y0, m5)
noncomputable def qf_X3_number_118 (x1 : Int32) (m : wm) : Option (Int32 × wm) :=
  qf_X3_number_123 x1 (1 : Int32) m
noncomputable def qf_X3_number_122 (x1 : Int32) (m : wm) : Option (Int32 × wm) :=
  qf_X3_number_123 x1 (0 : Int32) m
noncomputable def qf_X3_number_14 : Nat → Int32 → wm → Option (Int32 × wm)
  | 0, _, _ => none
  | n + 1, x1, m =>
  qn (m 0 7) fun z1 =>
  qb1 (qf_X3_isDigit z1 m) fun r2 =>
  if r2 = 0 then
    qn (m 0 7) fun z5 =>
    if z5 ≤ x1 then
      qf_X3_number_122 x1 m
    else
      qn (m 0 7) fun z7 =>
      qn (z7 - x1) fun z8 =>
      if (4 : Int32) ≤ z8 then
        qf_X3_number_122 x1 m
      else
        qg (vp_in x1 120) <|
        qn (m 4 x1.toNatClampNeg) fun z10 =>
        if z10 = (48 : Int32) then
          qn (m 0 7) fun z13 =>
          qn (z13 - x1) fun z14 =>
          if z14 = (1 : Int32) then
            qf_X3_number_118 x1 m
          else
            qf_X3_number_122 x1 m
        else
          qf_X3_number_118 x1 m
  else
    qn (m 0 7) fun z16 =>
    qn (z16 - x1) fun z17 =>
    if (3 : Int32) ≤ z17 then
      qn (m 0 8) fun z19 =>
      qn (qw_u2 m 0 8 z19) fun m20 =>
      qn (m20 0 7) fun z21 =>
      qn (z21 + (1 : Int32)) fun z22 =>
      qn (qw_u2 m20 0 7 z22) fun m23 =>
      qf_X3_number_14 n x1 m23
    else
      qn (m 0 8) fun z24 =>
      qn ((10 : Int32) * z24) fun z25 =>
      qn (m 0 7) fun z26 =>
      qg (vp_in z26 120) <|
      qn (m 4 z26.toNatClampNeg) fun z27 =>
      qn (z25 + z27) fun z29 =>
      qn (z29 - (48 : Int32)) fun z30 =>
      qn (qw_u2 m 0 8 z30) fun m31 =>
      qn (m31 0 7) fun z32 =>
      qn (z32 + (1 : Int32)) fun z33 =>
      qn (qw_u2 m31 0 7 z33) fun m34 =>
      qf_X3_number_14 n x1 m34
noncomputable def qf_X3_number (m : wm) : Option (Int32 × wm) :=
  qb1 (qf_X3_skips m) fun m2 =>
  qn (m2 0 7) fun z3 =>
  qn (qw_u2 m2 0 8 (0 : Int32)) fun m4 =>
  qf_X3_number_14 qfu z3 m4
noncomputable def qf_X3_runsOne_186 (x1 : Int32) (y0 : Int32) (m : wm) : Option (Int32 × wm) :=
  qb1 (qf_X3_skips m) fun m2 =>
  if 0 ≤ y0 then
    some ((-9 : Int32), m2)
  else
    some (x1, m2)
noncomputable def qf_X3_runsOne_136 (x1 : Int32) (x2 : Int32) (x3 : Int32) (m : wm) : Option (Int32 × wm) :=
  if x2 = (99 : Int32) then
    qn (m 0 8) fun z13 =>
    qb2 (qf_X3_call x3 z13 m) fun r14 m16 =>
    qf_X3_runsOne_186 x1 r14 m16
  else
    if x2 = (116 : Int32) then
      qb2 (qf_X3_tail x3 m) fun r10 m12 =>
      qf_X3_runsOne_186 x1 r10 m12
    else
      if x2 = (114 : Int32) then
        qb2 (qf_X3_ret m) fun r7 m9 =>
        qf_X3_runsOne_186 x1 r7 m9
      else
        qb2 (qf_X3_raise x3 m) fun r4 m6 =>
        qf_X3_runsOne_186 x1 r4 m6
noncomputable def qf_X3_runsOne_69 (x1 : Int32) (x2 : Int32) (m : wm) : Option (Int32 × wm) :=
  qn (m 0 8) fun z1 =>
  if x2 = (99 : Int32) then
    qb1 (qf_X3_skips m) fun m4 =>
    qn (m4 0 7) fun z5 =>
    qn (m4 0 6) fun z6 =>
    if z5 = z6 then
      qn (m4 0 7) fun z8 =>
      some (z8, m4)
    else
      qn (m4 0 7) fun z9 =>
      qg (vp_in z9 120) <|
      qn (m4 4 z9.toNatClampNeg) fun z10 =>
      if z10 = (64 : Int32) then
        qn (m4 0 7) fun z13 =>
        qn (z13 + (1 : Int32)) fun z14 =>
        qn (qw_u2 m4 0 7 z14) fun m15 =>
        qb2 (qf_X3_number m15) fun r16 m18 =>
        if r16 = 0 then
          qn (m18 0 7) fun z20 =>
          some (z20, m18)
        else
          qf_X3_runsOne_136 x1 x2 z1 m18
      else
        qn (m4 0 7) fun z21 =>
        some (z21, m4)
  else
    qf_X3_runsOne_136 x1 x2 z1 m
noncomputable def qf_X3_runsOne_41 (x1 : Int32) (x2 : Int32) (m : wm) : Option (Int32 × wm) :=
  qn (m 0 7) fun z1 =>
  qn (z1 + (1 : Int32)) fun z2 =>
  qn (qw_u2 m 0 7 z2) fun m3 =>
  if x2 = (114 : Int32) then
    qf_X3_runsOne_69 x1 x2 m3
  else
    qb2 (qf_X3_number m3) fun r5 m7 =>
    if r5 = 0 then
      qn (m7 0 7) fun z9 =>
      some (z9, m7)
    else
      qf_X3_runsOne_69 x1 x2 m7
noncomputable def qf_X3_runsOne (m : wm) : Option (Int32 × wm) :=
  qn (m 0 7) fun z1 =>
  qn (m 0 7) fun z2 =>
  qg (vp_in z2 120) <|
  qn (m 4 z2.toNatClampNeg) fun z3 =>
  if z3 = (99 : Int32) then
    qf_X3_runsOne_41 z1 z3 m
  else
    if z3 = (116 : Int32) then
      qf_X3_runsOne_41 z1 z3 m
    else
      if z3 = (114 : Int32) then
        qf_X3_runsOne_41 z1 z3 m
      else
        if z3 = (120 : Int32) then
          qf_X3_runsOne_41 z1 z3 m
        else
          some (z1, m)
noncomputable def qf_X3_exchanges_2 : Nat → Int32 → wm → Option wm
  | 0, _, _ => none
  | n + 1, x1, m =>
  if (935 : Int32) ≤ x1 then
    some m
  else
    qg (vp_in x1 935) <|
    qn (m 1 x1.toNatClampNeg) fun z2 =>
    qg (vp_in x1 935) <|
    qn (m 3 x1.toNatClampNeg) fun z4 =>
    qg (vp_in x1 935) <|
    qn (qw_u2 m 1 x1.toNatClampNeg z4) fun m7 =>
    qg (vp_in x1 935) <|
    qn (qw_u2 m7 3 x1.toNatClampNeg z2) fun m9 =>
    qn (x1 + 1) fun z10 =>
    qf_X3_exchanges_2 n z10 m9
noncomputable def qf_X3_exchanges (m : wm) : Option wm :=
  qf_X3_exchanges_2 qfu (0 : Int32) m
noncomputable def qf_X3_run_74 (x1 : Int32) (x2 : Int32) (m : wm) : Option (Int32 × wm) :=
  qn (qw_u2 m 0 4 (0 : Int32)) fun m1 =>
  qb1 (qf_X3_exchanges m1) fun m3 =>
  if x2 = (-9 : Int32) then
    qb1 (qf_X3_acts m3) fun m6 =>
    qb1 (qf_X3_exchanges m6) fun m8 =>
    qn (qw_u2 m8 0 6 (0 : Int32)) fun m9 =>
    some (x1, m9)
  else
    qn ((-1000 : Int32) - x2) fun z10 =>
    some (z10, m3)
noncomputable def qf_X3_run_46 : Nat → Int32 → Int32 → wm → Option (Int32 × wm)
  | 0, _, _, _ => none
  | n + 1, x1, x2, m =>
  if x2 = (-9 : Int32) then
    qn (m 0 7) fun z2 =>
    qn (m 0 6) fun z3 =>
    if z3 ≤ z2 then
      qf_X3_run_74 x1 x2 m
    else
      qb2 (qf_X3_runsOne m) fun r5 m7 =>
      qn (x1 + 1) fun z8 =>
      qf_X3_run_46 n z8 r5 m7
  else
    qf_X3_run_74 x1 x2 m
noncomputable def qf_X3_run_2 : Nat → Int32 → wm → Option (Int32 × wm)
  | 0, _, _ => none
  | n + 1, x1, m =>
  if (935 : Int32) ≤ x1 then
    qn (qw_u2 m 0 4 (1 : Int32)) fun m2 =>
    qn (qw_u2 m2 0 7 (0 : Int32)) fun m3 =>
    qb1 (qf_X3_skips m3) fun m5 =>
    qf_X3_run_46 qfu (0 : Int32) (-9 : Int32) m5
  else
    qg (vp_in x1 935) <|
    qn (m 1 x1.toNatClampNeg) fun z6 =>
    qg (vp_in x1 935) <|
    qn (qw_u2 m 3 x1.toNatClampNeg z6) fun m9 =>
    qn (x1 + 1) fun z10 =>
    qf_X3_run_2 n z10 m9
noncomputable def qf_X3_run (m : wm) : Option (Int32 × wm) :=
  qf_X3_run_2 qfu (0 : Int32) m
noncomputable def qf_X3_overrun_4 : Nat → Int32 → Int32 → wm → Option Int32
  | 0, _, _, _ => none
  | n + 1, x1, x2, m =>
  qn (m 1 0) fun z1 =>
  if z1 ≤ x2 then
    some x1
  else
    qb1 (qf_X3_ofFrame x2 (4 : Int32) m) fun r3 =>
    if r3 = (-9 : Int32) then
      qn (x1 + (0 : Int32)) fun z6 =>
      qn (x2 + 1) fun z7 =>
      qf_X3_overrun_4 n z6 z7 m
    else
      qn (x1 + (1 : Int32)) fun z8 =>
      qn (x2 + 1) fun z9 =>
      qf_X3_overrun_4 n z8 z9 m
noncomputable def qf_X3_overrun (m : wm) : Option Int32 :=
  qf_X3_overrun_4 qfu (0 : Int32) (0 : Int32) m
noncomputable def qf_X3_count (x1 : Int32) (m : wm) : Option Int32 :=
  qb1 (qf_X3_in x1 (0 : Int32) (14 : Int32)) fun r1 =>
  if r1 = 0 then
    if x1 = (15 : Int32) then
      qn (m 0 3) fun z10 =>
      some z10
    else
      if x1 = (16 : Int32) then
        qn (m 0 6) fun z9 =>
        some z9
      else
        if x1 = (17 : Int32) then
          qb1 (qf_X3_overrun m) fun r7 =>
          some r7
        else
          some (-1 : Int32)
  else
    qg (vp_in x1 935) <|
    qn (m 1 x1.toNatClampNeg) fun z11 =>
    some z11
noncomputable def qf_X3_isFrame (x1 : Int32) (m : wm) : Option Int32 :=
  if x1 < 0 then
    some (0 : Int32)
  else
    qn (m 1 0) fun z2 =>
    if z2 ≤ x1 then
      some (0 : Int32)
    else
      some (1 : Int32)
noncomputable def qf_X3_frame (x1 : Int32) (x2 : Int32) (m : wm) : Option Int32 :=
  qb1 (qf_X3_isFrame x1 m) fun r1 =>
  if r1 = 0 then
    some (-1 : Int32)
  else
    qb1 (qf_X3_in x2 (0 : Int32) (4 : Int32)) fun r4 =>
    if r4 = 0 then
      some (-1 : Int32)
    else
      qn (m 1 0) fun z7 =>
      qn (z7 - (1 : Int32)) fun z8 =>
      qn (z8 - x1) fun z9 =>
      qb1 (qf_X3_ofFrame z9 x2 m) fun r10 =>
      some r10
noncomputable def qf_X3_slot (x1 : Int32) (x2 : Int32) (m : wm) : Option Int32 :=
  if x1 < 0 then
    some (-1 : Int32)
  else
    qn (m 1 11) fun z2 =>
    if z2 ≤ x1 then
      some (-1 : Int32)
    else
      qb1 (qf_X3_in x2 (0 : Int32) (2 : Int32)) fun r4 =>
      if r4 = 0 then
        some (-1 : Int32)
      else
        qb1 (qf_X3_ofSlot x1 x2 m) fun r7 =>
        some r7
noncomputable def qf_X3_confession (x1 : Int32) (x2 : Int32) (m : wm) : Option Int32 :=
  if x1 < 0 then
    some (-1 : Int32)
  else
    qb1 (qf_X3_in x2 (0 : Int32) (5 : Int32)) fun r2 =>
    if r2 = 0 then
      some (-1 : Int32)
    else
      qn (m 1 10) fun z5 =>
      if z5 ≤ x1 then
        some (-9 : Int32)
      else
        qn (m 1 10) fun z7 =>
        qn (z7 - (1 : Int32)) fun z8 =>
        qn (z8 - x1) fun z9 =>
        qn ((6 : Int32) * z9) fun z10 =>
        qn ((263 : Int32) + z10) fun z11 =>
        qn (z11 + x2) fun z12 =>
        qg (vp_in z12 935) <|
        qn (m 1 z12.toNatClampNeg) fun z13 =>
        some z13
noncomputable def qf_X3_named (x1 : Int32) (m : wm) : Option Int32 :=
  if x1 < 0 then
    some (-1 : Int32)
  else
    qn (m 1 2) fun z2 =>
    if z2 ≤ x1 then
      some (-1 : Int32)
    else
      qn ((735 : Int32) + x1) fun z4 =>
      qg (vp_in z4 935) <|
      qn (m 1 z4.toNatClampNeg) fun z5 =>
      some z5
noncomputable def qf_X3_worst_7 : Nat → Int32 → Int32 → Int32 → wm → Option Int32
  | 0, _, _, _, _ => none
  | n + 1, x1, x2, x3, m =>
  qn (m 1 2) fun z1 =>
  if z1 ≤ x3 then
    some x1
  else
    qn ((735 : Int32) + x3) fun z3 =>
    qg (vp_in z3 935) <|
    qn (m 1 z3.toNatClampNeg) fun z4 =>
    if z4 ≤ x2 then
      qn ((735 : Int32) + x3) fun z7 =>
      qg (vp_in z7 935) <|
      qn (m 1 z7.toNatClampNeg) fun z8 =>
      if z8 ≤ x2 then
        qn (x3 + 1) fun z11 =>
        qf_X3_worst_7 n x1 x2 z11 m
      else
        qn ((735 : Int32) + x3) fun z12 =>
        qg (vp_in z12 935) <|
        qn (m 1 z12.toNatClampNeg) fun z13 =>
        qn (x3 + 1) fun z15 =>
        qf_X3_worst_7 n x1 z13 z15 m
    else
      qn ((735 : Int32) + x3) fun z16 =>
      qg (vp_in z16 935) <|
      qn (m 1 z16.toNatClampNeg) fun z17 =>
      if z17 ≤ x2 then
        qn (x3 + 1) fun z20 =>
        qf_X3_worst_7 n x3 x2 z20 m
      else
        qn ((735 : Int32) + x3) fun z21 =>
        qg (vp_in z21 935) <|
        qn (m 1 z21.toNatClampNeg) fun z22 =>
        qn (x3 + 1) fun z24 =>
        qf_X3_worst_7 n x3 z22 z24 m
noncomputable def qf_X3_worst (m : wm) : Option Int32 :=
  qf_X3_worst_7 qfu (-9 : Int32) (0 : Int32) (0 : Int32) m
noncomputable def qf_X3_ahead_39 : Nat → Int32 → Int32 → Int32 → Int32 → wm → Option Int32
  | 0, _, _, _, _, _ => none
  | n + 1, x1, x2, x3, x4, m =>
  if x1 ≤ x4 then
    if x2 = 0 then
      some x3
    else
      qn (x1 - x3) fun z3 =>
      some z3
  else
    qn (m 1 12) fun z4 =>
    qn (m 1 11) fun z5 =>
    qb1 (qf_X3_back z4 x4 z5) fun r6 =>
    qb1 (qf_X3_ofSlot r6 (1 : Int32) m) fun r8 =>
    qn (m 1 0) fun z10 =>
    qn (z10 - (1 : Int32)) fun z11 =>
    qn (z11 - x4) fun z12 =>
    qb1 (qf_X3_ofFrame z12 (2 : Int32) m) fun r13 =>
    if r8 = r13 then
      qn (x3 + (1 : Int32)) fun z18 =>
      qn (x4 + 1) fun z19 =>
      qf_X3_ahead_39 n x1 x2 z18 z19 m
    else
      qn (x3 + (0 : Int32)) fun z16 =>
      qn (x4 + 1) fun z17 =>
      qf_X3_ahead_39 n x1 x2 z16 z17 m
noncomputable def qf_X3_ahead (x1 : Int32) (x2 : Int32) (m : wm) : Option Int32 :=
  qb1 (qf_X3_in x1 (1 : Int32) (40 : Int32)) fun r1 =>
  if r1 = 0 then
    some (-1 : Int32)
  else
    qb1 (qf_X3_in x2 (0 : Int32) (1 : Int32)) fun r4 =>
    if r4 = 0 then
      some (-1 : Int32)
    else
      qn (m 1 0) fun z7 =>
      if x1 ≤ z7 then
        qf_X3_ahead_39 qfu x1 x2 (0 : Int32) (0 : Int32) m
      else
        some (-2 : Int32)
noncomputable def qf_X3_misses_34 : Nat → Int32 → Int32 → Int32 → Int32 → Int32 → wm → Option (Int32 × wm)
  | 0, _, _, _, _, _, _ => none
  | n + 1, x1, x2, x3, x4, x5, m =>
  qn (m 1 1) fun z1 =>
  if z1 ≤ x5 then
    some (x4, m)
  else
    qn ((2 : Int32) * x5) fun z3 =>
    qn ((335 : Int32) + z3) fun z4 =>
    qg (vp_in z4 935) <|
    qn (m 1 z4.toNatClampNeg) fun z5 =>
    qn ((2 : Int32) * x5) fun z7 =>
    qn ((335 : Int32) + z7) fun z8 =>
    qn (z8 + (1 : Int32)) fun z9 =>
    qg (vp_in z9 935) <|
    qn (m 1 z9.toNatClampNeg) fun z10 =>
    if z5 = 0 then
      qn (x2 + (1 : Int32)) fun z37 =>
      qg (¬ x1 = 0) <|
      qn (z37 - z37 / x1 * x1) fun z38 =>
      qg (vp_in z38 16) <|
      qn (qw_u2 m 5 z38.toNatClampNeg z10) fun m41 =>
      qg (vp_in x3 40) <|
      qn (qw_u2 m41 6 x3.toNatClampNeg z10) fun m43 =>
      qn (x3 + 1) fun z44 =>
      qn (x5 + 1) fun z45 =>
      qf_X3_misses_34 n x1 z38 z44 x4 z45 m43
    else
      if z5 = (2 : Int32) then
        qn (x3 + (-1)) fun z23 =>
        qg (vp_in x2 16) <|
        qn (m 5 x2.toNatClampNeg) fun z24 =>
        qg (vp_in z23 40) <|
        qn (m 6 z23.toNatClampNeg) fun z26 =>
        if z24 = z26 then
          qn (x4 + (0 : Int32)) fun z33 =>
          qb1 (qf_X3_back x2 (1 : Int32) x1) fun r34 =>
          qn (x5 + 1) fun z36 =>
          qf_X3_misses_34 n x1 r34 z23 z33 z36 m
        else
          qn (x4 + (1 : Int32)) fun z29 =>
          qb1 (qf_X3_back x2 (1 : Int32) x1) fun r30 =>
          qn (x5 + 1) fun z32 =>
          qf_X3_misses_34 n x1 r30 z23 z29 z32 m
      else
        if z5 = (3 : Int32) then
          qn (x3 - z10) fun z16 =>
          qn (m 1 14) fun z17 =>
          if z17 = (1 : Int32) then
            qb1 (qf_X3_back x2 z10 x1) fun r20 =>
            qn (x5 + 1) fun z22 =>
            qf_X3_misses_34 n x1 r20 z16 x4 z22 m
          else
            qn (x5 + 1) fun z19 =>
            qf_X3_misses_34 n x1 x2 z16 x4 z19 m
        else
          qn (x5 + 1) fun z15 =>
          qf_X3_misses_34 n x1 x2 x3 x4 z15 m
noncomputable def qf_X3_misses_2 : Nat → Int32 → Int32 → wm → Option (Int32 × wm)
  | 0, _, _, _ => none
  | n + 1, x1, x2, m =>
  if (16 : Int32) ≤ x2 then
    qn (x1 - (1 : Int32)) fun z2 =>
    qf_X3_misses_34 qfu x1 z2 (0 : Int32) (0 : Int32) (0 : Int32) m
  else
    qg (vp_in x2 16) <|
    qn (qw_u2 m 5 x2.toNatClampNeg (-9 : Int32)) fun m4 =>
    qn (x2 + 1) fun z5 =>
    qf_X3_misses_2 n x1 z5 m4
noncomputable def qf_X3_misses (x1 : Int32) (m : wm) : Option (Int32 × wm) :=
  qf_X3_misses_2 qfu x1 (0 : Int32) m
noncomputable def qf_X3_missesWith (x1 : Int32) (m : wm) : Option (Int32 × wm) :=
  qb1 (qf_X3_in x1 (2 : Int32) (16 : Int32)) fun r1 =>
  if r1 = 0 then
    some ((-1 : Int32), m)
  else
    qb2 (qf_X3_misses x1 m) fun r4 m6 =>
    some (r4, m6)
noncomputable def qf_X3_bestSize_4 : Nat → Int32 → Int32 → wm → Option (Int32 × wm)
  | 0, _, _, _ => none
  | n + 1, x1, x2, m =>
  if (16 : Int32) < x2 then
    some (x1, m)
  else
    qb2 (qf_X3_misses x2 m) fun r2 m4 =>
    qb2 (qf_X3_misses x1 m4) fun r5 m7 =>
    if r5 ≤ r2 then
      qn (x2 + 1) fun z9 =>
      qf_X3_bestSize_4 n x1 z9 m7
    else
      qn (x2 + 1) fun z10 =>
      qf_X3_bestSize_4 n x2 z10 m7
noncomputable def qf_X3_bestSize (m : wm) : Option (Int32 × wm) :=
  qf_X3_bestSize_4 qfu (2 : Int32) (3 : Int32) m
noncomputable def qf_X3_callsUntil (x1 : Int32) (m : wm) : Option Int32 :=
  qb1 (qf_X3_isFrame x1 m) fun r1 =>
  if r1 = 0 then
    some (-1 : Int32)
  else
    qn (m 1 0) fun z4 =>
    qn (z4 - (1 : Int32)) fun z5 =>
    qn (z5 - x1) fun z6 =>
    qb1 (qf_X3_ofFrame z6 (4 : Int32) m) fun r7 =>
    if r7 = (-9 : Int32) then
      qb1 (qf_X3_ofFrame z6 (3 : Int32) m) fun r10 =>
      qn (m 1 12) fun z12 =>
      qn (r10 - z12) fun z13 =>
      qn (m 1 11) fun z14 =>
      qn (z13 + z14) fun z15 =>
      qn (m 1 11) fun z16 =>
      qg (¬ z16 = 0) <|
      qn (z15 - z15 / z16 * z16) fun z17 =>
      if z17 = 0 then
        qn (m 1 11) fun z20 =>
        some z20
      else
        some z17
    else
      some (0 : Int32)
end
section
/-! THE CLAIM OUT OF ONE WALK OF THE LAW'S BODY. Your part is whole_start (and what it stands on); all else here is the same for every law, but numbers. -/
def R_law : String := "ReturnPileLaw"
def lw_P (b : Addr) (xs : List Int32) (args : Array Value) (s : State) : Prop := args = #[.ref b] ∧ s.IntsAt b xs ∧ xs.length ≤ 1536 ∧ (Jvm.Cond.and given_1 narrow_1).before args s = true
def lw_Q (_ : Array Value) (s : State) (o : Outcome) (t : State) : Prop := o = .returned (some (.int 1)) ∧ Framed s o t [] 600000 7302250
def lw_Z (below : List Frame) (a : Array Value) (s : State) : State → Prop := fun t => ∃ o, t.status = .running ∧ Ended t below o ∧ lw_Q a s o t
/-- the law's own end, with 1 on the stack, nothing written that was there before, its room as the claim has it -/
theorem lw_ret {p : Program} {l : Launch} {e : Env} {s : State} {m : MethodId} {below : List Frame} {meth : Method} {c : Code} {b : Nat} (hx : p.tables.exec = Jvm.exec) (hb : c.code = code) (hr : meth.sig.returnType = ret) (hlocks : meth.locks = false) {pc : Nat} {H : Heap} {ls : Array Slot} (hdg : decode code pc = .ok (.ireturn, 1)) : W p l e room_1 s m #[Value.ref b] below meth c H [] 600000 7302250 (lw_Z below #[Value.ref b] s) (F0 m pc ls [.int 1]) := by
  intro T hT X
  obtain ⟨fs, hret, hrun, hended, hW, hframe⟩ := X.leave (v := some (.int 1)) (hlocks := hlocks) (fun h => by rw [hr] at h; cases h)
  have hmeth' : T.vm.method? m = some meth := X.method'
  refine ⟨T.setFrames fs, ?_, .returned (some (.int 1)), hrun, hended, rfl, ⟨_, rfl⟩, hW, hframe⟩
  jvm_step X.here [X.here.top, hx, hb, hdg, hmeth', hr, ret, narrow_b1]
  (try refine ⟨rfl, ?_⟩); (try refine ⟨rfl, ?_⟩)
  first | (intro acts; rw [hret _ acts rfl rfl rfl]) | rw [hret _ _ rfl rfl rfl]
  exact Steps.refl _
/-- what holds at the law's entry: the machine, the code, the tables' words (any of lw_tbl by 'hts w (by decide +kernel)'), the script of L ints xs at the cell b, what the Statement gives of the start (any of its parts by flat_of_before) -/
def lw_At (p : Program) (s : State) (m : MethodId) (meth : Method) (c : Code) (b L : Nat) (xs : Nat → Int32) : Prop :=
  p.tables.exec = Jvm.exec ∧ c.code = code ∧ meth.sig.returnType = ret ∧ c.maxLocals = 4 ∧ s.vm.findClass R_law = some m.cls ∧ (∀ w ∈ lw_tbl, w.before #[Value.ref b] s = true) ∧ va_X b L xs s s.heap ∧ b < s.heap.size ∧ meth.locks = false ∧ (Jvm.Cond.and given_1 narrow_1).before #[Value.ref b] s = true
-- ===== YOUR PART BEGINS =====
/-- YOUR PART: from the entry, for every script of at most 1536 ints, the law comes to its end with true ('hflags': the launch's flags, for a law that throws: no stack traces) -/
theorem whole_start {p : Program} {e : Env} {s : State} {m : MethodId} {below : List Frame} {meth : Method} {c : Code} (l : Launch) (hflags : l.flags = flags0) {b L : Nat} {xs : Nat → Int32} (hL : L ≤ 1536) (C0 : lw_At p s m meth c b L xs) : W p l e room_1 s m #[Value.ref b] below meth c s.heap [] 0 0 (lw_Z below #[Value.ref b] s) (entryFrame m ([Value.ref b] : List Value).toArray 4) := by
  sorry
-- ===== YOUR PART ENDS =====
set_option maxHeartbeats 4000000 in
theorem lw_walk (l : Launch) (hflags : l.flags = flags0) (b : Addr) (xs : List Int32) : MetFree l x (headSpec (Jvm.Cond.code x code maxLocals ret :: tables_1) room_1) (lw_P b xs) (fun _ _ _ _ _ => True) lw_Q := by
  refine MetFree.of_bodyS (code := code) (maxLocals := maxLocals) (ret := ret) (by decide) ?_ ?_
  · intro args s m h hn
    obtain ⟨meth, c, h1, h2, h3, h4, h5, h6, -, -⟩ := Cond.code_spec hn (atoms_spec (ws := Jvm.Cond.code x code maxLocals ret :: tables_1) h _ List.mem_cons_self)
    exact ⟨meth, c, h1, h2, h3, h4, h5, h6⟩
  · intro p e s m args below meth c s₁ B hml0 hP _
    obtain ⟨rfl, hx, hbd, hgv⟩ := hP
    obtain ⟨scr, harrAt, hlist, hof, hsmall⟩ := hx
    obtain ⟨hcb, hkn, -, -⟩ := State.arrayAt?_spec harrAt
    have hown : s.vm.findClass R_law = some m.cls := findClass_of_methodNamed B.named
    have hts0 : ∀ c ∈ (Jvm.Cond.code x code maxLocals ret :: tables_1), c.before #[Value.ref b] s = true := atoms_spec (ws := Jvm.Cond.code x code maxLocals ret :: tables_1) B.pre
    have hts : ∀ w ∈ lw_tbl, w.before #[Value.ref b] s = true := k2_hts_sels lw_privs (fun w hw => hts0 w (List.mem_cons_of_mem _ hw)) lw_privs_ok
    have hml : c.maxLocals = 4 := B.maxLocals_eq (hts0 _ List.mem_cons_self)
    have X₀ : Stand p l e room_1 s m #[Value.ref b] below meth c s₁ [] 0 0 := Stand.of_body B
    have hh0 : s₁.heap = s.heap := by rw [B.state]; rfl
    have hsz : scr.slots.size = xs.length := by rw [← Array.length_toList, hlist, List.length_map]
    have hval : ∀ j : Nat, j < xs.length → scr.slots[j]? = some (.int (xs.getD j 0)) := fun j hj => by
      rw [← Array.getElem?_toList, hlist]
      simp [hj]
    have hbl : b < s.heap.size := (Array.getElem?_eq_some_iff.mp hcb).1
    have hX : va_X b xs.length (fun j => xs.getD j 0) s s.heap := ⟨scr, hcb, hof, hkn, hsz, hval⟩
    have K : W p l e room_1 s m #[Value.ref b] below meth c s₁.heap [] 0 0 (lw_Z below #[Value.ref b] s) (entryFrame m ([Value.ref b] : List Value).toArray 4) := by
      rw [hh0]
      exact whole_start l hflags hbd ⟨B.exec, B.bytes, B.returns, hml, hown, hts, hX, hbl, B.notSynchronized, hgv⟩
    obtain ⟨t, a1, o, b1, b2, b3⟩ := K s₁ rfl X₀
    exact ⟨t, o, a1, b1, b2, b3⟩
theorem lw_pre_spec {args : Array Value} {s : State} (h : (Jvm.Cond.and given_1 narrow_1).before args s = true) (hr : rest_1_c.before args s = true) : ∃ (b : Addr) (xs : List Int32), lw_P b xs args s := by
  have hs := flat_of_before _ h
  have hq := flat_of_before _ hr
  have hc : (Cond.count 1).before args s = true := hs _ (by decide +kernel)
  have harr : (Cond.arrayOf (.arg 0) .int).before args s = true := hs _ (by decide +kernel)
  have hle : (Cond.le (.length (.arg 0)) (.int 1536)).before args s = true := hs _ (by decide +kernel)
  have hlen : (Cond.isInt (.length (.arg 0))).before args s = true := hq _ (by decide +kernel)
  have hall : (Cond.all (.arg 0) (.isInt (.elem (.arg 0) (.index 0)))).before args s = true := hq _ (by decide +kernel)
  obtain ⟨b, xs, hb, hx⟩ := State.ints_of_pre rfl harr hlen hall
  have hsm : xs.length < 2 ^ 31 := hx.choose_spec.2.2.2
  have hev : (Term.length (.arg 0)).eval args s none [] s = some (.int xs.length.toInt32) := hx.length_eval hb
  have hv := Cond.le_ints hev (show (Term.int 1536).eval args s none [] s = some (.int 1536) from rfl)
  have hd : xs.length.toInt32 ≤ 1536 := by
    simpa [Cond.before, Cond.holds, hv] using hle
  have hN : xs.length ≤ 1536 := (Int32.ofNat_le_ofNat hsm (by decide)).mp (show Int32.ofNat xs.length ≤ Int32.ofNat 1536 from hd)
  exact ⟨b, xs, Cond.one_arg hc (show args[0]? = some (.ref b) from hb), hx, hN, h⟩
theorem lw_comes (l : Launch) (hflags : l.flags = flags0) : Comes l x (Jvm.Cond.code x code maxLocals ret :: tables_1) room_1 (fun tb e args s => Calls_1 tb e args s ∧ rest_1 tb e args s ∧ Pre_1 tb e args s)
    (fun _ _ args s o t => lw_Q args s o t) := by
  intro p e ha hc hk s m args below hf hfit hheap happ hpre
  obtain ⟨b, xs, hP⟩ := lw_pre_spec hpre.2.2 hpre.2.1
  obtain ⟨k, o, h1, h2, h3, hQ⟩ := lw_walk l hflags b xs p e ha hc hk s m args below hf ((Spec.applies_iff_loose hf).mp happ).1 hP trivial
  exact ⟨k, o, h1, h2, h3, hQ⟩
theorem lw_frame {s t : State} {o : Outcome} {args : Array Value} (h : Framed s o t [] 600000 7302250) :
    Framed s o t (fieldLocs frame_1_writes args s ++ arrayLocs frame_1_arrays args s ++ staticLocs frame_1_statics s) 600000 7302250 := h
theorem lw_limb (L : Cond) (hL : ∀ (args : Array Value) (s t : State), L.after args s (.returned (some (.int 1))) t = true) :
    ArmFor flags0 classFile x code maxLocals ret World_1 tables_1 room_1 Calls_1 rest_1 Pre_1
      (fun tb e a s o t => postC L tb e a s o t ∧ Framed s o t (fieldLocs frame_1_writes a s ++ arrayLocs frame_1_arrays a s ++ staticLocs frame_1_statics s) 600000 7302250) := by
  intro l hflags _ _ p e ha hc hk s m args below hf hfit hheap happ hpre
  obtain ⟨k, o, h1, h2, h3, rfl, hF⟩ := lw_comes l hflags p e ha hc hk s m args below hf hfit hheap happ hpre
  exact ⟨k, _, h1, h2, h3, hL args s _, lw_frame hF⟩
theorem i_vc : Claimed_1_1 ∧ Claimed_1_2 := ⟨lw_limb limb_1_1 (fun args s t => by simp [limb_1_1, Cond.after, Cond.holds, Cond.value]), lw_limb limb_1_2 (fun args s t => Cond.after_iff.mpr (by
  first | (rw [show limb_1_2 = Cond.eq .result (.int 1) from rfl, Cond.eq_ints (x := 1) (y := 1) rfl rfl]; simp; done) | (simp [limb_1_2, Cond.value, Term.eval]; done)))⟩
end
