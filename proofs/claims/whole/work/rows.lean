section
-- ===== PART A: goes FIRST, ahead of the names: the tables' words, and 'selects' of the private methods out of them =====
/-- a private method of a class that the tables say can be made, by its rows of tables_1 -/
def lw_okq (q : MethodName × Nat) : Prop := (q.1.cls ≠ "java/lang/invoke/MethodHandle" ∧ q.1.cls ≠ "java/lang/invoke/VarHandle") ∧ Cond.instantiable q.1.cls q.2 ∈ tables_1 ∧ Cond.privateMethod q.1 ∈ tables_1 ∧ Cond.instanceMethod q.1 ∈ tables_1
theorem lw_p0 : lw_okq (⟨"StartSleep", "awaitIdleness", "()V"⟩, 14) := ⟨⟨by decide +kernel, by decide +kernel⟩, List.mem_of_getElem? (i := 14) (by decide +kernel), List.mem_of_getElem? (i := 150) (by decide +kernel), List.mem_of_getElem? (i := 151) (by decide +kernel)⟩
theorem lw_p1 : lw_okq (⟨"StartSleep", "run", "()V"⟩, 14) := ⟨⟨by decide +kernel, by decide +kernel⟩, List.mem_of_getElem? (i := 14) (by decide +kernel), List.mem_of_getElem? (i := 159) (by decide +kernel), List.mem_of_getElem? (i := 160) (by decide +kernel)⟩
theorem lw_p2 : lw_okq (⟨"StartSleep", "check", "()V"⟩, 14) := ⟨⟨by decide +kernel, by decide +kernel⟩, List.mem_of_getElem? (i := 14) (by decide +kernel), List.mem_of_getElem? (i := 163) (by decide +kernel), List.mem_of_getElem? (i := 164) (by decide +kernel)⟩
theorem lw_p3 : lw_okq (⟨"StartSleep", "enter", "(IJ)V"⟩, 14) := ⟨⟨by decide +kernel, by decide +kernel⟩, List.mem_of_getElem? (i := 14) (by decide +kernel), List.mem_of_getElem? (i := 168) (by decide +kernel), List.mem_of_getElem? (i := 169) (by decide +kernel)⟩
theorem lw_p4 : lw_okq (⟨"StartSleep", "canAdvance", "(J)Z"⟩, 14) := ⟨⟨by decide +kernel, by decide +kernel⟩, List.mem_of_getElem? (i := 14) (by decide +kernel), List.mem_of_getElem? (i := 176) (by decide +kernel), List.mem_of_getElem? (i := 177) (by decide +kernel)⟩
theorem lw_p5 : lw_okq (⟨"StartSleep", "advance", "(J)V"⟩, 14) := ⟨⟨by decide +kernel, by decide +kernel⟩, List.mem_of_getElem? (i := 14) (by decide +kernel), List.mem_of_getElem? (i := 181) (by decide +kernel), List.mem_of_getElem? (i := 182) (by decide +kernel)⟩
theorem lw_p6 : lw_okq (⟨"StartSleep", "happen", "()V"⟩, 14) := ⟨⟨by decide +kernel, by decide +kernel⟩, List.mem_of_getElem? (i := 14) (by decide +kernel), List.mem_of_getElem? (i := 185) (by decide +kernel), List.mem_of_getElem? (i := 186) (by decide +kernel)⟩
theorem lw_p7 : lw_okq (⟨"StartSleep", "saveNextOrSleep", "()V"⟩, 14) := ⟨⟨by decide +kernel, by decide +kernel⟩, List.mem_of_getElem? (i := 14) (by decide +kernel), List.mem_of_getElem? (i := 189) (by decide +kernel), List.mem_of_getElem? (i := 190) (by decide +kernel)⟩
theorem lw_p8 : lw_okq (⟨"StartSleep", "sleep", "()V"⟩, 14) := ⟨⟨by decide +kernel, by decide +kernel⟩, List.mem_of_getElem? (i := 14) (by decide +kernel), List.mem_of_getElem? (i := 197) (by decide +kernel), List.mem_of_getElem? (i := 198) (by decide +kernel)⟩
theorem lw_p9 : lw_okq (⟨"StartSleep$Blocks", "keptCopy", "(I)I"⟩, 4) := ⟨⟨by decide +kernel, by decide +kernel⟩, List.mem_of_getElem? (i := 36) (by decide +kernel), List.mem_of_getElem? (i := 208) (by decide +kernel), List.mem_of_getElem? (i := 209) (by decide +kernel)⟩
theorem lw_p10 : lw_okq (⟨"StartSleep", "endSaving", "()V"⟩, 14) := ⟨⟨by decide +kernel, by decide +kernel⟩, List.mem_of_getElem? (i := 14) (by decide +kernel), List.mem_of_getElem? (i := 213) (by decide +kernel), List.mem_of_getElem? (i := 214) (by decide +kernel)⟩
theorem lw_p11 : lw_okq (⟨"StartSleep$Parts", "placeBehind", "(I)I"⟩, 6) := ⟨⟨by decide +kernel, by decide +kernel⟩, List.mem_of_getElem? (i := 61) (by decide +kernel), List.mem_of_getElem? (i := 285) (by decide +kernel), List.mem_of_getElem? (i := 286) (by decide +kernel)⟩
theorem lw_p12 : lw_okq (⟨"StartSleep$Parts", "note", "(I)V"⟩, 6) := ⟨⟨by decide +kernel, by decide +kernel⟩, List.mem_of_getElem? (i := 61) (by decide +kernel), List.mem_of_getElem? (i := 289) (by decide +kernel), List.mem_of_getElem? (i := 290) (by decide +kernel)⟩
theorem lw_p13 : lw_okq (⟨"StartSleep$Parts", "endThoseBeforeTheLast", "()V"⟩, 6) := ⟨⟨by decide +kernel, by decide +kernel⟩, List.mem_of_getElem? (i := 61) (by decide +kernel), List.mem_of_getElem? (i := 293) (by decide +kernel), List.mem_of_getElem? (i := 294) (by decide +kernel)⟩
theorem lw_p14 : lw_okq (⟨"java/lang/Throwable", "fillInStackTrace", "(I)Ljava/lang/Throwable;"⟩, 6) := ⟨⟨by decide +kernel, by decide +kernel⟩, List.mem_of_getElem? (i := 346) (by decide +kernel), List.mem_of_getElem? (i := 344) (by decide +kernel), List.mem_of_getElem? (i := 345) (by decide +kernel)⟩
theorem lw_p15 : lw_okq (⟨"StartSleepModel", "run", "()V"⟩, 23) := ⟨⟨by decide +kernel, by decide +kernel⟩, List.mem_of_getElem? (i := 402) (by decide +kernel), List.mem_of_getElem? (i := 495) (by decide +kernel), List.mem_of_getElem? (i := 496) (by decide +kernel)⟩
def lw_privs_1 : List (MethodName × Nat) := [(⟨"StartSleep", "awaitIdleness", "()V"⟩, 14), (⟨"StartSleep", "run", "()V"⟩, 14), (⟨"StartSleep", "check", "()V"⟩, 14), (⟨"StartSleep", "enter", "(IJ)V"⟩, 14), (⟨"StartSleep", "canAdvance", "(J)Z"⟩, 14), (⟨"StartSleep", "advance", "(J)V"⟩, 14), (⟨"StartSleep", "happen", "()V"⟩, 14), (⟨"StartSleep", "saveNextOrSleep", "()V"⟩, 14), (⟨"StartSleep", "sleep", "()V"⟩, 14), (⟨"StartSleep$Blocks", "keptCopy", "(I)I"⟩, 4), (⟨"StartSleep", "endSaving", "()V"⟩, 14), (⟨"StartSleep$Parts", "placeBehind", "(I)I"⟩, 6), (⟨"StartSleep$Parts", "note", "(I)V"⟩, 6), (⟨"StartSleep$Parts", "endThoseBeforeTheLast", "()V"⟩, 6), (⟨"java/lang/Throwable", "fillInStackTrace", "(I)Ljava/lang/Throwable;"⟩, 6), (⟨"StartSleepModel", "run", "()V"⟩, 23)]
theorem lw_r1 : ∀ q ∈ lw_privs_1, lw_okq q := List.forall_mem_cons.mpr ⟨lw_p0, List.forall_mem_cons.mpr ⟨lw_p1, List.forall_mem_cons.mpr ⟨lw_p2, List.forall_mem_cons.mpr ⟨lw_p3, List.forall_mem_cons.mpr ⟨lw_p4, List.forall_mem_cons.mpr ⟨lw_p5, List.forall_mem_cons.mpr ⟨lw_p6, List.forall_mem_cons.mpr ⟨lw_p7, List.forall_mem_cons.mpr ⟨lw_p8, List.forall_mem_cons.mpr ⟨lw_p9, List.forall_mem_cons.mpr ⟨lw_p10, List.forall_mem_cons.mpr ⟨lw_p11, List.forall_mem_cons.mpr ⟨lw_p12, List.forall_mem_cons.mpr ⟨lw_p13, List.forall_mem_cons.mpr ⟨lw_p14, List.forall_mem_cons.mpr ⟨lw_p15, fun _ h => absurd h List.not_mem_nil⟩⟩⟩⟩⟩⟩⟩⟩⟩⟩⟩⟩⟩⟩⟩⟩
theorem lw_p16 : lw_okq (⟨"StartSleepModel", "goOn", "(J)V"⟩, 23) := ⟨⟨by decide +kernel, by decide +kernel⟩, List.mem_of_getElem? (i := 402) (by decide +kernel), List.mem_of_getElem? (i := 504) (by decide +kernel), List.mem_of_getElem? (i := 505) (by decide +kernel)⟩
theorem lw_p17 : lw_okq (⟨"StartSleepModel", "due", "()J"⟩, 23) := ⟨⟨by decide +kernel, by decide +kernel⟩, List.mem_of_getElem? (i := 402) (by decide +kernel), List.mem_of_getElem? (i := 508) (by decide +kernel), List.mem_of_getElem? (i := 509) (by decide +kernel)⟩
theorem lw_p18 : lw_okq (⟨"StartSleepModel", "firstChanged", "()I"⟩, 23) := ⟨⟨by decide +kernel, by decide +kernel⟩, List.mem_of_getElem? (i := 402) (by decide +kernel), List.mem_of_getElem? (i := 516) (by decide +kernel), List.mem_of_getElem? (i := 517) (by decide +kernel)⟩
theorem lw_p19 : lw_okq (⟨"StartSleepModel", "save", "()V"⟩, 23) := ⟨⟨by decide +kernel, by decide +kernel⟩, List.mem_of_getElem? (i := 402) (by decide +kernel), List.mem_of_getElem? (i := 520) (by decide +kernel), List.mem_of_getElem? (i := 521) (by decide +kernel)⟩
theorem lw_p20 : lw_okq (⟨"StartSleepModel", "keptCopy", "(I)I"⟩, 23) := ⟨⟨by decide +kernel, by decide +kernel⟩, List.mem_of_getElem? (i := 402) (by decide +kernel), List.mem_of_getElem? (i := 524) (by decide +kernel), List.mem_of_getElem? (i := 525) (by decide +kernel)⟩
theorem lw_p21 : lw_okq (⟨"StartSleepModel", "isSaved", "()V"⟩, 23) := ⟨⟨by decide +kernel, by decide +kernel⟩, List.mem_of_getElem? (i := 402) (by decide +kernel), List.mem_of_getElem? (i := 528) (by decide +kernel), List.mem_of_getElem? (i := 529) (by decide +kernel)⟩
theorem lw_p22 : lw_okq (⟨"StartSleepModel", "sleep", "()V"⟩, 23) := ⟨⟨by decide +kernel, by decide +kernel⟩, List.mem_of_getElem? (i := 402) (by decide +kernel), List.mem_of_getElem? (i := 532) (by decide +kernel), List.mem_of_getElem? (i := 533) (by decide +kernel)⟩
theorem lw_p23 : lw_okq (⟨"StartSleepModel", "nextPart", "(II)I"⟩, 23) := ⟨⟨by decide +kernel, by decide +kernel⟩, List.mem_of_getElem? (i := 402) (by decide +kernel), List.mem_of_getElem? (i := 556) (by decide +kernel), List.mem_of_getElem? (i := 557) (by decide +kernel)⟩
def lw_privs_2 : List (MethodName × Nat) := [(⟨"StartSleepModel", "goOn", "(J)V"⟩, 23), (⟨"StartSleepModel", "due", "()J"⟩, 23), (⟨"StartSleepModel", "firstChanged", "()I"⟩, 23), (⟨"StartSleepModel", "save", "()V"⟩, 23), (⟨"StartSleepModel", "keptCopy", "(I)I"⟩, 23), (⟨"StartSleepModel", "isSaved", "()V"⟩, 23), (⟨"StartSleepModel", "sleep", "()V"⟩, 23), (⟨"StartSleepModel", "nextPart", "(II)I"⟩, 23)]
theorem lw_r2 : ∀ q ∈ lw_privs_2, lw_okq q := List.forall_mem_cons.mpr ⟨lw_p16, List.forall_mem_cons.mpr ⟨lw_p17, List.forall_mem_cons.mpr ⟨lw_p18, List.forall_mem_cons.mpr ⟨lw_p19, List.forall_mem_cons.mpr ⟨lw_p20, List.forall_mem_cons.mpr ⟨lw_p21, List.forall_mem_cons.mpr ⟨lw_p22, List.forall_mem_cons.mpr ⟨lw_p23, fun _ h => absurd h List.not_mem_nil⟩⟩⟩⟩⟩⟩⟩⟩
def lw_privs : List (MethodName × Nat) := lw_privs_1 ++ (lw_privs_2)
def lw_tbl : List Cond := k2_sels lw_privs ++ tables_1
theorem lw_privs_ok : ∀ q ∈ lw_privs, lw_okq q := by
  show ∀ q ∈ lw_privs_1 ++ (lw_privs_2), lw_okq q
  exact List.forall_mem_append.mpr ⟨lw_r1, lw_r2⟩
end
section
/-! ===== BEGIN words of one list among another's, by their places ===== -/
theorem goodIn_r {big : List Cond} (ws : List Cond) (ps : List Nat) (hp : ws = ps.filterMap (fun i => big[i]?)) (h : ws.all goodWord = true) : GoodIn big ws := by
  intro w hw
  have h1 := List.all_eq_true.mp h w hw
  rw [hp] at hw
  obtain ⟨i, -, hi⟩ := List.mem_filterMap.mp hw
  have hm : w ∈ big := by first | exact List.mem_of_getElem? hi | exact List.getElem?_mem hi
  exact ⟨hm, good_of_word h1⟩
theorem goodIn_app {big a b : List Cond} (ha : GoodIn big a) (hb : GoodIn big b) : GoodIn big (a ++ b) := fun w h => (List.mem_append.mp h).elim (ha w) (hb w)
theorem goodIn_ca {big a b : List Cond} {c : Cond} (ha : GoodIn big (c :: a)) (hb : GoodIn big b) : GoodIn big (c :: (a ++ b)) := fun w h => (List.mem_cons.mp h).elim (fun e => ha w (List.mem_cons.mpr (Or.inl e))) (fun h => (List.mem_append.mp h).elim (fun h => ha w (List.mem_cons.mpr (Or.inr h))) (hb w))
theorem goodIn_sub {big ws : List Cond} (hm : ∀ w ∈ ws, w ∈ big) (h : ws.all goodWord = true) : GoodIn big ws := fun w hw => ⟨hm w hw, good_of_word (List.all_eq_true.mp h w hw)⟩
/-! ===== END ===== -/

def vx_no (w : Cond) : Bool := decide (w ≠ .isRef (.static Bundle.tN "UNASSIGNED_STACK" Bundle.steD)) && decide (w ≠ .isRef (.static Bundle.tN "SUPPRESSED_SENTINEL" Bundle.listD)) && decide (w ≠ .laysStatic Bundle.tN "UNASSIGNED_STACK" Bundle.steD) && decide (w ≠ .laysStatic Bundle.tN "SUPPRESSED_SENTINEL" Bundle.listD)
def vx_at0 (own : String) (ic : Nat) (X : String) (names : List String) : List Cond := (Bundle.ownAtoms0 own ic X names).filter vx_no
def vx_atS (own : String) (ic : Nat) (X : String) (names : List String) : List Cond := (Bundle.ownAtoms own ic X names).filter vx_no
def vx_atM (X : String) (names : List String) : List Cond := (Bundle.messageArmAtoms X names).filter vx_no
end
section
/-! ===== BEGIN printed: names, fields, word lists, decode rows ===== -/
def RX0 : String := "StartSleep$Blocks"
def TX0 : u_T := fun k => match k with
  | 0 => ("StartSleep$Blocks", "working", "[B", true)
  | 1 => ("StartSleep$Blocks", "copies", "[[B", true)
  | 2 => ("StartSleep$Blocks", "versions", "[[I", true)
  | _ => ("StartSleep$Blocks", "changed", "[Z", true)
def tyX0 : Nat → FieldType := fun k => match k with
  | 0 => .array .byte
  | 1 => .array (.array .byte)
  | 2 => .array (.array .int)
  | _ => .array .boolean
abbrev wsX00 : List Cond := u_ws RX0 TX0 4
theorem nmX0 : ∀ a, a < 4 → ∀ b, b < 4 → a ≠ b → (TX0 a).2.1 ≠ (TX0 b).2.1 := by decide +kernel
theorem tyX0_ok : ∀ k, k < 4 → parseFieldDescriptor (TX0 k).2.2.1 = some (tyX0 k) := by decide +kernel
abbrev cX0_init : ByteArray := prog_2_method_1_code
def yX0_init : MethodName := ⟨RX0, "<init>", "()V"⟩
abbrev cX0_has : ByteArray := prog_2_method_2_code
def yX0_has : MethodName := ⟨RX0, "has", "(I)Z"⟩
abbrev cX0_hasOctet : ByteArray := prog_2_method_3_code
def yX0_hasOctet : MethodName := ⟨RX0, "hasOctet", "(I)Z"⟩
abbrev cX0_isChanged : ByteArray := prog_2_method_4_code
def yX0_isChanged : MethodName := ⟨RX0, "isChanged", "(I)Z"⟩
abbrev cX0_howManyChanged : ByteArray := prog_2_method_5_code
def yX0_howManyChanged : MethodName := ⟨RX0, "howManyChanged", "()I"⟩
abbrev cX0_firstChanged : ByteArray := prog_2_method_6_code
def yX0_firstChanged : MethodName := ⟨RX0, "firstChanged", "()I"⟩
abbrev cX0_put : ByteArray := prog_2_method_7_code
def yX0_put : MethodName := ⟨RX0, "put", "(IIB)V"⟩
abbrev cX0_keptOctet : ByteArray := prog_2_method_8_code
def yX0_keptOctet : MethodName := ⟨RX0, "keptOctet", "(II)B"⟩
abbrev cX0_tear : ByteArray := prog_2_method_9_code
def yX0_tear : MethodName := ⟨RX0, "tear", "(I)V"⟩
abbrev cX0_save : ByteArray := prog_2_method_10_code
def yX0_save : MethodName := ⟨RX0, "save", "(I)V"⟩
abbrev cX0_load : ByteArray := prog_2_method_11_code
def yX0_load : MethodName := ⟨RX0, "load", "()V"⟩
abbrev cX0_keptCopy : ByteArray := prog_2_method_12_code
def yX0_keptCopy : MethodName := ⟨RX0, "keptCopy", "(I)I"⟩
def RX1 : String := "StartSleep$Parts"
def TX1 : u_T := fun k => match k with
  | 0 => ("StartSleep$Parts", "told", "[Z", true)
  | 1 => ("StartSleep$Parts", "places", "[I", true)
  | 2 => ("StartSleep$Parts", "failing", "[Z", true)
  | 3 => ("StartSleep$Parts", "count", "I", false)
  | 4 => ("StartSleep$Parts", "things", "[I", true)
  | _ => ("StartSleep$Parts", "thingCount", "I", false)
def tyX1 : Nat → FieldType := fun k => match k with
  | 0 => .array .boolean
  | 1 => .array .int
  | 2 => .array .boolean
  | 3 => .int
  | 4 => .array .int
  | _ => .int
abbrev wsX10 : List Cond := u_ws RX1 TX1 6
theorem nmX1 : ∀ a, a < 6 → ∀ b, b < 6 → a ≠ b → (TX1 a).2.1 ≠ (TX1 b).2.1 := by decide +kernel
theorem tyX1_ok : ∀ k, k < 6 → parseFieldDescriptor (TX1 k).2.2.1 = some (tyX1 k) := by decide +kernel
abbrev cX1_init : ByteArray := prog_3_method_1_code
def yX1_init : MethodName := ⟨RX1, "<init>", "()V"⟩
abbrev cX1_has : ByteArray := prog_3_method_2_code
def yX1_has : MethodName := ⟨RX1, "has", "(I)Z"⟩
abbrev cX1_howMany : ByteArray := prog_3_method_3_code
def yX1_howMany : MethodName := ⟨RX1, "howMany", "()I"⟩
abbrev cX1_tell : ByteArray := prog_3_method_4_code
def yX1_tell : MethodName := ⟨RX1, "tell", "(IIZ)V"⟩
abbrev cX1_beginAll : ByteArray := prog_3_method_5_code
def yX1_beginAll : MethodName := ⟨RX1, "beginAll", "()Z"⟩
abbrev cX1_thing : ByteArray := prog_3_method_6_code
def yX1_thing : MethodName := ⟨RX1, "thing", "(I)I"⟩
abbrev cX1_placeBehind : ByteArray := prog_3_method_7_code
def yX1_placeBehind : MethodName := ⟨RX1, "placeBehind", "(I)I"⟩
abbrev cX1_endThoseBeforeTheLast : ByteArray := prog_3_method_8_code
def yX1_endThoseBeforeTheLast : MethodName := ⟨RX1, "endThoseBeforeTheLast", "()V"⟩
abbrev cX1_note : ByteArray := prog_3_method_9_code
def yX1_note : MethodName := ⟨RX1, "note", "(I)V"⟩
def RX2 : String := "StartSleep$Users"
def TX2 : u_T := fun k => match k with
  | 0 => ("StartSleep$Users", "requests", "[Z", true)
  | _ => ("StartSleep$Users", "requesting", "I", false)
def tyX2 : Nat → FieldType := fun k => match k with
  | 0 => .array .boolean
  | _ => .int
abbrev wsX20 : List Cond := u_ws RX2 TX2 2
theorem nmX2 : ∀ a, a < 2 → ∀ b, b < 2 → a ≠ b → (TX2 a).2.1 ≠ (TX2 b).2.1 := by decide +kernel
theorem tyX2_ok : ∀ k, k < 2 → parseFieldDescriptor (TX2 k).2.2.1 = some (tyX2 k) := by decide +kernel
abbrev cX2_init : ByteArray := prog_4_method_1_code
def yX2_init : MethodName := ⟨RX2, "<init>", "()V"⟩
abbrev cX2_has : ByteArray := prog_4_method_2_code
def yX2_has : MethodName := ⟨RX2, "has", "(I)Z"⟩
abbrev cX2_howMany : ByteArray := prog_4_method_3_code
def yX2_howMany : MethodName := ⟨RX2, "howMany", "()I"⟩
abbrev cX2_set : ByteArray := prog_4_method_4_code
def yX2_set : MethodName := ⟨RX2, "set", "(IZ)Z"⟩
abbrev cX2_clear : ByteArray := prog_4_method_5_code
def yX2_clear : MethodName := ⟨RX2, "clear", "()V"⟩
def RX3 : String := "StartSleep"
def TX3 : u_T := fun k => match k with
  | 0 => ("StartSleep", "users", "LStartSleep$Users;", true)
  | 1 => ("StartSleep", "blocks", "LStartSleep$Blocks;", true)
  | 2 => ("StartSleep", "parts", "LStartSleep$Parts;", true)
  | 3 => ("StartSleep", "mode", "I", false)
  | 4 => ("StartSleep", "now", "J", false)
  | 5 => ("StartSleep", "due", "J", false)
  | 6 => ("StartSleep", "blockInSaving", "I", false)
  | 7 => ("StartSleep", "bankThatRuns", "I", false)
  | 8 => ("StartSleep", "bankToRun", "I", false)
  | 9 => ("StartSleep", "startings", "J", false)
  | 10 => ("StartSleep", "sleeps", "J", false)
  | 11 => ("StartSleep", "checks", "J", false)
  | 12 => ("StartSleep", "cuts", "J", false)
  | _ => ("StartSleep", "lastStarting", "J", false)
def tyX3 : Nat → FieldType := fun k => match k with
  | 0 => .object "StartSleep$Users"
  | 1 => .object "StartSleep$Blocks"
  | 2 => .object "StartSleep$Parts"
  | 3 => .int
  | 4 => .long
  | 5 => .long
  | 6 => .int
  | 7 => .int
  | 8 => .int
  | 9 => .long
  | 10 => .long
  | 11 => .long
  | 12 => .long
  | _ => .long
abbrev wsX30 : List Cond := u_ws RX3 TX3 14
theorem nmX3 : ∀ a, a < 14 → ∀ b, b < 14 → a ≠ b → (TX3 a).2.1 ≠ (TX3 b).2.1 := by decide +kernel
theorem tyX3_ok : ∀ k, k < 14 → parseFieldDescriptor (TX3 k).2.2.1 = some (tyX3 k) := by decide +kernel
abbrev cX3_init : ByteArray := prog_1_method_1_code
def yX3_init : MethodName := ⟨RX3, "<init>", "()V"⟩
abbrev cX3_user : ByteArray := prog_1_method_2_code
def yX3_user : MethodName := ⟨RX3, "user", "()I"⟩
abbrev cX3_request : ByteArray := prog_1_method_3_code
def yX3_request : MethodName := ⟨RX3, "request", "(IZ)I"⟩
abbrev cX3_wake : ByteArray := prog_1_method_4_code
def yX3_wake : MethodName := ⟨RX3, "wake", "(IZ)I"⟩
abbrev cX3_step : ByteArray := prog_1_method_5_code
def yX3_step : MethodName := ⟨RX3, "step", "(J)I"⟩
abbrev cX3_init_ : ByteArray := prog_1_method_6_code
def yX3_init_ : MethodName := ⟨RX3, "init", "(IIZ)I"⟩
abbrev cX3_block : ByteArray := prog_1_method_7_code
def yX3_block : MethodName := ⟨RX3, "block", "(I)I"⟩
abbrev cX3_write : ByteArray := prog_1_method_8_code
def yX3_write : MethodName := ⟨RX3, "write", "(IIB)I"⟩
abbrev cX3_cut : ByteArray := prog_1_method_9_code
def yX3_cut : MethodName := ⟨RX3, "cut", "(J)I"⟩
abbrev cX3_start : ByteArray := prog_1_method_10_code
def yX3_start : MethodName := ⟨RX3, "start", "()I"⟩
abbrev cX3_kept : ByteArray := prog_1_method_11_code
def yX3_kept : MethodName := ⟨RX3, "kept", "(II)B"⟩
abbrev cX3_bank : ByteArray := prog_1_method_12_code
def yX3_bank : MethodName := ⟨RX3, "bank", "(Z)I"⟩
abbrev cX3_time : ByteArray := prog_1_method_13_code
def yX3_time : MethodName := ⟨RX3, "time", "(I)J"⟩
abbrev cX3_order : ByteArray := prog_1_method_14_code
def yX3_order : MethodName := ⟨RX3, "order", "(I)I"⟩
abbrev cX3_canAdvance : ByteArray := prog_1_method_15_code
def yX3_canAdvance : MethodName := ⟨RX3, "canAdvance", "(J)Z"⟩
abbrev cX3_advance : ByteArray := prog_1_method_16_code
def yX3_advance : MethodName := ⟨RX3, "advance", "(J)V"⟩
abbrev cX3_happen : ByteArray := prog_1_method_17_code
def yX3_happen : MethodName := ⟨RX3, "happen", "()V"⟩
abbrev cX3_saveNextOrSleep : ByteArray := prog_1_method_18_code
def yX3_saveNextOrSleep : MethodName := ⟨RX3, "saveNextOrSleep", "()V"⟩
abbrev cX3_endSaving : ByteArray := prog_1_method_19_code
def yX3_endSaving : MethodName := ⟨RX3, "endSaving", "()V"⟩
abbrev cX3_run : ByteArray := prog_1_method_20_code
def yX3_run : MethodName := ⟨RX3, "run", "()V"⟩
abbrev cX3_awaitIdleness : ByteArray := prog_1_method_21_code
def yX3_awaitIdleness : MethodName := ⟨RX3, "awaitIdleness", "()V"⟩
abbrev cX3_sleep : ByteArray := prog_1_method_22_code
def yX3_sleep : MethodName := ⟨RX3, "sleep", "()V"⟩
abbrev cX3_check : ByteArray := prog_1_method_23_code
def yX3_check : MethodName := ⟨RX3, "check", "()V"⟩
abbrev cX3_enter : ByteArray := prog_1_method_24_code
def yX3_enter : MethodName := ⟨RX3, "enter", "(IJ)V"⟩
def RX4 : String := "StartSleepModel"
def TX4 : u_T := fun k => match k with
  | 0 => ("StartSleepModel", "thrown", "I", false)
  | 1 => ("StartSleepModel", "time", "J", false)
  | 2 => ("StartSleepModel", "mode", "I", false)
  | 3 => ("StartSleepModel", "working", "[B", true)
  | 4 => ("StartSleepModel", "copies", "[B", true)
  | 5 => ("StartSleepModel", "versions", "[I", true)
  | 6 => ("StartSleepModel", "changed", "[Z", true)
  | 7 => ("StartSleepModel", "requests", "[Z", true)
  | 8 => ("StartSleepModel", "quiet", "J", false)
  | 9 => ("StartSleepModel", "began", "J", false)
  | 10 => ("StartSleepModel", "saved", "I", false)
  | 11 => ("StartSleepModel", "told", "[Z", true)
  | 12 => ("StartSleepModel", "orders", "[I", true)
  | 13 => ("StartSleepModel", "fails", "[Z", true)
  | 14 => ("StartSleepModel", "things", "[I", true)
  | 15 => ("StartSleepModel", "many", "I", false)
  | 16 => ("StartSleepModel", "toRun", "I", false)
  | 17 => ("StartSleepModel", "runs", "I", false)
  | 18 => ("StartSleepModel", "starts", "J", false)
  | 19 => ("StartSleepModel", "sleeps", "J", false)
  | 20 => ("StartSleepModel", "checks", "J", false)
  | 21 => ("StartSleepModel", "cuts", "J", false)
  | _ => ("StartSleepModel", "lastStart", "J", false)
def tyX4 : Nat → FieldType := fun k => match k with
  | 0 => .int
  | 1 => .long
  | 2 => .int
  | 3 => .array .byte
  | 4 => .array .byte
  | 5 => .array .int
  | 6 => .array .boolean
  | 7 => .array .boolean
  | 8 => .long
  | 9 => .long
  | 10 => .int
  | 11 => .array .boolean
  | 12 => .array .int
  | 13 => .array .boolean
  | 14 => .array .int
  | 15 => .int
  | 16 => .int
  | 17 => .int
  | 18 => .long
  | 19 => .long
  | 20 => .long
  | 21 => .long
  | _ => .long
abbrev wsX40 : List Cond := u_ws RX4 TX4 23
theorem nmX4 : ∀ a, a < 23 → ∀ b, b < 23 → a ≠ b → (TX4 a).2.1 ≠ (TX4 b).2.1 := by decide +kernel
theorem tyX4_ok : ∀ k, k < 23 → parseFieldDescriptor (TX4 k).2.2.1 = some (tyX4 k) := by decide +kernel
abbrev cX4_init : ByteArray := prog_6_method_1_code
def yX4_init : MethodName := ⟨RX4, "<init>", "()V"⟩
abbrev cX4_thrown : ByteArray := prog_6_method_2_code
def yX4_thrown : MethodName := ⟨RX4, "thrown", "()I"⟩
abbrev cX4_user : ByteArray := prog_6_method_3_code
def yX4_user : MethodName := ⟨RX4, "user", "()I"⟩
abbrev cX4_request : ByteArray := prog_6_method_4_code
def yX4_request : MethodName := ⟨RX4, "request", "(IZ)I"⟩
abbrev cX4_run : ByteArray := prog_6_method_5_code
def yX4_run : MethodName := ⟨RX4, "run", "()V"⟩
abbrev cX4_sleep : ByteArray := prog_6_method_6_code
def yX4_sleep : MethodName := ⟨RX4, "sleep", "()V"⟩
abbrev cX4_wake : ByteArray := prog_6_method_7_code
def yX4_wake : MethodName := ⟨RX4, "wake", "(IZ)I"⟩
abbrev cX4_keptCopy : ByteArray := prog_6_method_8_code
def yX4_keptCopy : MethodName := ⟨RX4, "keptCopy", "(I)I"⟩
abbrev cX4_firstChanged : ByteArray := prog_6_method_9_code
def yX4_firstChanged : MethodName := ⟨RX4, "firstChanged", "()I"⟩
abbrev cX4_save : ByteArray := prog_6_method_10_code
def yX4_save : MethodName := ⟨RX4, "save", "()V"⟩
abbrev cX4_isSaved : ByteArray := prog_6_method_11_code
def yX4_isSaved : MethodName := ⟨RX4, "isSaved", "()V"⟩
abbrev cX4_due : ByteArray := prog_6_method_12_code
def yX4_due : MethodName := ⟨RX4, "due", "()J"⟩
abbrev cX4_goOn : ByteArray := prog_6_method_13_code
def yX4_goOn : MethodName := ⟨RX4, "goOn", "(J)V"⟩
abbrev cX4_step : ByteArray := prog_6_method_14_code
def yX4_step : MethodName := ⟨RX4, "step", "(J)I"⟩
abbrev cX4_init_ : ByteArray := prog_6_method_15_code
def yX4_init_ : MethodName := ⟨RX4, "init", "(IIZ)I"⟩
abbrev cX4_block : ByteArray := prog_6_method_16_code
def yX4_block : MethodName := ⟨RX4, "block", "(I)I"⟩
abbrev cX4_write : ByteArray := prog_6_method_17_code
def yX4_write : MethodName := ⟨RX4, "write", "(IIB)I"⟩
abbrev cX4_cut : ByteArray := prog_6_method_18_code
def yX4_cut : MethodName := ⟨RX4, "cut", "(J)I"⟩
abbrev cX4_nextPart : ByteArray := prog_6_method_19_code
def yX4_nextPart : MethodName := ⟨RX4, "nextPart", "(II)I"⟩
abbrev cX4_start : ByteArray := prog_6_method_20_code
def yX4_start : MethodName := ⟨RX4, "start", "()I"⟩
abbrev cX4_kept : ByteArray := prog_6_method_21_code
def yX4_kept : MethodName := ⟨RX4, "kept", "(II)B"⟩
abbrev cX4_bank : ByteArray := prog_6_method_22_code
def yX4_bank : MethodName := ⟨RX4, "bank", "(Z)I"⟩
abbrev cX4_time : ByteArray := prog_6_method_23_code
def yX4_time : MethodName := ⟨RX4, "time", "(I)J"⟩
abbrev cX4_order : ByteArray := prog_6_method_24_code
def yX4_order : MethodName := ⟨RX4, "order", "(I)I"⟩
def RJx00060 : String := "java/lang/ArrayIndexOutOfBoundsException"
def TJx00060 : u_T := fun k => match k with
  | 0 => ("java/lang/Throwable", "backtrace", "Ljava/lang/Object;", false)
  | 1 => ("java/lang/Throwable", "detailMessage", "Ljava/lang/String;", false)
  | 2 => ("java/lang/Throwable", "cause", "Ljava/lang/Throwable;", false)
  | 3 => ("java/lang/Throwable", "stackTrace", "[Ljava/lang/StackTraceElement;", false)
  | 4 => ("java/lang/Throwable", "depth", "I", false)
  | _ => ("java/lang/Throwable", "suppressedExceptions", "Ljava/util/List;", false)
def tyJx00060 : Nat → FieldType := fun k => match k with
  | 0 => .object "java/lang/Object"
  | 1 => .object "java/lang/String"
  | 2 => .object "java/lang/Throwable"
  | 3 => .array (.object "java/lang/StackTraceElement")
  | 4 => .int
  | _ => .object "java/util/List"
abbrev wsJx000600 : List Cond := u_ws RJx00060 TJx00060 6
theorem nmJx00060 : ∀ a, a < 6 → ∀ b, b < 6 → a ≠ b → (TJx00060 a).2.1 ≠ (TJx00060 b).2.1 := by decide +kernel
theorem tyJx00060_ok : ∀ k, k < 6 → parseFieldDescriptor (TJx00060 k).2.2.1 = some (tyJx00060 k) := by decide +kernel
abbrev cJx00060_init_a7421 : ByteArray := prog_7_method_2_code
def yJx00060_init_a7421 : MethodName := ⟨RJx00060, "<init>", "(Ljava/lang/String;)V"⟩
def RJ0 : String := "java/lang/String"
def TJ0 : u_T := fun k => match k with
  | 0 => ("java/lang/String", "value", "[B", true)
  | _ => ("java/lang/String", "coder", "B", true)
def tyJ0 : Nat → FieldType := fun k => match k with
  | 0 => .array .byte
  | _ => .byte
abbrev wsJ00 : List Cond := u_ws RJ0 TJ0 2
theorem nmJ0 : ∀ a, a < 2 → ∀ b, b < 2 → a ≠ b → (TJ0 a).2.1 ≠ (TJ0 b).2.1 := by decide +kernel
theorem tyJ0_ok : ∀ k, k < 2 → parseFieldDescriptor (TJ0 k).2.2.1 = some (tyJ0 k) := by decide +kernel
def RJ10 : String := "java/lang/System"
def TJ10 : u_T := fun k => match k with
  | _ => ("", "", "", false)
def tyJ10 : Nat → FieldType := fun k => match k with
  | _ => .int
abbrev wsJ100 : List Cond := u_ws RJ10 TJ10 0
theorem nmJ10 : ∀ a, a < 0 → ∀ b, b < 0 → a ≠ b → (TJ10 a).2.1 ≠ (TJ10 b).2.1 := by decide +kernel
theorem tyJ10_ok : ∀ k, k < 0 → parseFieldDescriptor (TJ10 k).2.2.1 = some (tyJ10 k) := by decide +kernel
def RL : String := "StartSleepLaw"
abbrev cL_kept : ByteArray := method_3_code
def yL_kept : MethodName := ⟨RL, "kept", "(LStartSleep;II[J)I"⟩
abbrev cL_law : ByteArray := code
def yL_law : MethodName := ⟨RL, "law", "([I)Z"⟩
def wsX0_init : List Cond := .code yX0_init cX0_init 1 none :: ([.methodLink RX0 3 objectInit, .instanceMethod objectInit, .code objectInit ⟨#[0xb1]⟩ 1 none, .arrayClass .byte, .fieldLink RX0 11 "StartSleep$Blocks" "working" "[B", .classLink RX0 15 "[[B", .fieldLink RX0 17 "StartSleep$Blocks" "copies" "[[B", .classLink RX0 20 "[[I", .arrayClass .int, .fieldLink RX0 22 "StartSleep$Blocks" "versions" "[[I", .arrayClass .boolean, .fieldLink RX0 25 "StartSleep$Blocks" "changed" "[Z"] ++ wsX00)
def wsX0_has : List Cond := .code yX0_has cX0_has 1 (some .boolean) :: ([])
def wsX0_hasOctet : List Cond := .code yX0_hasOctet cX0_hasOctet 1 (some .boolean) :: ([])
def wsX0_isChanged : List Cond := .code yX0_isChanged cX0_isChanged 2 (some .boolean) :: ([.fieldLink RX0 25 "StartSleep$Blocks" "changed" "[Z", .methodLink RX0 29 yX0_has, .static yX0_has, .initialized RX0, .code yX0_has cX0_has 1 (some .boolean)] ++ wsX00 ++ (vx_atM "java/lang/ArrayIndexOutOfBoundsException" ["java/lang/IndexOutOfBoundsException", "java/lang/RuntimeException", "java/lang/Exception"]).filter goodWord)
def wsX0_howManyChanged : List Cond := .code yX0_howManyChanged cX0_howManyChanged 3 (some .int) :: ([.fieldLink RX0 25 "StartSleep$Blocks" "changed" "[Z"] ++ wsX00 ++ (vx_atM "java/lang/ArrayIndexOutOfBoundsException" ["java/lang/IndexOutOfBoundsException", "java/lang/RuntimeException", "java/lang/Exception"]).filter goodWord)
def wsX0_firstChanged : List Cond := .code yX0_firstChanged cX0_firstChanged 2 (some .int) :: ([.fieldLink RX0 25 "StartSleep$Blocks" "changed" "[Z"] ++ wsX00 ++ (vx_atM "java/lang/ArrayIndexOutOfBoundsException" ["java/lang/IndexOutOfBoundsException", "java/lang/RuntimeException", "java/lang/Exception"]).filter goodWord)
def wsX0_put : List Cond := .code yX0_put cX0_put 4 none :: ([.fieldLink RX0 11 "StartSleep$Blocks" "working" "[B", .fieldLink RX0 25 "StartSleep$Blocks" "changed" "[Z", .methodLink RX0 29 yX0_has, .static yX0_has, .initialized RX0, .code yX0_has cX0_has 1 (some .boolean), .methodLink RX0 33 yX0_hasOctet, .static yX0_hasOctet, .code yX0_hasOctet cX0_hasOctet 1 (some .boolean)] ++ wsX00 ++ (vx_atM "java/lang/ArrayIndexOutOfBoundsException" ["java/lang/IndexOutOfBoundsException", "java/lang/RuntimeException", "java/lang/Exception"]).filter goodWord)
def wsX0_keptCopy : List Cond := .code yX0_keptCopy cX0_keptCopy 2 (some .int) :: ([.fieldLink RX0 22 "StartSleep$Blocks" "versions" "[[I"] ++ wsX00 ++ (vx_atM "java/lang/ArrayIndexOutOfBoundsException" ["java/lang/IndexOutOfBoundsException", "java/lang/RuntimeException", "java/lang/Exception"]).filter goodWord)
def wsX0_keptOctet : List Cond := .code yX0_keptOctet cX0_keptOctet 3 (some .byte) :: ([.fieldLink RX0 17 "StartSleep$Blocks" "copies" "[[B", .methodLink RX0 29 yX0_has, .static yX0_has, .initialized RX0, .code yX0_has cX0_has 1 (some .boolean), .methodLink RX0 33 yX0_hasOctet, .static yX0_hasOctet, .code yX0_hasOctet cX0_hasOctet 1 (some .boolean), .methodLink RX0 36 yX0_keptCopy, .instanceMethod yX0_keptCopy, .selects RX0 yX0_keptCopy yX0_keptCopy, .code yX0_keptCopy cX0_keptCopy 2 (some .int), .fieldLink RX0 22 "StartSleep$Blocks" "versions" "[[I"] ++ wsX00 ++ (vx_atM "java/lang/ArrayIndexOutOfBoundsException" ["java/lang/IndexOutOfBoundsException", "java/lang/RuntimeException", "java/lang/Exception"]).filter goodWord)
def wsX0_tear : List Cond := .code yX0_tear cX0_tear 2 none :: ([.fieldLink RX0 22 "StartSleep$Blocks" "versions" "[[I", .methodLink RX0 29 yX0_has, .static yX0_has, .initialized RX0, .code yX0_has cX0_has 1 (some .boolean), .methodLink RX0 36 yX0_keptCopy, .instanceMethod yX0_keptCopy, .selects RX0 yX0_keptCopy yX0_keptCopy, .code yX0_keptCopy cX0_keptCopy 2 (some .int)] ++ wsX00 ++ (vx_atM "java/lang/ArrayIndexOutOfBoundsException" ["java/lang/IndexOutOfBoundsException", "java/lang/RuntimeException", "java/lang/Exception"]).filter goodWord)
def wsX0_save : List Cond := .code yX0_save cX0_save 4 none :: ([.fieldLink RX0 11 "StartSleep$Blocks" "working" "[B", .fieldLink RX0 17 "StartSleep$Blocks" "copies" "[[B", .methodLink RX0 40 arraycopyName, .native arraycopyName, .static arraycopyName, .initialized "java/lang/System", .fieldLink RX0 22 "StartSleep$Blocks" "versions" "[[I", .fieldLink RX0 25 "StartSleep$Blocks" "changed" "[Z", .methodLink RX0 29 yX0_has, .static yX0_has, .initialized RX0, .code yX0_has cX0_has 1 (some .boolean), .methodLink RX0 36 yX0_keptCopy, .instanceMethod yX0_keptCopy, .selects RX0 yX0_keptCopy yX0_keptCopy, .code yX0_keptCopy cX0_keptCopy 2 (some .int)] ++ wsX00 ++ (vx_atM "java/lang/ArrayIndexOutOfBoundsException" ["java/lang/IndexOutOfBoundsException", "java/lang/RuntimeException", "java/lang/Exception"]).filter goodWord)
def wsX0_load : List Cond := .code yX0_load cX0_load 2 none :: ([.fieldLink RX0 17 "StartSleep$Blocks" "copies" "[[B", .fieldLink RX0 11 "StartSleep$Blocks" "working" "[B", .methodLink RX0 40 arraycopyName, .native arraycopyName, .static arraycopyName, .initialized "java/lang/System", .fieldLink RX0 25 "StartSleep$Blocks" "changed" "[Z", .methodLink RX0 36 yX0_keptCopy, .instanceMethod yX0_keptCopy, .selects RX0 yX0_keptCopy yX0_keptCopy, .initialized RX0, .code yX0_keptCopy cX0_keptCopy 2 (some .int), .fieldLink RX0 22 "StartSleep$Blocks" "versions" "[[I"] ++ wsX00 ++ (vx_atM "java/lang/ArrayIndexOutOfBoundsException" ["java/lang/IndexOutOfBoundsException", "java/lang/RuntimeException", "java/lang/Exception"]).filter goodWord)
def wsX1_init : List Cond := .code yX1_init cX1_init 1 none :: ([.methodLink RX1 3 objectInit, .instanceMethod objectInit, .code objectInit ⟨#[0xb1]⟩ 1 none, .arrayClass .boolean, .fieldLink RX1 9 "StartSleep$Parts" "told" "[Z", .arrayClass .int, .fieldLink RX1 13 "StartSleep$Parts" "places" "[I", .fieldLink RX1 17 "StartSleep$Parts" "failing" "[Z", .fieldLink RX1 20 "StartSleep$Parts" "things" "[I"] ++ wsX10)
def wsX1_has : List Cond := .code yX1_has cX1_has 1 (some .boolean) :: ([])
def wsX1_howMany : List Cond := .code yX1_howMany cX1_howMany 1 (some .int) :: ([.fieldLink RX1 23 "StartSleep$Parts" "count" "I"] ++ wsX10)
def wsX1_tell : List Cond := .code yX1_tell cX1_tell 4 none :: ([.fieldLink RX1 9 "StartSleep$Parts" "told" "[Z", .fieldLink RX1 23 "StartSleep$Parts" "count" "I", .fieldLink RX1 13 "StartSleep$Parts" "places" "[I", .fieldLink RX1 17 "StartSleep$Parts" "failing" "[Z", .methodLink RX1 27 yX1_has, .static yX1_has, .initialized RX1, .code yX1_has cX1_has 1 (some .boolean)] ++ wsX10 ++ (vx_atM "java/lang/ArrayIndexOutOfBoundsException" ["java/lang/IndexOutOfBoundsException", "java/lang/RuntimeException", "java/lang/Exception"]).filter goodWord)
def wsX1_placeBehind : List Cond := .code yX1_placeBehind cX1_placeBehind 4 (some .int) :: ([.fieldLink RX1 9 "StartSleep$Parts" "told" "[Z", .fieldLink RX1 13 "StartSleep$Parts" "places" "[I"] ++ wsX10 ++ (vx_atM "java/lang/ArrayIndexOutOfBoundsException" ["java/lang/IndexOutOfBoundsException", "java/lang/RuntimeException", "java/lang/Exception"]).filter goodWord)
def wsX1_note : List Cond := .code yX1_note cX1_note 2 none :: ([.fieldLink RX1 31 "StartSleep$Parts" "thingCount" "I", .fieldLink RX1 20 "StartSleep$Parts" "things" "[I"] ++ wsX10 ++ (vx_atM "java/lang/ArrayIndexOutOfBoundsException" ["java/lang/IndexOutOfBoundsException", "java/lang/RuntimeException", "java/lang/Exception"]).filter goodWord)
def wsX1_thing : List Cond := .code yX1_thing cX1_thing 2 (some .int) :: ([.fieldLink RX1 31 "StartSleep$Parts" "thingCount" "I", .fieldLink RX1 20 "StartSleep$Parts" "things" "[I"] ++ wsX10 ++ (vx_atM "java/lang/ArrayIndexOutOfBoundsException" ["java/lang/IndexOutOfBoundsException", "java/lang/RuntimeException", "java/lang/Exception"]).filter goodWord)
def wsX1_endThoseBeforeTheLast : List Cond := .code yX1_endThoseBeforeTheLast cX1_endThoseBeforeTheLast 2 none :: ([.fieldLink RX1 31 "StartSleep$Parts" "thingCount" "I", .methodLink RX1 45 yX1_thing, .instanceMethod yX1_thing, .selects RX1 yX1_thing yX1_thing, .initialized RX1, .code yX1_thing cX1_thing 2 (some .int), .fieldLink RX1 20 "StartSleep$Parts" "things" "[I", .methodLink RX1 38 yX1_note, .instanceMethod yX1_note, .selects RX1 yX1_note yX1_note, .code yX1_note cX1_note 2 none] ++ wsX10 ++ (vx_atM "java/lang/ArrayIndexOutOfBoundsException" ["java/lang/IndexOutOfBoundsException", "java/lang/RuntimeException", "java/lang/Exception"]).filter goodWord)
def wsX1_beginAll_r1 : List Cond := [Cond.fieldLink RX1 31 "StartSleep$Parts" "thingCount" "I", Cond.fieldLink RX1 17 "StartSleep$Parts" "failing" "[Z", Cond.methodLink RX1 34 yX1_placeBehind, Cond.instanceMethod yX1_placeBehind, Cond.selects RX1 yX1_placeBehind yX1_placeBehind, Cond.initialized RX1, Cond.code yX1_placeBehind cX1_placeBehind 4 (some .int), Cond.fieldLink RX1 9 "StartSleep$Parts" "told" "[Z", Cond.fieldLink RX1 13 "StartSleep$Parts" "places" "[I", Cond.methodLink RX1 38 yX1_note, Cond.instanceMethod yX1_note, Cond.selects RX1 yX1_note yX1_note, Cond.code yX1_note cX1_note 2 none, Cond.fieldLink RX1 20 "StartSleep$Parts" "things" "[I", Cond.methodLink RX1 27 yX1_has, Cond.static yX1_has, Cond.code yX1_has cX1_has 1 (some .boolean), Cond.methodLink RX1 42 yX1_endThoseBeforeTheLast, Cond.instanceMethod yX1_endThoseBeforeTheLast, Cond.selects RX1 yX1_endThoseBeforeTheLast yX1_endThoseBeforeTheLast, Cond.code yX1_endThoseBeforeTheLast cX1_endThoseBeforeTheLast 2 none, Cond.methodLink RX1 45 yX1_thing, Cond.instanceMethod yX1_thing, Cond.selects RX1 yX1_thing yX1_thing]
def wsX1_beginAll_r2 : List Cond := [Cond.code yX1_thing cX1_thing 2 (some .int)]
def wsX1_beginAll : List Cond := .code yX1_beginAll cX1_beginAll 4 (some .boolean) :: ((wsX1_beginAll_r1 ++ wsX1_beginAll_r2) ++ wsX10 ++ (vx_atM "java/lang/ArrayIndexOutOfBoundsException" ["java/lang/IndexOutOfBoundsException", "java/lang/RuntimeException", "java/lang/Exception"]).filter goodWord)
def wsX2_init : List Cond := .code yX2_init cX2_init 1 none :: ([.methodLink RX2 1 objectInit, .instanceMethod objectInit, .code objectInit ⟨#[0xb1]⟩ 1 none, .arrayClass .boolean, .fieldLink RX2 9 "StartSleep$Users" "requests" "[Z"] ++ wsX20)
def wsX2_has : List Cond := .code yX2_has cX2_has 1 (some .boolean) :: ([])
def wsX2_howMany : List Cond := .code yX2_howMany cX2_howMany 1 (some .int) :: ([.fieldLink RX2 13 "StartSleep$Users" "requesting" "I"] ++ wsX20)
def wsX2_set : List Cond := .code yX2_set cX2_set 3 (some .boolean) :: ([.fieldLink RX2 9 "StartSleep$Users" "requests" "[Z", .fieldLink RX2 13 "StartSleep$Users" "requesting" "I", .methodLink RX2 17 yX2_has, .static yX2_has, .initialized RX2, .code yX2_has cX2_has 1 (some .boolean)] ++ wsX20 ++ (vx_atM "java/lang/ArrayIndexOutOfBoundsException" ["java/lang/IndexOutOfBoundsException", "java/lang/RuntimeException", "java/lang/Exception"]).filter goodWord)
def wsX2_clear : List Cond := .code yX2_clear cX2_clear 2 none :: ([.fieldLink RX2 9 "StartSleep$Users" "requests" "[Z", .fieldLink RX2 13 "StartSleep$Users" "requesting" "I"] ++ wsX20 ++ (vx_atM "java/lang/ArrayIndexOutOfBoundsException" ["java/lang/IndexOutOfBoundsException", "java/lang/RuntimeException", "java/lang/Exception"]).filter goodWord)
def wsX3_init_r1 : List Cond := [Cond.methodLink RX3 1 objectInit, Cond.instanceMethod objectInit, Cond.code objectInit ⟨#[0xb1]⟩ 1 none, Cond.classLink RX3 7 RX2, Cond.instantiable RX2 2, Cond.initialized RX2, Cond.fieldLink RX3 10 "StartSleep" "users" "LStartSleep$Users;", Cond.classLink RX3 16 RX0, Cond.instantiable RX0 4, Cond.initialized RX0, Cond.fieldLink RX3 19 "StartSleep" "blocks" "LStartSleep$Blocks;", Cond.classLink RX3 23 RX1, Cond.instantiable RX1 6, Cond.initialized RX1, Cond.fieldLink RX3 26 "StartSleep" "parts" "LStartSleep$Parts;", Cond.fieldLink RX3 30 "StartSleep" "mode" "I", Cond.constantLong RX3 34 (-1), Cond.fieldLink RX3 36 "StartSleep" "due" "J", Cond.fieldLink RX3 40 "StartSleep" "blockInSaving" "I", Cond.methodLink RX3 9 yX2_init, Cond.instanceMethod yX2_init, Cond.code yX2_init cX2_init 1 none, Cond.methodLink RX2 1 objectInit, Cond.arrayClass .boolean]
def wsX3_init_r2 : List Cond := [Cond.fieldLink RX2 9 "StartSleep$Users" "requests" "[Z", Cond.methodLink RX3 18 yX0_init, Cond.instanceMethod yX0_init, Cond.code yX0_init cX0_init 1 none, Cond.methodLink RX0 3 objectInit, Cond.arrayClass .byte, Cond.fieldLink RX0 11 "StartSleep$Blocks" "working" "[B", Cond.classLink RX0 15 "[[B", Cond.fieldLink RX0 17 "StartSleep$Blocks" "copies" "[[B", Cond.classLink RX0 20 "[[I", Cond.arrayClass .int, Cond.fieldLink RX0 22 "StartSleep$Blocks" "versions" "[[I", Cond.fieldLink RX0 25 "StartSleep$Blocks" "changed" "[Z", Cond.methodLink RX3 25 yX1_init, Cond.instanceMethod yX1_init, Cond.code yX1_init cX1_init 1 none, Cond.methodLink RX1 3 objectInit, Cond.fieldLink RX1 9 "StartSleep$Parts" "told" "[Z", Cond.fieldLink RX1 13 "StartSleep$Parts" "places" "[I", Cond.fieldLink RX1 17 "StartSleep$Parts" "failing" "[Z", Cond.fieldLink RX1 20 "StartSleep$Parts" "things" "[I"]
def wsX3_init : List Cond := .code yX3_init cX3_init 1 none :: ((wsX3_init_r1 ++ wsX3_init_r2) ++ wsX20 ++ wsX30 ++ wsX00 ++ wsX10)
def wsX3_user : List Cond := .code yX3_user cX3_user 1 (some .int) :: ([.fieldLink RX3 10 "StartSleep" "users" "LStartSleep$Users;", .methodLink RX3 43 yX2_howMany, .instanceMethod yX2_howMany, .selects RX2 yX2_howMany yX2_howMany, .initialized RX2, .code yX2_howMany cX2_howMany 1 (some .int), .fieldLink RX2 13 "StartSleep$Users" "requesting" "I"] ++ wsX30 ++ wsX20)
def wsX3_awaitIdleness : List Cond := .code yX3_awaitIdleness cX3_awaitIdleness 1 none :: ([.fieldLink RX3 10 "StartSleep" "users" "LStartSleep$Users;", .fieldLink RX3 102 "StartSleep" "now" "J", .constantLong RX3 173 (100), .constantLong RX3 34 (-1), .fieldLink RX3 36 "StartSleep" "due" "J", .methodLink RX3 43 yX2_howMany, .instanceMethod yX2_howMany, .selects RX2 yX2_howMany yX2_howMany, .initialized RX2, .code yX2_howMany cX2_howMany 1 (some .int), .fieldLink RX2 13 "StartSleep$Users" "requesting" "I"] ++ wsX30 ++ wsX20)
def wsX3_request_r1 : List Cond := [Cond.fieldLink RX3 30 "StartSleep" "mode" "I", Cond.fieldLink RX3 10 "StartSleep" "users" "LStartSleep$Users;", Cond.methodLink RX3 47 yX2_has, Cond.static yX2_has, Cond.initialized RX2, Cond.code yX2_has cX2_has 1 (some .boolean), Cond.methodLink RX3 51 yX2_set, Cond.instanceMethod yX2_set, Cond.selects RX2 yX2_set yX2_set, Cond.code yX2_set cX2_set 3 (some .boolean), Cond.fieldLink RX2 9 "StartSleep$Users" "requests" "[Z", Cond.fieldLink RX2 13 "StartSleep$Users" "requesting" "I", Cond.methodLink RX2 17 yX2_has, Cond.methodLink RX3 55 yX3_awaitIdleness, Cond.instanceMethod yX3_awaitIdleness, Cond.selects RX3 yX3_awaitIdleness yX3_awaitIdleness, Cond.initialized RX3, Cond.code yX3_awaitIdleness cX3_awaitIdleness 1 none, Cond.fieldLink RX3 102 "StartSleep" "now" "J", Cond.constantLong RX3 173 (100), Cond.constantLong RX3 34 (-1), Cond.fieldLink RX3 36 "StartSleep" "due" "J", Cond.methodLink RX3 43 yX2_howMany, Cond.instanceMethod yX2_howMany]
def wsX3_request_r2 : List Cond := [Cond.selects RX2 yX2_howMany yX2_howMany, Cond.code yX2_howMany cX2_howMany 1 (some .int)]
def wsX3_request : List Cond := .code yX3_request cX3_request 4 (some .int) :: ((wsX3_request_r1 ++ wsX3_request_r2) ++ wsX30 ++ wsX20 ++ (vx_atM "java/lang/ArrayIndexOutOfBoundsException" ["java/lang/IndexOutOfBoundsException", "java/lang/RuntimeException", "java/lang/Exception"]).filter goodWord)
def wsX3_run : List Cond := .code yX3_run cX3_run 1 none :: ([.fieldLink RX3 30 "StartSleep" "mode" "I", .methodLink RX3 55 yX3_awaitIdleness, .instanceMethod yX3_awaitIdleness, .selects RX3 yX3_awaitIdleness yX3_awaitIdleness, .initialized RX3, .code yX3_awaitIdleness cX3_awaitIdleness 1 none, .fieldLink RX3 10 "StartSleep" "users" "LStartSleep$Users;", .fieldLink RX3 102 "StartSleep" "now" "J", .constantLong RX3 173 (100), .constantLong RX3 34 (-1), .fieldLink RX3 36 "StartSleep" "due" "J", .methodLink RX3 43 yX2_howMany, .instanceMethod yX2_howMany, .selects RX2 yX2_howMany yX2_howMany, .initialized RX2, .code yX2_howMany cX2_howMany 1 (some .int), .fieldLink RX2 13 "StartSleep$Users" "requesting" "I"] ++ wsX30 ++ wsX20)
def wsX3_enter : List Cond := .code yX3_enter cX3_enter 4 none :: ([.fieldLink RX3 30 "StartSleep" "mode" "I", .fieldLink RX3 36 "StartSleep" "due" "J"] ++ wsX30)
def wsX3_check : List Cond := .code yX3_check cX3_check 1 none :: ([.fieldLink RX3 138 "StartSleep" "checks" "J", .fieldLink RX3 102 "StartSleep" "now" "J", .constantLong RX3 175 (20), .methodLink RX3 92 yX3_enter, .instanceMethod yX3_enter, .selects RX3 yX3_enter yX3_enter, .initialized RX3, .code yX3_enter cX3_enter 4 none, .fieldLink RX3 30 "StartSleep" "mode" "I", .fieldLink RX3 36 "StartSleep" "due" "J"] ++ wsX30)
def wsX3_wake_r1 : List Cond := [Cond.fieldLink RX3 30 "StartSleep" "mode" "I", Cond.methodLink RX3 58 yX3_run, Cond.instanceMethod yX3_run, Cond.selects RX3 yX3_run yX3_run, Cond.initialized RX3, Cond.code yX3_run cX3_run 1 none, Cond.methodLink RX3 55 yX3_awaitIdleness, Cond.instanceMethod yX3_awaitIdleness, Cond.selects RX3 yX3_awaitIdleness yX3_awaitIdleness, Cond.code yX3_awaitIdleness cX3_awaitIdleness 1 none, Cond.fieldLink RX3 10 "StartSleep" "users" "LStartSleep$Users;", Cond.fieldLink RX3 102 "StartSleep" "now" "J", Cond.constantLong RX3 173 (100), Cond.constantLong RX3 34 (-1), Cond.fieldLink RX3 36 "StartSleep" "due" "J", Cond.methodLink RX3 43 yX2_howMany, Cond.instanceMethod yX2_howMany, Cond.selects RX2 yX2_howMany yX2_howMany, Cond.initialized RX2, Cond.code yX2_howMany cX2_howMany 1 (some .int), Cond.fieldLink RX2 13 "StartSleep$Users" "requesting" "I", Cond.methodLink RX3 61 yX3_check, Cond.instanceMethod yX3_check, Cond.selects RX3 yX3_check yX3_check]
def wsX3_wake_r2 : List Cond := [Cond.code yX3_check cX3_check 1 none, Cond.fieldLink RX3 138 "StartSleep" "checks" "J", Cond.constantLong RX3 175 (20), Cond.methodLink RX3 92 yX3_enter, Cond.instanceMethod yX3_enter, Cond.selects RX3 yX3_enter yX3_enter, Cond.code yX3_enter cX3_enter 4 none]
def wsX3_wake : List Cond := .code yX3_wake cX3_wake 3 (some .int) :: ((wsX3_wake_r1 ++ wsX3_wake_r2) ++ wsX30 ++ wsX20)
def wsX3_canAdvance : List Cond := .code yX3_canAdvance cX3_canAdvance 3 (some .boolean) :: ([.fieldLink RX3 102 "StartSleep" "now" "J", .constantLong RX3 147 (100000)] ++ wsX30)
def wsX3_sleep : List Cond := .code yX3_sleep cX3_sleep 1 none :: ([.fieldLink RX3 135 "StartSleep" "sleeps" "J", .constantLong RX3 34 (-1), .methodLink RX3 92 yX3_enter, .instanceMethod yX3_enter, .selects RX3 yX3_enter yX3_enter, .initialized RX3, .code yX3_enter cX3_enter 4 none, .fieldLink RX3 30 "StartSleep" "mode" "I", .fieldLink RX3 36 "StartSleep" "due" "J"] ++ wsX30)
def wsX3_saveNextOrSleep_r1 : List Cond := [Cond.fieldLink RX3 19 "StartSleep" "blocks" "LStartSleep$Blocks;", Cond.fieldLink RX3 40 "StartSleep" "blockInSaving" "I", Cond.fieldLink RX3 102 "StartSleep" "now" "J", Cond.constantLong RX3 168 (5), Cond.methodLink RX3 161 yX0_firstChanged, Cond.instanceMethod yX0_firstChanged, Cond.selects RX0 yX0_firstChanged yX0_firstChanged, Cond.initialized RX0, Cond.code yX0_firstChanged cX0_firstChanged 2 (some .int), Cond.fieldLink RX0 25 "StartSleep$Blocks" "changed" "[Z", Cond.methodLink RX3 158 yX3_sleep, Cond.instanceMethod yX3_sleep, Cond.selects RX3 yX3_sleep yX3_sleep, Cond.initialized RX3, Cond.code yX3_sleep cX3_sleep 1 none, Cond.fieldLink RX3 135 "StartSleep" "sleeps" "J", Cond.constantLong RX3 34 (-1), Cond.methodLink RX3 92 yX3_enter, Cond.instanceMethod yX3_enter, Cond.selects RX3 yX3_enter yX3_enter, Cond.code yX3_enter cX3_enter 4 none, Cond.fieldLink RX3 30 "StartSleep" "mode" "I", Cond.fieldLink RX3 36 "StartSleep" "due" "J", Cond.methodLink RX3 164 yX0_tear]
def wsX3_saveNextOrSleep_r2 : List Cond := [Cond.instanceMethod yX0_tear, Cond.selects RX0 yX0_tear yX0_tear, Cond.code yX0_tear cX0_tear 2 none, Cond.fieldLink RX0 22 "StartSleep$Blocks" "versions" "[[I", Cond.methodLink RX0 29 yX0_has, Cond.static yX0_has, Cond.code yX0_has cX0_has 1 (some .boolean), Cond.methodLink RX0 36 yX0_keptCopy, Cond.instanceMethod yX0_keptCopy, Cond.selects RX0 yX0_keptCopy yX0_keptCopy, Cond.code yX0_keptCopy cX0_keptCopy 2 (some .int)]
def wsX3_saveNextOrSleep : List Cond := .code yX3_saveNextOrSleep cX3_saveNextOrSleep 1 none :: ((wsX3_saveNextOrSleep_r1 ++ wsX3_saveNextOrSleep_r2) ++ wsX30 ++ wsX00 ++ (vx_atM "java/lang/ArrayIndexOutOfBoundsException" ["java/lang/IndexOutOfBoundsException", "java/lang/RuntimeException", "java/lang/Exception"]).filter goodWord)
def wsX3_endSaving_r1 : List Cond := [Cond.fieldLink RX3 19 "StartSleep" "blocks" "LStartSleep$Blocks;", Cond.fieldLink RX3 40 "StartSleep" "blockInSaving" "I", Cond.fieldLink RX3 10 "StartSleep" "users" "LStartSleep$Users;", Cond.methodLink RX3 170 yX0_save, Cond.instanceMethod yX0_save, Cond.selects RX0 yX0_save yX0_save, Cond.initialized RX0, Cond.code yX0_save cX0_save 4 none, Cond.fieldLink RX0 11 "StartSleep$Blocks" "working" "[B", Cond.fieldLink RX0 17 "StartSleep$Blocks" "copies" "[[B", Cond.methodLink RX0 40 arraycopyName, Cond.native arraycopyName, Cond.static arraycopyName, Cond.initialized "java/lang/System", Cond.fieldLink RX0 22 "StartSleep$Blocks" "versions" "[[I", Cond.fieldLink RX0 25 "StartSleep$Blocks" "changed" "[Z", Cond.methodLink RX0 29 yX0_has, Cond.static yX0_has, Cond.code yX0_has cX0_has 1 (some .boolean), Cond.methodLink RX0 36 yX0_keptCopy, Cond.instanceMethod yX0_keptCopy, Cond.selects RX0 yX0_keptCopy yX0_keptCopy, Cond.code yX0_keptCopy cX0_keptCopy 2 (some .int), Cond.methodLink RX3 43 yX2_howMany]
def wsX3_endSaving_r2 : List Cond := [Cond.instanceMethod yX2_howMany, Cond.selects RX2 yX2_howMany yX2_howMany, Cond.initialized RX2, Cond.code yX2_howMany cX2_howMany 1 (some .int), Cond.fieldLink RX2 13 "StartSleep$Users" "requesting" "I", Cond.methodLink RX3 58 yX3_run, Cond.instanceMethod yX3_run, Cond.selects RX3 yX3_run yX3_run, Cond.initialized RX3, Cond.code yX3_run cX3_run 1 none, Cond.fieldLink RX3 30 "StartSleep" "mode" "I", Cond.methodLink RX3 55 yX3_awaitIdleness, Cond.instanceMethod yX3_awaitIdleness, Cond.selects RX3 yX3_awaitIdleness yX3_awaitIdleness, Cond.code yX3_awaitIdleness cX3_awaitIdleness 1 none, Cond.fieldLink RX3 102 "StartSleep" "now" "J", Cond.constantLong RX3 173 (100), Cond.constantLong RX3 34 (-1), Cond.fieldLink RX3 36 "StartSleep" "due" "J", Cond.methodLink RX3 152 yX3_saveNextOrSleep, Cond.instanceMethod yX3_saveNextOrSleep, Cond.selects RX3 yX3_saveNextOrSleep yX3_saveNextOrSleep, Cond.code yX3_saveNextOrSleep cX3_saveNextOrSleep 1 none, Cond.constantLong RX3 168 (5)]
def wsX3_endSaving_r3 : List Cond := [Cond.methodLink RX3 161 yX0_firstChanged, Cond.instanceMethod yX0_firstChanged, Cond.selects RX0 yX0_firstChanged yX0_firstChanged, Cond.code yX0_firstChanged cX0_firstChanged 2 (some .int), Cond.methodLink RX3 158 yX3_sleep, Cond.instanceMethod yX3_sleep, Cond.selects RX3 yX3_sleep yX3_sleep, Cond.code yX3_sleep cX3_sleep 1 none, Cond.fieldLink RX3 135 "StartSleep" "sleeps" "J", Cond.methodLink RX3 92 yX3_enter, Cond.instanceMethod yX3_enter, Cond.selects RX3 yX3_enter yX3_enter, Cond.code yX3_enter cX3_enter 4 none, Cond.methodLink RX3 164 yX0_tear, Cond.instanceMethod yX0_tear, Cond.selects RX0 yX0_tear yX0_tear, Cond.code yX0_tear cX0_tear 2 none]
def wsX3_endSaving : List Cond := .code yX3_endSaving cX3_endSaving 1 none :: ((wsX3_endSaving_r1 ++ (wsX3_endSaving_r2 ++ wsX3_endSaving_r3)) ++ wsX30 ++ wsX00 ++ wsX20 ++ (vx_atM "java/lang/ArrayIndexOutOfBoundsException" ["java/lang/IndexOutOfBoundsException", "java/lang/RuntimeException", "java/lang/Exception"]).filter goodWord)
def wsX3_happen_r1 : List Cond := [Cond.fieldLink RX3 30 "StartSleep" "mode" "I", Cond.methodLink RX3 152 yX3_saveNextOrSleep, Cond.instanceMethod yX3_saveNextOrSleep, Cond.selects RX3 yX3_saveNextOrSleep yX3_saveNextOrSleep, Cond.initialized RX3, Cond.code yX3_saveNextOrSleep cX3_saveNextOrSleep 1 none, Cond.fieldLink RX3 19 "StartSleep" "blocks" "LStartSleep$Blocks;", Cond.fieldLink RX3 40 "StartSleep" "blockInSaving" "I", Cond.fieldLink RX3 102 "StartSleep" "now" "J", Cond.constantLong RX3 168 (5), Cond.methodLink RX3 161 yX0_firstChanged, Cond.instanceMethod yX0_firstChanged, Cond.selects RX0 yX0_firstChanged yX0_firstChanged, Cond.initialized RX0, Cond.code yX0_firstChanged cX0_firstChanged 2 (some .int), Cond.fieldLink RX0 25 "StartSleep$Blocks" "changed" "[Z", Cond.methodLink RX3 158 yX3_sleep, Cond.instanceMethod yX3_sleep, Cond.selects RX3 yX3_sleep yX3_sleep, Cond.code yX3_sleep cX3_sleep 1 none, Cond.fieldLink RX3 135 "StartSleep" "sleeps" "J", Cond.constantLong RX3 34 (-1), Cond.methodLink RX3 92 yX3_enter, Cond.instanceMethod yX3_enter]
def wsX3_happen_r2 : List Cond := [Cond.selects RX3 yX3_enter yX3_enter, Cond.code yX3_enter cX3_enter 4 none, Cond.fieldLink RX3 36 "StartSleep" "due" "J", Cond.methodLink RX3 164 yX0_tear, Cond.instanceMethod yX0_tear, Cond.selects RX0 yX0_tear yX0_tear, Cond.code yX0_tear cX0_tear 2 none, Cond.fieldLink RX0 22 "StartSleep$Blocks" "versions" "[[I", Cond.methodLink RX0 29 yX0_has, Cond.static yX0_has, Cond.code yX0_has cX0_has 1 (some .boolean), Cond.methodLink RX0 36 yX0_keptCopy, Cond.instanceMethod yX0_keptCopy, Cond.selects RX0 yX0_keptCopy yX0_keptCopy, Cond.code yX0_keptCopy cX0_keptCopy 2 (some .int), Cond.methodLink RX3 155 yX3_endSaving, Cond.instanceMethod yX3_endSaving, Cond.selects RX3 yX3_endSaving yX3_endSaving, Cond.code yX3_endSaving cX3_endSaving 1 none, Cond.fieldLink RX3 10 "StartSleep" "users" "LStartSleep$Users;", Cond.methodLink RX3 170 yX0_save, Cond.instanceMethod yX0_save, Cond.selects RX0 yX0_save yX0_save, Cond.code yX0_save cX0_save 4 none]
def wsX3_happen_r3 : List Cond := [Cond.fieldLink RX0 11 "StartSleep$Blocks" "working" "[B", Cond.fieldLink RX0 17 "StartSleep$Blocks" "copies" "[[B", Cond.methodLink RX0 40 arraycopyName, Cond.native arraycopyName, Cond.static arraycopyName, Cond.initialized "java/lang/System", Cond.methodLink RX3 43 yX2_howMany, Cond.instanceMethod yX2_howMany, Cond.selects RX2 yX2_howMany yX2_howMany, Cond.initialized RX2, Cond.code yX2_howMany cX2_howMany 1 (some .int), Cond.fieldLink RX2 13 "StartSleep$Users" "requesting" "I", Cond.methodLink RX3 58 yX3_run, Cond.instanceMethod yX3_run, Cond.selects RX3 yX3_run yX3_run, Cond.code yX3_run cX3_run 1 none, Cond.methodLink RX3 55 yX3_awaitIdleness, Cond.instanceMethod yX3_awaitIdleness, Cond.selects RX3 yX3_awaitIdleness yX3_awaitIdleness, Cond.code yX3_awaitIdleness cX3_awaitIdleness 1 none, Cond.constantLong RX3 173 (100)]
def wsX3_happen : List Cond := .code yX3_happen cX3_happen 1 none :: ((wsX3_happen_r1 ++ (wsX3_happen_r2 ++ wsX3_happen_r3)) ++ wsX30 ++ wsX00 ++ wsX20 ++ (vx_atM "java/lang/ArrayIndexOutOfBoundsException" ["java/lang/IndexOutOfBoundsException", "java/lang/RuntimeException", "java/lang/Exception"]).filter goodWord)
def wsX3_advance_r1 : List Cond := [Cond.fieldLink RX3 36 "StartSleep" "due" "J", Cond.constantLong RX3 34 (-1), Cond.fieldLink RX3 102 "StartSleep" "now" "J", Cond.methodLink RX3 149 yX3_happen, Cond.instanceMethod yX3_happen, Cond.selects RX3 yX3_happen yX3_happen, Cond.initialized RX3, Cond.code yX3_happen cX3_happen 1 none, Cond.fieldLink RX3 30 "StartSleep" "mode" "I", Cond.methodLink RX3 152 yX3_saveNextOrSleep, Cond.instanceMethod yX3_saveNextOrSleep, Cond.selects RX3 yX3_saveNextOrSleep yX3_saveNextOrSleep, Cond.code yX3_saveNextOrSleep cX3_saveNextOrSleep 1 none, Cond.fieldLink RX3 19 "StartSleep" "blocks" "LStartSleep$Blocks;", Cond.fieldLink RX3 40 "StartSleep" "blockInSaving" "I", Cond.constantLong RX3 168 (5), Cond.methodLink RX3 161 yX0_firstChanged, Cond.instanceMethod yX0_firstChanged, Cond.selects RX0 yX0_firstChanged yX0_firstChanged, Cond.initialized RX0, Cond.code yX0_firstChanged cX0_firstChanged 2 (some .int), Cond.fieldLink RX0 25 "StartSleep$Blocks" "changed" "[Z", Cond.methodLink RX3 158 yX3_sleep, Cond.instanceMethod yX3_sleep]
def wsX3_advance_r2 : List Cond := [Cond.selects RX3 yX3_sleep yX3_sleep, Cond.code yX3_sleep cX3_sleep 1 none, Cond.fieldLink RX3 135 "StartSleep" "sleeps" "J", Cond.methodLink RX3 92 yX3_enter, Cond.instanceMethod yX3_enter, Cond.selects RX3 yX3_enter yX3_enter, Cond.code yX3_enter cX3_enter 4 none, Cond.methodLink RX3 164 yX0_tear, Cond.instanceMethod yX0_tear, Cond.selects RX0 yX0_tear yX0_tear, Cond.code yX0_tear cX0_tear 2 none, Cond.fieldLink RX0 22 "StartSleep$Blocks" "versions" "[[I", Cond.methodLink RX0 29 yX0_has, Cond.static yX0_has, Cond.code yX0_has cX0_has 1 (some .boolean), Cond.methodLink RX0 36 yX0_keptCopy, Cond.instanceMethod yX0_keptCopy, Cond.selects RX0 yX0_keptCopy yX0_keptCopy, Cond.code yX0_keptCopy cX0_keptCopy 2 (some .int), Cond.methodLink RX3 155 yX3_endSaving, Cond.instanceMethod yX3_endSaving, Cond.selects RX3 yX3_endSaving yX3_endSaving, Cond.code yX3_endSaving cX3_endSaving 1 none, Cond.fieldLink RX3 10 "StartSleep" "users" "LStartSleep$Users;"]
def wsX3_advance_r3 : List Cond := [Cond.methodLink RX3 170 yX0_save, Cond.instanceMethod yX0_save, Cond.selects RX0 yX0_save yX0_save, Cond.code yX0_save cX0_save 4 none, Cond.fieldLink RX0 11 "StartSleep$Blocks" "working" "[B", Cond.fieldLink RX0 17 "StartSleep$Blocks" "copies" "[[B", Cond.methodLink RX0 40 arraycopyName, Cond.native arraycopyName, Cond.static arraycopyName, Cond.initialized "java/lang/System", Cond.methodLink RX3 43 yX2_howMany, Cond.instanceMethod yX2_howMany, Cond.selects RX2 yX2_howMany yX2_howMany, Cond.initialized RX2, Cond.code yX2_howMany cX2_howMany 1 (some .int), Cond.fieldLink RX2 13 "StartSleep$Users" "requesting" "I", Cond.methodLink RX3 58 yX3_run, Cond.instanceMethod yX3_run, Cond.selects RX3 yX3_run yX3_run, Cond.code yX3_run cX3_run 1 none, Cond.methodLink RX3 55 yX3_awaitIdleness, Cond.instanceMethod yX3_awaitIdleness, Cond.selects RX3 yX3_awaitIdleness yX3_awaitIdleness, Cond.code yX3_awaitIdleness cX3_awaitIdleness 1 none]
def wsX3_advance_r4 : List Cond := [Cond.constantLong RX3 173 (100)]
def wsX3_advance : List Cond := .code yX3_advance cX3_advance 4 none :: ((wsX3_advance_r1 ++ (wsX3_advance_r2 ++ (wsX3_advance_r3 ++ wsX3_advance_r4))) ++ wsX30 ++ wsX00 ++ wsX20 ++ (vx_atM "java/lang/ArrayIndexOutOfBoundsException" ["java/lang/IndexOutOfBoundsException", "java/lang/RuntimeException", "java/lang/Exception"]).filter goodWord)
def wsX3_step_r1 : List Cond := [Cond.fieldLink RX3 30 "StartSleep" "mode" "I", Cond.methodLink RX3 64 yX3_canAdvance, Cond.instanceMethod yX3_canAdvance, Cond.selects RX3 yX3_canAdvance yX3_canAdvance, Cond.initialized RX3, Cond.code yX3_canAdvance cX3_canAdvance 3 (some .boolean), Cond.fieldLink RX3 102 "StartSleep" "now" "J", Cond.constantLong RX3 147 (100000), Cond.methodLink RX3 68 yX3_advance, Cond.instanceMethod yX3_advance, Cond.selects RX3 yX3_advance yX3_advance, Cond.code yX3_advance cX3_advance 4 none, Cond.fieldLink RX3 36 "StartSleep" "due" "J", Cond.constantLong RX3 34 (-1), Cond.methodLink RX3 149 yX3_happen, Cond.instanceMethod yX3_happen, Cond.selects RX3 yX3_happen yX3_happen, Cond.code yX3_happen cX3_happen 1 none, Cond.methodLink RX3 152 yX3_saveNextOrSleep, Cond.instanceMethod yX3_saveNextOrSleep, Cond.selects RX3 yX3_saveNextOrSleep yX3_saveNextOrSleep, Cond.code yX3_saveNextOrSleep cX3_saveNextOrSleep 1 none, Cond.fieldLink RX3 19 "StartSleep" "blocks" "LStartSleep$Blocks;", Cond.fieldLink RX3 40 "StartSleep" "blockInSaving" "I"]
def wsX3_step_r2 : List Cond := [Cond.constantLong RX3 168 (5), Cond.methodLink RX3 161 yX0_firstChanged, Cond.instanceMethod yX0_firstChanged, Cond.selects RX0 yX0_firstChanged yX0_firstChanged, Cond.initialized RX0, Cond.code yX0_firstChanged cX0_firstChanged 2 (some .int), Cond.fieldLink RX0 25 "StartSleep$Blocks" "changed" "[Z", Cond.methodLink RX3 158 yX3_sleep, Cond.instanceMethod yX3_sleep, Cond.selects RX3 yX3_sleep yX3_sleep, Cond.code yX3_sleep cX3_sleep 1 none, Cond.fieldLink RX3 135 "StartSleep" "sleeps" "J", Cond.methodLink RX3 92 yX3_enter, Cond.instanceMethod yX3_enter, Cond.selects RX3 yX3_enter yX3_enter, Cond.code yX3_enter cX3_enter 4 none, Cond.methodLink RX3 164 yX0_tear, Cond.instanceMethod yX0_tear, Cond.selects RX0 yX0_tear yX0_tear, Cond.code yX0_tear cX0_tear 2 none, Cond.fieldLink RX0 22 "StartSleep$Blocks" "versions" "[[I", Cond.methodLink RX0 29 yX0_has, Cond.static yX0_has, Cond.code yX0_has cX0_has 1 (some .boolean)]
def wsX3_step_r3 : List Cond := [Cond.methodLink RX0 36 yX0_keptCopy, Cond.instanceMethod yX0_keptCopy, Cond.selects RX0 yX0_keptCopy yX0_keptCopy, Cond.code yX0_keptCopy cX0_keptCopy 2 (some .int), Cond.methodLink RX3 155 yX3_endSaving, Cond.instanceMethod yX3_endSaving, Cond.selects RX3 yX3_endSaving yX3_endSaving, Cond.code yX3_endSaving cX3_endSaving 1 none, Cond.fieldLink RX3 10 "StartSleep" "users" "LStartSleep$Users;", Cond.methodLink RX3 170 yX0_save, Cond.instanceMethod yX0_save, Cond.selects RX0 yX0_save yX0_save, Cond.code yX0_save cX0_save 4 none, Cond.fieldLink RX0 11 "StartSleep$Blocks" "working" "[B", Cond.fieldLink RX0 17 "StartSleep$Blocks" "copies" "[[B", Cond.methodLink RX0 40 arraycopyName, Cond.native arraycopyName, Cond.static arraycopyName, Cond.initialized "java/lang/System", Cond.methodLink RX3 43 yX2_howMany, Cond.instanceMethod yX2_howMany, Cond.selects RX2 yX2_howMany yX2_howMany, Cond.initialized RX2, Cond.code yX2_howMany cX2_howMany 1 (some .int)]
def wsX3_step_r4 : List Cond := [Cond.fieldLink RX2 13 "StartSleep$Users" "requesting" "I", Cond.methodLink RX3 58 yX3_run, Cond.instanceMethod yX3_run, Cond.selects RX3 yX3_run yX3_run, Cond.code yX3_run cX3_run 1 none, Cond.methodLink RX3 55 yX3_awaitIdleness, Cond.instanceMethod yX3_awaitIdleness, Cond.selects RX3 yX3_awaitIdleness yX3_awaitIdleness, Cond.code yX3_awaitIdleness cX3_awaitIdleness 1 none, Cond.constantLong RX3 173 (100)]
def wsX3_step : List Cond := .code yX3_step cX3_step 3 (some .int) :: ((wsX3_step_r1 ++ (wsX3_step_r2 ++ (wsX3_step_r3 ++ wsX3_step_r4))) ++ wsX30 ++ wsX00 ++ wsX20 ++ (vx_atM "java/lang/ArrayIndexOutOfBoundsException" ["java/lang/IndexOutOfBoundsException", "java/lang/RuntimeException", "java/lang/Exception"]).filter goodWord)
def wsX3_init_ : List Cond := .code yX3_init_ cX3_init_ 4 (some .int) :: ([.fieldLink RX3 30 "StartSleep" "mode" "I", .fieldLink RX3 26 "StartSleep" "parts" "LStartSleep$Parts;", .methodLink RX3 72 yX1_has, .static yX1_has, .initialized RX1, .code yX1_has cX1_has 1 (some .boolean), .methodLink RX3 73 yX1_tell, .instanceMethod yX1_tell, .selects RX1 yX1_tell yX1_tell, .code yX1_tell cX1_tell 4 none, .fieldLink RX1 9 "StartSleep$Parts" "told" "[Z", .fieldLink RX1 23 "StartSleep$Parts" "count" "I", .fieldLink RX1 13 "StartSleep$Parts" "places" "[I", .fieldLink RX1 17 "StartSleep$Parts" "failing" "[Z", .methodLink RX1 27 yX1_has, .methodLink RX3 77 yX1_howMany, .instanceMethod yX1_howMany, .selects RX1 yX1_howMany yX1_howMany, .code yX1_howMany cX1_howMany 1 (some .int)] ++ wsX30 ++ wsX10 ++ (vx_atM "java/lang/ArrayIndexOutOfBoundsException" ["java/lang/IndexOutOfBoundsException", "java/lang/RuntimeException", "java/lang/Exception"]).filter goodWord)
def wsX3_block : List Cond := .code yX3_block cX3_block 2 (some .int) :: ([.fieldLink RX3 19 "StartSleep" "blocks" "LStartSleep$Blocks;", .methodLink RX3 78 yX0_has, .static yX0_has, .initialized RX0, .code yX0_has cX0_has 1 (some .boolean), .methodLink RX3 79 yX0_isChanged, .instanceMethod yX0_isChanged, .selects RX0 yX0_isChanged yX0_isChanged, .code yX0_isChanged cX0_isChanged 2 (some .boolean), .fieldLink RX0 25 "StartSleep$Blocks" "changed" "[Z", .methodLink RX0 29 yX0_has] ++ wsX30 ++ wsX00 ++ (vx_atM "java/lang/ArrayIndexOutOfBoundsException" ["java/lang/IndexOutOfBoundsException", "java/lang/RuntimeException", "java/lang/Exception"]).filter goodWord)
def wsX3_write : List Cond := .code yX3_write cX3_write 4 (some .int) :: ([.fieldLink RX3 30 "StartSleep" "mode" "I", .fieldLink RX3 19 "StartSleep" "blocks" "LStartSleep$Blocks;", .methodLink RX3 78 yX0_has, .static yX0_has, .initialized RX0, .code yX0_has cX0_has 1 (some .boolean), .methodLink RX3 82 yX0_hasOctet, .static yX0_hasOctet, .code yX0_hasOctet cX0_hasOctet 1 (some .boolean), .methodLink RX3 85 yX0_put, .instanceMethod yX0_put, .selects RX0 yX0_put yX0_put, .code yX0_put cX0_put 4 none, .fieldLink RX0 11 "StartSleep$Blocks" "working" "[B", .fieldLink RX0 25 "StartSleep$Blocks" "changed" "[Z", .methodLink RX0 29 yX0_has, .methodLink RX0 33 yX0_hasOctet] ++ wsX30 ++ wsX00 ++ (vx_atM "java/lang/ArrayIndexOutOfBoundsException" ["java/lang/IndexOutOfBoundsException", "java/lang/RuntimeException", "java/lang/Exception"]).filter goodWord)
def wsX3_cut_r1 : List Cond := [Cond.fieldLink RX3 30 "StartSleep" "mode" "I", Cond.fieldLink RX3 89 "StartSleep" "cuts" "J", Cond.fieldLink RX3 40 "StartSleep" "blockInSaving" "I", Cond.constantLong RX3 34 (-1), Cond.fieldLink RX3 19 "StartSleep" "blocks" "LStartSleep$Blocks;", Cond.methodLink RX3 64 yX3_canAdvance, Cond.instanceMethod yX3_canAdvance, Cond.selects RX3 yX3_canAdvance yX3_canAdvance, Cond.initialized RX3, Cond.code yX3_canAdvance cX3_canAdvance 3 (some .boolean), Cond.fieldLink RX3 102 "StartSleep" "now" "J", Cond.constantLong RX3 147 (100000), Cond.methodLink RX3 68 yX3_advance, Cond.instanceMethod yX3_advance, Cond.selects RX3 yX3_advance yX3_advance, Cond.code yX3_advance cX3_advance 4 none, Cond.fieldLink RX3 36 "StartSleep" "due" "J", Cond.methodLink RX3 149 yX3_happen, Cond.instanceMethod yX3_happen, Cond.selects RX3 yX3_happen yX3_happen, Cond.code yX3_happen cX3_happen 1 none, Cond.methodLink RX3 152 yX3_saveNextOrSleep, Cond.instanceMethod yX3_saveNextOrSleep, Cond.selects RX3 yX3_saveNextOrSleep yX3_saveNextOrSleep]
def wsX3_cut_r2 : List Cond := [Cond.code yX3_saveNextOrSleep cX3_saveNextOrSleep 1 none, Cond.constantLong RX3 168 (5), Cond.methodLink RX3 161 yX0_firstChanged, Cond.instanceMethod yX0_firstChanged, Cond.selects RX0 yX0_firstChanged yX0_firstChanged, Cond.initialized RX0, Cond.code yX0_firstChanged cX0_firstChanged 2 (some .int), Cond.fieldLink RX0 25 "StartSleep$Blocks" "changed" "[Z", Cond.methodLink RX3 158 yX3_sleep, Cond.instanceMethod yX3_sleep, Cond.selects RX3 yX3_sleep yX3_sleep, Cond.code yX3_sleep cX3_sleep 1 none, Cond.fieldLink RX3 135 "StartSleep" "sleeps" "J", Cond.methodLink RX3 92 yX3_enter, Cond.instanceMethod yX3_enter, Cond.selects RX3 yX3_enter yX3_enter, Cond.code yX3_enter cX3_enter 4 none, Cond.methodLink RX3 164 yX0_tear, Cond.instanceMethod yX0_tear, Cond.selects RX0 yX0_tear yX0_tear, Cond.code yX0_tear cX0_tear 2 none, Cond.fieldLink RX0 22 "StartSleep$Blocks" "versions" "[[I", Cond.methodLink RX0 29 yX0_has, Cond.static yX0_has]
def wsX3_cut_r3 : List Cond := [Cond.code yX0_has cX0_has 1 (some .boolean), Cond.methodLink RX0 36 yX0_keptCopy, Cond.instanceMethod yX0_keptCopy, Cond.selects RX0 yX0_keptCopy yX0_keptCopy, Cond.code yX0_keptCopy cX0_keptCopy 2 (some .int), Cond.methodLink RX3 155 yX3_endSaving, Cond.instanceMethod yX3_endSaving, Cond.selects RX3 yX3_endSaving yX3_endSaving, Cond.code yX3_endSaving cX3_endSaving 1 none, Cond.fieldLink RX3 10 "StartSleep" "users" "LStartSleep$Users;", Cond.methodLink RX3 170 yX0_save, Cond.instanceMethod yX0_save, Cond.selects RX0 yX0_save yX0_save, Cond.code yX0_save cX0_save 4 none, Cond.fieldLink RX0 11 "StartSleep$Blocks" "working" "[B", Cond.fieldLink RX0 17 "StartSleep$Blocks" "copies" "[[B", Cond.methodLink RX0 40 arraycopyName, Cond.native arraycopyName, Cond.static arraycopyName, Cond.initialized "java/lang/System", Cond.methodLink RX3 43 yX2_howMany, Cond.instanceMethod yX2_howMany, Cond.selects RX2 yX2_howMany yX2_howMany, Cond.initialized RX2]
def wsX3_cut_r4 : List Cond := [Cond.code yX2_howMany cX2_howMany 1 (some .int), Cond.fieldLink RX2 13 "StartSleep$Users" "requesting" "I", Cond.methodLink RX3 58 yX3_run, Cond.instanceMethod yX3_run, Cond.selects RX3 yX3_run yX3_run, Cond.code yX3_run cX3_run 1 none, Cond.methodLink RX3 55 yX3_awaitIdleness, Cond.instanceMethod yX3_awaitIdleness, Cond.selects RX3 yX3_awaitIdleness yX3_awaitIdleness, Cond.code yX3_awaitIdleness cX3_awaitIdleness 1 none, Cond.constantLong RX3 173 (100), Cond.methodLink RX3 96 yX0_howManyChanged, Cond.instanceMethod yX0_howManyChanged, Cond.selects RX0 yX0_howManyChanged yX0_howManyChanged, Cond.code yX0_howManyChanged cX0_howManyChanged 3 (some .int)]
def wsX3_cut : List Cond := .code yX3_cut cX3_cut 3 (some .int) :: ((wsX3_cut_r1 ++ (wsX3_cut_r2 ++ (wsX3_cut_r3 ++ wsX3_cut_r4))) ++ wsX30 ++ wsX00 ++ wsX20 ++ (vx_atM "java/lang/ArrayIndexOutOfBoundsException" ["java/lang/IndexOutOfBoundsException", "java/lang/RuntimeException", "java/lang/Exception"]).filter goodWord)
def wsX3_start_r1 : List Cond := [Cond.fieldLink RX3 30 "StartSleep" "mode" "I", Cond.fieldLink RX3 99 "StartSleep" "startings" "J", Cond.fieldLink RX3 102 "StartSleep" "now" "J", Cond.fieldLink RX3 105 "StartSleep" "lastStarting" "J", Cond.fieldLink RX3 108 "StartSleep" "bankToRun" "I", Cond.fieldLink RX3 111 "StartSleep" "bankThatRuns" "I", Cond.fieldLink RX3 19 "StartSleep" "blocks" "LStartSleep$Blocks;", Cond.fieldLink RX3 10 "StartSleep" "users" "LStartSleep$Users;", Cond.fieldLink RX3 26 "StartSleep" "parts" "LStartSleep$Parts;", Cond.constantLong RX3 34 (-1), Cond.methodLink RX3 114 yX0_load, Cond.instanceMethod yX0_load, Cond.selects RX0 yX0_load yX0_load, Cond.initialized RX0, Cond.code yX0_load cX0_load 2 none, Cond.fieldLink RX0 17 "StartSleep$Blocks" "copies" "[[B", Cond.fieldLink RX0 11 "StartSleep$Blocks" "working" "[B", Cond.methodLink RX0 40 arraycopyName, Cond.native arraycopyName, Cond.static arraycopyName, Cond.initialized "java/lang/System", Cond.fieldLink RX0 25 "StartSleep$Blocks" "changed" "[Z", Cond.methodLink RX0 36 yX0_keptCopy, Cond.instanceMethod yX0_keptCopy]
def wsX3_start_r2 : List Cond := [Cond.selects RX0 yX0_keptCopy yX0_keptCopy, Cond.code yX0_keptCopy cX0_keptCopy 2 (some .int), Cond.fieldLink RX0 22 "StartSleep$Blocks" "versions" "[[I", Cond.methodLink RX3 117 yX2_clear, Cond.instanceMethod yX2_clear, Cond.selects RX2 yX2_clear yX2_clear, Cond.initialized RX2, Cond.code yX2_clear cX2_clear 2 none, Cond.fieldLink RX2 9 "StartSleep$Users" "requests" "[Z", Cond.fieldLink RX2 13 "StartSleep$Users" "requesting" "I", Cond.methodLink RX3 120 yX1_beginAll, Cond.instanceMethod yX1_beginAll, Cond.selects RX1 yX1_beginAll yX1_beginAll, Cond.initialized RX1, Cond.code yX1_beginAll cX1_beginAll 4 (some .boolean), Cond.fieldLink RX1 31 "StartSleep$Parts" "thingCount" "I", Cond.fieldLink RX1 17 "StartSleep$Parts" "failing" "[Z", Cond.methodLink RX1 34 yX1_placeBehind, Cond.instanceMethod yX1_placeBehind, Cond.selects RX1 yX1_placeBehind yX1_placeBehind, Cond.code yX1_placeBehind cX1_placeBehind 4 (some .int), Cond.fieldLink RX1 9 "StartSleep$Parts" "told" "[Z", Cond.fieldLink RX1 13 "StartSleep$Parts" "places" "[I", Cond.methodLink RX1 38 yX1_note]
def wsX3_start_r3 : List Cond := [Cond.instanceMethod yX1_note, Cond.selects RX1 yX1_note yX1_note, Cond.code yX1_note cX1_note 2 none, Cond.fieldLink RX1 20 "StartSleep$Parts" "things" "[I", Cond.methodLink RX1 27 yX1_has, Cond.static yX1_has, Cond.code yX1_has cX1_has 1 (some .boolean), Cond.methodLink RX1 42 yX1_endThoseBeforeTheLast, Cond.instanceMethod yX1_endThoseBeforeTheLast, Cond.selects RX1 yX1_endThoseBeforeTheLast yX1_endThoseBeforeTheLast, Cond.code yX1_endThoseBeforeTheLast cX1_endThoseBeforeTheLast 2 none, Cond.methodLink RX1 45 yX1_thing, Cond.instanceMethod yX1_thing, Cond.selects RX1 yX1_thing yX1_thing, Cond.code yX1_thing cX1_thing 2 (some .int), Cond.methodLink RX3 58 yX3_run, Cond.instanceMethod yX3_run, Cond.selects RX3 yX3_run yX3_run, Cond.initialized RX3, Cond.code yX3_run cX3_run 1 none, Cond.methodLink RX3 55 yX3_awaitIdleness, Cond.instanceMethod yX3_awaitIdleness, Cond.selects RX3 yX3_awaitIdleness yX3_awaitIdleness, Cond.code yX3_awaitIdleness cX3_awaitIdleness 1 none]
def wsX3_start_r4 : List Cond := [Cond.constantLong RX3 173 (100), Cond.fieldLink RX3 36 "StartSleep" "due" "J", Cond.methodLink RX3 43 yX2_howMany, Cond.instanceMethod yX2_howMany, Cond.selects RX2 yX2_howMany yX2_howMany, Cond.code yX2_howMany cX2_howMany 1 (some .int), Cond.methodLink RX3 92 yX3_enter, Cond.instanceMethod yX3_enter, Cond.selects RX3 yX3_enter yX3_enter, Cond.code yX3_enter cX3_enter 4 none]
def wsX3_start : List Cond := .code yX3_start cX3_start 1 (some .int) :: ((wsX3_start_r1 ++ (wsX3_start_r2 ++ (wsX3_start_r3 ++ wsX3_start_r4))) ++ wsX30 ++ wsX00 ++ wsX20 ++ wsX10 ++ (vx_atM "java/lang/ArrayIndexOutOfBoundsException" ["java/lang/IndexOutOfBoundsException", "java/lang/RuntimeException", "java/lang/Exception"]).filter goodWord)
def wsX3_kept : List Cond := .code yX3_kept cX3_kept 3 (some .byte) :: ([.classLink RX3 124 RJx00060, .instantiable RJx00060 6, .initialized RJx00060, .fieldLink RX3 19 "StartSleep" "blocks" "LStartSleep$Blocks;", .methodLink RX3 78 yX0_has, .static yX0_has, .initialized RX0, .code yX0_has cX0_has 1 (some .boolean), .methodLink RX3 82 yX0_hasOctet, .static yX0_hasOctet, .code yX0_hasOctet cX0_hasOctet 1 (some .boolean), .methodLink RX3 131 yX0_keptOctet, .instanceMethod yX0_keptOctet, .selects RX0 yX0_keptOctet yX0_keptOctet, .code yX0_keptOctet cX0_keptOctet 3 (some .byte), .fieldLink RX0 17 "StartSleep$Blocks" "copies" "[[B", .methodLink RX0 29 yX0_has, .methodLink RX0 33 yX0_hasOctet, .methodLink RX0 36 yX0_keptCopy, .instanceMethod yX0_keptCopy, .selects RX0 yX0_keptCopy yX0_keptCopy, .code yX0_keptCopy cX0_keptCopy 2 (some .int), .fieldLink RX0 22 "StartSleep$Blocks" "versions" "[[I"] ++ wsJx000600 ++ wsX30 ++ wsX00 ++ (vx_atM "java/lang/ArrayIndexOutOfBoundsException" ["java/lang/IndexOutOfBoundsException", "java/lang/RuntimeException", "java/lang/Exception"]).filter goodWord)
def wsX3_bank : List Cond := .code yX3_bank cX3_bank 2 (some .int) :: ([.fieldLink RX3 108 "StartSleep" "bankToRun" "I"] ++ wsX30)
def wsX3_time : List Cond := .code yX3_time cX3_time 2 (some .long) :: ([.fieldLink RX3 102 "StartSleep" "now" "J", .fieldLink RX3 99 "StartSleep" "startings" "J", .fieldLink RX3 135 "StartSleep" "sleeps" "J", .fieldLink RX3 138 "StartSleep" "checks" "J", .fieldLink RX3 89 "StartSleep" "cuts" "J", .fieldLink RX3 105 "StartSleep" "lastStarting" "J", .fieldLink RX3 111 "StartSleep" "bankThatRuns" "I", .constantLong RX3 141 (-2)] ++ wsX30)
def wsX3_order : List Cond := .code yX3_order cX3_order 2 (some .int) :: ([.fieldLink RX3 26 "StartSleep" "parts" "LStartSleep$Parts;", .methodLink RX3 143 yX1_thing, .instanceMethod yX1_thing, .selects RX1 yX1_thing yX1_thing, .initialized RX1, .code yX1_thing cX1_thing 2 (some .int), .fieldLink RX1 31 "StartSleep$Parts" "thingCount" "I", .fieldLink RX1 20 "StartSleep$Parts" "things" "[I"] ++ wsX30 ++ wsX10 ++ (vx_atM "java/lang/ArrayIndexOutOfBoundsException" ["java/lang/IndexOutOfBoundsException", "java/lang/RuntimeException", "java/lang/Exception"]).filter goodWord)
def wsX4_init : List Cond := .code yX4_init cX4_init 1 none :: ([.methodLink RX4 1 objectInit, .instanceMethod objectInit, .code objectInit ⟨#[0xb1]⟩ 1 none, .arrayClass .byte, .fieldLink RX4 7 "StartSleepModel" "working" "[B", .fieldLink RX4 13 "StartSleepModel" "copies" "[B", .arrayClass .int, .fieldLink RX4 16 "StartSleepModel" "versions" "[I", .arrayClass .boolean, .fieldLink RX4 20 "StartSleepModel" "changed" "[Z", .fieldLink RX4 24 "StartSleepModel" "requests" "[Z", .fieldLink RX4 27 "StartSleepModel" "told" "[Z", .fieldLink RX4 30 "StartSleepModel" "orders" "[I", .fieldLink RX4 33 "StartSleepModel" "fails" "[Z", .fieldLink RX4 36 "StartSleepModel" "things" "[I"] ++ wsX40)
def wsX4_thrown : List Cond := .code yX4_thrown cX4_thrown 1 (some .int) :: ([.fieldLink RX4 39 "StartSleepModel" "thrown" "I"] ++ wsX40)
def wsX4_user : List Cond := .code yX4_user cX4_user 3 (some .int) :: ([.fieldLink RX4 39 "StartSleepModel" "thrown" "I", .fieldLink RX4 24 "StartSleepModel" "requests" "[Z"] ++ wsX40 ++ (vx_atM "java/lang/ArrayIndexOutOfBoundsException" ["java/lang/IndexOutOfBoundsException", "java/lang/RuntimeException", "java/lang/Exception"]).filter goodWord)
def wsX4_request : List Cond := .code yX4_request cX4_request 5 (some .int) :: ([.fieldLink RX4 39 "StartSleepModel" "thrown" "I", .fieldLink RX4 43 "StartSleepModel" "mode" "I", .fieldLink RX4 24 "StartSleepModel" "requests" "[Z", .fieldLink RX4 50 "StartSleepModel" "time" "J", .fieldLink RX4 54 "StartSleepModel" "quiet" "J", .methodLink RX4 46 yX4_user, .instanceMethod yX4_user, .selects RX4 yX4_user yX4_user, .initialized RX4, .code yX4_user cX4_user 3 (some .int)] ++ wsX40 ++ (vx_atM "java/lang/ArrayIndexOutOfBoundsException" ["java/lang/IndexOutOfBoundsException", "java/lang/RuntimeException", "java/lang/Exception"]).filter goodWord)
def wsX4_run : List Cond := .code yX4_run cX4_run 1 none :: ([.fieldLink RX4 43 "StartSleepModel" "mode" "I", .fieldLink RX4 50 "StartSleepModel" "time" "J", .fieldLink RX4 54 "StartSleepModel" "quiet" "J"] ++ wsX40)
def wsX4_sleep : List Cond := .code yX4_sleep cX4_sleep 1 none :: ([.fieldLink RX4 43 "StartSleepModel" "mode" "I", .fieldLink RX4 57 "StartSleepModel" "sleeps" "J"] ++ wsX40)
def wsX4_wake : List Cond := .code yX4_wake cX4_wake 3 (some .int) :: ([.fieldLink RX4 39 "StartSleepModel" "thrown" "I", .fieldLink RX4 43 "StartSleepModel" "mode" "I", .fieldLink RX4 50 "StartSleepModel" "time" "J", .fieldLink RX4 63 "StartSleepModel" "began" "J", .fieldLink RX4 66 "StartSleepModel" "checks" "J", .methodLink RX4 60 yX4_run, .instanceMethod yX4_run, .selects RX4 yX4_run yX4_run, .initialized RX4, .code yX4_run cX4_run 1 none, .fieldLink RX4 54 "StartSleepModel" "quiet" "J"] ++ wsX40)
def wsX4_keptCopy : List Cond := .code yX4_keptCopy cX4_keptCopy 2 (some .int) :: ([.fieldLink RX4 16 "StartSleepModel" "versions" "[I"] ++ wsX40 ++ (vx_atM "java/lang/ArrayIndexOutOfBoundsException" ["java/lang/IndexOutOfBoundsException", "java/lang/RuntimeException", "java/lang/Exception"]).filter goodWord)
def wsX4_firstChanged : List Cond := .code yX4_firstChanged cX4_firstChanged 2 (some .int) :: ([.fieldLink RX4 20 "StartSleepModel" "changed" "[Z"] ++ wsX40 ++ (vx_atM "java/lang/ArrayIndexOutOfBoundsException" ["java/lang/IndexOutOfBoundsException", "java/lang/RuntimeException", "java/lang/Exception"]).filter goodWord)
def wsX4_save : List Cond := .code yX4_save cX4_save 1 none :: ([.fieldLink RX4 43 "StartSleepModel" "mode" "I", .fieldLink RX4 50 "StartSleepModel" "time" "J", .fieldLink RX4 63 "StartSleepModel" "began" "J", .fieldLink RX4 72 "StartSleepModel" "saved" "I", .fieldLink RX4 16 "StartSleepModel" "versions" "[I", .methodLink RX4 69 yX4_firstChanged, .instanceMethod yX4_firstChanged, .selects RX4 yX4_firstChanged yX4_firstChanged, .initialized RX4, .code yX4_firstChanged cX4_firstChanged 2 (some .int), .fieldLink RX4 20 "StartSleepModel" "changed" "[Z", .methodLink RX4 75 yX4_keptCopy, .instanceMethod yX4_keptCopy, .selects RX4 yX4_keptCopy yX4_keptCopy, .code yX4_keptCopy cX4_keptCopy 2 (some .int)] ++ wsX40 ++ (vx_atM "java/lang/ArrayIndexOutOfBoundsException" ["java/lang/IndexOutOfBoundsException", "java/lang/RuntimeException", "java/lang/Exception"]).filter goodWord)
def wsX4_isSaved_r1 : List Cond := [Cond.fieldLink RX4 72 "StartSleepModel" "saved" "I", Cond.fieldLink RX4 13 "StartSleepModel" "copies" "[B", Cond.fieldLink RX4 7 "StartSleepModel" "working" "[B", Cond.fieldLink RX4 16 "StartSleepModel" "versions" "[I", Cond.fieldLink RX4 20 "StartSleepModel" "changed" "[Z", Cond.methodLink RX4 75 yX4_keptCopy, Cond.instanceMethod yX4_keptCopy, Cond.selects RX4 yX4_keptCopy yX4_keptCopy, Cond.initialized RX4, Cond.code yX4_keptCopy cX4_keptCopy 2 (some .int), Cond.methodLink RX4 46 yX4_user, Cond.instanceMethod yX4_user, Cond.selects RX4 yX4_user yX4_user, Cond.code yX4_user cX4_user 3 (some .int), Cond.fieldLink RX4 39 "StartSleepModel" "thrown" "I", Cond.fieldLink RX4 24 "StartSleepModel" "requests" "[Z", Cond.methodLink RX4 60 yX4_run, Cond.instanceMethod yX4_run, Cond.selects RX4 yX4_run yX4_run, Cond.code yX4_run cX4_run 1 none, Cond.fieldLink RX4 43 "StartSleepModel" "mode" "I", Cond.fieldLink RX4 50 "StartSleepModel" "time" "J", Cond.fieldLink RX4 54 "StartSleepModel" "quiet" "J", Cond.methodLink RX4 69 yX4_firstChanged]
def wsX4_isSaved_r2 : List Cond := [Cond.instanceMethod yX4_firstChanged, Cond.selects RX4 yX4_firstChanged yX4_firstChanged, Cond.code yX4_firstChanged cX4_firstChanged 2 (some .int), Cond.methodLink RX4 79 yX4_sleep, Cond.instanceMethod yX4_sleep, Cond.selects RX4 yX4_sleep yX4_sleep, Cond.code yX4_sleep cX4_sleep 1 none, Cond.fieldLink RX4 57 "StartSleepModel" "sleeps" "J", Cond.methodLink RX4 82 yX4_save, Cond.instanceMethod yX4_save, Cond.selects RX4 yX4_save yX4_save, Cond.code yX4_save cX4_save 1 none, Cond.fieldLink RX4 63 "StartSleepModel" "began" "J"]
def wsX4_isSaved : List Cond := .code yX4_isSaved cX4_isSaved 4 none :: ((wsX4_isSaved_r1 ++ wsX4_isSaved_r2) ++ wsX40 ++ (vx_atM "java/lang/ArrayIndexOutOfBoundsException" ["java/lang/IndexOutOfBoundsException", "java/lang/RuntimeException", "java/lang/Exception"]).filter goodWord)
def wsX4_due : List Cond := .code yX4_due cX4_due 1 (some .long) :: ([.fieldLink RX4 43 "StartSleepModel" "mode" "I", .fieldLink RX4 54 "StartSleepModel" "quiet" "J", .constantLong RX4 85 (100), .constantLong RX4 87 (-1), .fieldLink RX4 63 "StartSleepModel" "began" "J", .constantLong RX4 89 (5), .constantLong RX4 91 (20), .methodLink RX4 46 yX4_user, .instanceMethod yX4_user, .selects RX4 yX4_user yX4_user, .initialized RX4, .code yX4_user cX4_user 3 (some .int), .fieldLink RX4 39 "StartSleepModel" "thrown" "I", .fieldLink RX4 24 "StartSleepModel" "requests" "[Z"] ++ wsX40 ++ (vx_atM "java/lang/ArrayIndexOutOfBoundsException" ["java/lang/IndexOutOfBoundsException", "java/lang/RuntimeException", "java/lang/Exception"]).filter goodWord)
def wsX4_goOn_r1 : List Cond := [Cond.fieldLink RX4 50 "StartSleepModel" "time" "J", Cond.fieldLink RX4 43 "StartSleepModel" "mode" "I", Cond.methodLink RX4 93 yX4_due, Cond.instanceMethod yX4_due, Cond.selects RX4 yX4_due yX4_due, Cond.initialized RX4, Cond.code yX4_due cX4_due 1 (some .long), Cond.fieldLink RX4 54 "StartSleepModel" "quiet" "J", Cond.constantLong RX4 85 (100), Cond.constantLong RX4 87 (-1), Cond.fieldLink RX4 63 "StartSleepModel" "began" "J", Cond.constantLong RX4 89 (5), Cond.constantLong RX4 91 (20), Cond.methodLink RX4 46 yX4_user, Cond.instanceMethod yX4_user, Cond.selects RX4 yX4_user yX4_user, Cond.code yX4_user cX4_user 3 (some .int), Cond.fieldLink RX4 39 "StartSleepModel" "thrown" "I", Cond.fieldLink RX4 24 "StartSleepModel" "requests" "[Z", Cond.methodLink RX4 69 yX4_firstChanged, Cond.instanceMethod yX4_firstChanged, Cond.selects RX4 yX4_firstChanged yX4_firstChanged, Cond.code yX4_firstChanged cX4_firstChanged 2 (some .int), Cond.fieldLink RX4 20 "StartSleepModel" "changed" "[Z"]
def wsX4_goOn_r2 : List Cond := [Cond.methodLink RX4 82 yX4_save, Cond.instanceMethod yX4_save, Cond.selects RX4 yX4_save yX4_save, Cond.code yX4_save cX4_save 1 none, Cond.fieldLink RX4 72 "StartSleepModel" "saved" "I", Cond.fieldLink RX4 16 "StartSleepModel" "versions" "[I", Cond.methodLink RX4 75 yX4_keptCopy, Cond.instanceMethod yX4_keptCopy, Cond.selects RX4 yX4_keptCopy yX4_keptCopy, Cond.code yX4_keptCopy cX4_keptCopy 2 (some .int), Cond.methodLink RX4 97 yX4_isSaved, Cond.instanceMethod yX4_isSaved, Cond.selects RX4 yX4_isSaved yX4_isSaved, Cond.code yX4_isSaved cX4_isSaved 4 none, Cond.fieldLink RX4 13 "StartSleepModel" "copies" "[B", Cond.fieldLink RX4 7 "StartSleepModel" "working" "[B", Cond.methodLink RX4 60 yX4_run, Cond.instanceMethod yX4_run, Cond.selects RX4 yX4_run yX4_run, Cond.code yX4_run cX4_run 1 none, Cond.methodLink RX4 79 yX4_sleep, Cond.instanceMethod yX4_sleep, Cond.selects RX4 yX4_sleep yX4_sleep, Cond.code yX4_sleep cX4_sleep 1 none]
def wsX4_goOn_r3 : List Cond := [Cond.fieldLink RX4 57 "StartSleepModel" "sleeps" "J"]
def wsX4_goOn : List Cond := .code yX4_goOn cX4_goOn 5 none :: ((wsX4_goOn_r1 ++ (wsX4_goOn_r2 ++ wsX4_goOn_r3)) ++ wsX40 ++ (vx_atM "java/lang/ArrayIndexOutOfBoundsException" ["java/lang/IndexOutOfBoundsException", "java/lang/RuntimeException", "java/lang/Exception"]).filter goodWord)
def wsX4_step_r1 : List Cond := [Cond.fieldLink RX4 39 "StartSleepModel" "thrown" "I", Cond.fieldLink RX4 50 "StartSleepModel" "time" "J", Cond.constantLong RX4 100 (100000), Cond.fieldLink RX4 43 "StartSleepModel" "mode" "I", Cond.methodLink RX4 102 yX4_goOn, Cond.instanceMethod yX4_goOn, Cond.selects RX4 yX4_goOn yX4_goOn, Cond.initialized RX4, Cond.code yX4_goOn cX4_goOn 5 none, Cond.methodLink RX4 93 yX4_due, Cond.instanceMethod yX4_due, Cond.selects RX4 yX4_due yX4_due, Cond.code yX4_due cX4_due 1 (some .long), Cond.fieldLink RX4 54 "StartSleepModel" "quiet" "J", Cond.constantLong RX4 85 (100), Cond.constantLong RX4 87 (-1), Cond.fieldLink RX4 63 "StartSleepModel" "began" "J", Cond.constantLong RX4 89 (5), Cond.constantLong RX4 91 (20), Cond.methodLink RX4 46 yX4_user, Cond.instanceMethod yX4_user, Cond.selects RX4 yX4_user yX4_user, Cond.code yX4_user cX4_user 3 (some .int), Cond.fieldLink RX4 24 "StartSleepModel" "requests" "[Z"]
def wsX4_step_r2 : List Cond := [Cond.methodLink RX4 69 yX4_firstChanged, Cond.instanceMethod yX4_firstChanged, Cond.selects RX4 yX4_firstChanged yX4_firstChanged, Cond.code yX4_firstChanged cX4_firstChanged 2 (some .int), Cond.fieldLink RX4 20 "StartSleepModel" "changed" "[Z", Cond.methodLink RX4 82 yX4_save, Cond.instanceMethod yX4_save, Cond.selects RX4 yX4_save yX4_save, Cond.code yX4_save cX4_save 1 none, Cond.fieldLink RX4 72 "StartSleepModel" "saved" "I", Cond.fieldLink RX4 16 "StartSleepModel" "versions" "[I", Cond.methodLink RX4 75 yX4_keptCopy, Cond.instanceMethod yX4_keptCopy, Cond.selects RX4 yX4_keptCopy yX4_keptCopy, Cond.code yX4_keptCopy cX4_keptCopy 2 (some .int), Cond.methodLink RX4 97 yX4_isSaved, Cond.instanceMethod yX4_isSaved, Cond.selects RX4 yX4_isSaved yX4_isSaved, Cond.code yX4_isSaved cX4_isSaved 4 none, Cond.fieldLink RX4 13 "StartSleepModel" "copies" "[B", Cond.fieldLink RX4 7 "StartSleepModel" "working" "[B", Cond.methodLink RX4 60 yX4_run, Cond.instanceMethod yX4_run, Cond.selects RX4 yX4_run yX4_run]
def wsX4_step_r3 : List Cond := [Cond.code yX4_run cX4_run 1 none, Cond.methodLink RX4 79 yX4_sleep, Cond.instanceMethod yX4_sleep, Cond.selects RX4 yX4_sleep yX4_sleep, Cond.code yX4_sleep cX4_sleep 1 none, Cond.fieldLink RX4 57 "StartSleepModel" "sleeps" "J"]
def wsX4_step : List Cond := .code yX4_step cX4_step 3 (some .int) :: ((wsX4_step_r1 ++ (wsX4_step_r2 ++ wsX4_step_r3)) ++ wsX40 ++ (vx_atM "java/lang/ArrayIndexOutOfBoundsException" ["java/lang/IndexOutOfBoundsException", "java/lang/RuntimeException", "java/lang/Exception"]).filter goodWord)
def wsX4_init_ : List Cond := .code yX4_init_ cX4_init_ 6 (some .int) :: ([.fieldLink RX4 39 "StartSleepModel" "thrown" "I", .fieldLink RX4 43 "StartSleepModel" "mode" "I", .fieldLink RX4 27 "StartSleepModel" "told" "[Z", .fieldLink RX4 30 "StartSleepModel" "orders" "[I", .fieldLink RX4 33 "StartSleepModel" "fails" "[Z"] ++ wsX40 ++ (vx_atM "java/lang/ArrayIndexOutOfBoundsException" ["java/lang/IndexOutOfBoundsException", "java/lang/RuntimeException", "java/lang/Exception"]).filter goodWord)
def wsX4_block : List Cond := .code yX4_block cX4_block 2 (some .int) :: ([.fieldLink RX4 39 "StartSleepModel" "thrown" "I", .fieldLink RX4 20 "StartSleepModel" "changed" "[Z"] ++ wsX40 ++ (vx_atM "java/lang/ArrayIndexOutOfBoundsException" ["java/lang/IndexOutOfBoundsException", "java/lang/RuntimeException", "java/lang/Exception"]).filter goodWord)
def wsX4_write : List Cond := .code yX4_write cX4_write 4 (some .int) :: ([.fieldLink RX4 39 "StartSleepModel" "thrown" "I", .fieldLink RX4 43 "StartSleepModel" "mode" "I", .fieldLink RX4 7 "StartSleepModel" "working" "[B", .fieldLink RX4 20 "StartSleepModel" "changed" "[Z"] ++ wsX40 ++ (vx_atM "java/lang/ArrayIndexOutOfBoundsException" ["java/lang/IndexOutOfBoundsException", "java/lang/RuntimeException", "java/lang/Exception"]).filter goodWord)
def wsX4_cut_r1 : List Cond := [Cond.fieldLink RX4 39 "StartSleepModel" "thrown" "I", Cond.fieldLink RX4 50 "StartSleepModel" "time" "J", Cond.constantLong RX4 100 (100000), Cond.fieldLink RX4 43 "StartSleepModel" "mode" "I", Cond.fieldLink RX4 106 "StartSleepModel" "cuts" "J", Cond.fieldLink RX4 20 "StartSleepModel" "changed" "[Z", Cond.methodLink RX4 102 yX4_goOn, Cond.instanceMethod yX4_goOn, Cond.selects RX4 yX4_goOn yX4_goOn, Cond.initialized RX4, Cond.code yX4_goOn cX4_goOn 5 none, Cond.methodLink RX4 93 yX4_due, Cond.instanceMethod yX4_due, Cond.selects RX4 yX4_due yX4_due, Cond.code yX4_due cX4_due 1 (some .long), Cond.fieldLink RX4 54 "StartSleepModel" "quiet" "J", Cond.constantLong RX4 85 (100), Cond.constantLong RX4 87 (-1), Cond.fieldLink RX4 63 "StartSleepModel" "began" "J", Cond.constantLong RX4 89 (5), Cond.constantLong RX4 91 (20), Cond.methodLink RX4 46 yX4_user, Cond.instanceMethod yX4_user, Cond.selects RX4 yX4_user yX4_user]
def wsX4_cut_r2 : List Cond := [Cond.code yX4_user cX4_user 3 (some .int), Cond.fieldLink RX4 24 "StartSleepModel" "requests" "[Z", Cond.methodLink RX4 69 yX4_firstChanged, Cond.instanceMethod yX4_firstChanged, Cond.selects RX4 yX4_firstChanged yX4_firstChanged, Cond.code yX4_firstChanged cX4_firstChanged 2 (some .int), Cond.methodLink RX4 82 yX4_save, Cond.instanceMethod yX4_save, Cond.selects RX4 yX4_save yX4_save, Cond.code yX4_save cX4_save 1 none, Cond.fieldLink RX4 72 "StartSleepModel" "saved" "I", Cond.fieldLink RX4 16 "StartSleepModel" "versions" "[I", Cond.methodLink RX4 75 yX4_keptCopy, Cond.instanceMethod yX4_keptCopy, Cond.selects RX4 yX4_keptCopy yX4_keptCopy, Cond.code yX4_keptCopy cX4_keptCopy 2 (some .int), Cond.methodLink RX4 97 yX4_isSaved, Cond.instanceMethod yX4_isSaved, Cond.selects RX4 yX4_isSaved yX4_isSaved, Cond.code yX4_isSaved cX4_isSaved 4 none, Cond.fieldLink RX4 13 "StartSleepModel" "copies" "[B", Cond.fieldLink RX4 7 "StartSleepModel" "working" "[B", Cond.methodLink RX4 60 yX4_run, Cond.instanceMethod yX4_run]
def wsX4_cut_r3 : List Cond := [Cond.selects RX4 yX4_run yX4_run, Cond.code yX4_run cX4_run 1 none, Cond.methodLink RX4 79 yX4_sleep, Cond.instanceMethod yX4_sleep, Cond.selects RX4 yX4_sleep yX4_sleep, Cond.code yX4_sleep cX4_sleep 1 none, Cond.fieldLink RX4 57 "StartSleepModel" "sleeps" "J"]
def wsX4_cut : List Cond := .code yX4_cut cX4_cut 5 (some .int) :: ((wsX4_cut_r1 ++ (wsX4_cut_r2 ++ wsX4_cut_r3)) ++ wsX40 ++ (vx_atM "java/lang/ArrayIndexOutOfBoundsException" ["java/lang/IndexOutOfBoundsException", "java/lang/RuntimeException", "java/lang/Exception"]).filter goodWord)
def wsX4_nextPart : List Cond := .code yX4_nextPart cX4_nextPart 6 (some .int) :: ([.fieldLink RX4 27 "StartSleepModel" "told" "[Z", .fieldLink RX4 30 "StartSleepModel" "orders" "[I"] ++ wsX40 ++ (vx_atM "java/lang/ArrayIndexOutOfBoundsException" ["java/lang/IndexOutOfBoundsException", "java/lang/RuntimeException", "java/lang/Exception"]).filter goodWord)
def wsX4_start_r1 : List Cond := [Cond.fieldLink RX4 39 "StartSleepModel" "thrown" "I", Cond.fieldLink RX4 43 "StartSleepModel" "mode" "I", Cond.fieldLink RX4 109 "StartSleepModel" "toRun" "I", Cond.fieldLink RX4 112 "StartSleepModel" "runs" "I", Cond.fieldLink RX4 115 "StartSleepModel" "starts" "J", Cond.fieldLink RX4 50 "StartSleepModel" "time" "J", Cond.fieldLink RX4 118 "StartSleepModel" "lastStart" "J", Cond.fieldLink RX4 20 "StartSleepModel" "changed" "[Z", Cond.fieldLink RX4 7 "StartSleepModel" "working" "[B", Cond.fieldLink RX4 13 "StartSleepModel" "copies" "[B", Cond.fieldLink RX4 24 "StartSleepModel" "requests" "[Z", Cond.fieldLink RX4 121 "StartSleepModel" "many" "I", Cond.fieldLink RX4 36 "StartSleepModel" "things" "[I", Cond.fieldLink RX4 33 "StartSleepModel" "fails" "[Z", Cond.fieldLink RX4 30 "StartSleepModel" "orders" "[I", Cond.methodLink RX4 75 yX4_keptCopy, Cond.instanceMethod yX4_keptCopy, Cond.selects RX4 yX4_keptCopy yX4_keptCopy, Cond.initialized RX4, Cond.code yX4_keptCopy cX4_keptCopy 2 (some .int), Cond.fieldLink RX4 16 "StartSleepModel" "versions" "[I", Cond.methodLink RX4 124 yX4_nextPart, Cond.instanceMethod yX4_nextPart, Cond.selects RX4 yX4_nextPart yX4_nextPart]
def wsX4_start_r2 : List Cond := [Cond.code yX4_nextPart cX4_nextPart 6 (some .int), Cond.fieldLink RX4 27 "StartSleepModel" "told" "[Z", Cond.methodLink RX4 60 yX4_run, Cond.instanceMethod yX4_run, Cond.selects RX4 yX4_run yX4_run, Cond.code yX4_run cX4_run 1 none, Cond.fieldLink RX4 54 "StartSleepModel" "quiet" "J"]
def wsX4_start : List Cond := .code yX4_start cX4_start 4 (some .int) :: ((wsX4_start_r1 ++ wsX4_start_r2) ++ wsX40 ++ (vx_atM "java/lang/ArrayIndexOutOfBoundsException" ["java/lang/IndexOutOfBoundsException", "java/lang/RuntimeException", "java/lang/Exception"]).filter goodWord)
def wsX4_kept : List Cond := .code yX4_kept cX4_kept 3 (some .byte) :: ([.fieldLink RX4 39 "StartSleepModel" "thrown" "I", .fieldLink RX4 13 "StartSleepModel" "copies" "[B", .methodLink RX4 75 yX4_keptCopy, .instanceMethod yX4_keptCopy, .selects RX4 yX4_keptCopy yX4_keptCopy, .initialized RX4, .code yX4_keptCopy cX4_keptCopy 2 (some .int), .fieldLink RX4 16 "StartSleepModel" "versions" "[I"] ++ wsX40 ++ (vx_atM "java/lang/ArrayIndexOutOfBoundsException" ["java/lang/IndexOutOfBoundsException", "java/lang/RuntimeException", "java/lang/Exception"]).filter goodWord)
def wsX4_bank : List Cond := .code yX4_bank cX4_bank 2 (some .int) :: ([.fieldLink RX4 39 "StartSleepModel" "thrown" "I", .fieldLink RX4 109 "StartSleepModel" "toRun" "I"] ++ wsX40)
def wsX4_time : List Cond := .code yX4_time cX4_time 2 (some .long) :: ([.fieldLink RX4 39 "StartSleepModel" "thrown" "I", .constantLong RX4 128 (-2), .fieldLink RX4 50 "StartSleepModel" "time" "J", .fieldLink RX4 115 "StartSleepModel" "starts" "J", .fieldLink RX4 57 "StartSleepModel" "sleeps" "J", .fieldLink RX4 66 "StartSleepModel" "checks" "J", .fieldLink RX4 106 "StartSleepModel" "cuts" "J", .fieldLink RX4 118 "StartSleepModel" "lastStart" "J", .fieldLink RX4 112 "StartSleepModel" "runs" "I"] ++ wsX40)
def wsX4_order : List Cond := .code yX4_order cX4_order 2 (some .int) :: ([.fieldLink RX4 39 "StartSleepModel" "thrown" "I", .fieldLink RX4 121 "StartSleepModel" "many" "I", .fieldLink RX4 36 "StartSleepModel" "things" "[I"] ++ wsX40 ++ (vx_atM "java/lang/ArrayIndexOutOfBoundsException" ["java/lang/IndexOutOfBoundsException", "java/lang/RuntimeException", "java/lang/Exception"]).filter goodWord)
def wsJx00060_init_a7421 : List Cond := .code yJx00060_init_a7421 cJx00060_init_a7421 2 none :: ([])
def wsL_kept_r1 : List Cond := [Cond.classLink RL 13 "java/lang/ArrayIndexOutOfBoundsException", Cond.methodLink RL 7 yX3_kept, Cond.instanceMethod yX3_kept, Cond.selects RX3 yX3_kept yX3_kept, Cond.initialized RX3, Cond.code yX3_kept cX3_kept 3 (some .byte), Cond.classLink RX3 124 RJx00060, Cond.instantiable RJx00060 6, Cond.initialized RJx00060, Cond.fieldLink RX3 19 "StartSleep" "blocks" "LStartSleep$Blocks;", Cond.methodLink RX3 78 yX0_has, Cond.static yX0_has, Cond.initialized RX0, Cond.code yX0_has cX0_has 1 (some .boolean), Cond.methodLink RX3 82 yX0_hasOctet, Cond.static yX0_hasOctet, Cond.code yX0_hasOctet cX0_hasOctet 1 (some .boolean), Cond.methodLink RX3 131 yX0_keptOctet, Cond.instanceMethod yX0_keptOctet, Cond.selects RX0 yX0_keptOctet yX0_keptOctet, Cond.code yX0_keptOctet cX0_keptOctet 3 (some .byte), Cond.fieldLink RX0 17 "StartSleep$Blocks" "copies" "[[B", Cond.methodLink RX0 29 yX0_has, Cond.methodLink RX0 33 yX0_hasOctet]
def wsL_kept_r2 : List Cond := [Cond.methodLink RX0 36 yX0_keptCopy, Cond.instanceMethod yX0_keptCopy, Cond.selects RX0 yX0_keptCopy yX0_keptCopy, Cond.code yX0_keptCopy cX0_keptCopy 2 (some .int), Cond.fieldLink RX0 22 "StartSleep$Blocks" "versions" "[[I"]
def wsL_kept : List Cond := .codeWith yL_kept cL_kept 5 (some .int) [(0, 10, 13, 13)] :: ((wsL_kept_r1 ++ wsL_kept_r2) ++ wsJx000600 ++ wsX30 ++ wsX00 ++ (vx_atM "java/lang/ArrayIndexOutOfBoundsException" ["java/lang/IndexOutOfBoundsException", "java/lang/RuntimeException", "java/lang/Exception"]).filter goodWord)
def wsL_law0_r1 : List Cond := [Cond.classLink RL 8 RX3, Cond.instantiable RX3 14, Cond.initialized RX3, Cond.classLink RL 16 RX4, Cond.instantiable RX4 23, Cond.initialized RX4, Cond.arrayClass .long, Cond.constantLong RL 33 (4294967295), Cond.methodLink RL 15 yX3_init, Cond.instanceMethod yX3_init, Cond.code yX3_init cX3_init 1 none, Cond.methodLink RX3 1 objectInit, Cond.instanceMethod objectInit, Cond.code objectInit ⟨#[0xb1]⟩ 1 none, Cond.classLink RX3 7 RX2, Cond.instantiable RX2 2, Cond.initialized RX2, Cond.fieldLink RX3 10 "StartSleep" "users" "LStartSleep$Users;", Cond.classLink RX3 16 RX0, Cond.instantiable RX0 4, Cond.initialized RX0, Cond.fieldLink RX3 19 "StartSleep" "blocks" "LStartSleep$Blocks;", Cond.classLink RX3 23 RX1, Cond.instantiable RX1 6]
def wsL_law0_r2 : List Cond := [Cond.initialized RX1, Cond.fieldLink RX3 26 "StartSleep" "parts" "LStartSleep$Parts;", Cond.fieldLink RX3 30 "StartSleep" "mode" "I", Cond.constantLong RX3 34 (-1), Cond.fieldLink RX3 36 "StartSleep" "due" "J", Cond.fieldLink RX3 40 "StartSleep" "blockInSaving" "I", Cond.methodLink RX3 9 yX2_init, Cond.instanceMethod yX2_init, Cond.code yX2_init cX2_init 1 none, Cond.methodLink RX2 1 objectInit, Cond.arrayClass .boolean, Cond.fieldLink RX2 9 "StartSleep$Users" "requests" "[Z", Cond.methodLink RX3 18 yX0_init, Cond.instanceMethod yX0_init, Cond.code yX0_init cX0_init 1 none, Cond.methodLink RX0 3 objectInit, Cond.arrayClass .byte, Cond.fieldLink RX0 11 "StartSleep$Blocks" "working" "[B", Cond.classLink RX0 15 "[[B", Cond.fieldLink RX0 17 "StartSleep$Blocks" "copies" "[[B", Cond.classLink RX0 20 "[[I", Cond.arrayClass .int, Cond.fieldLink RX0 22 "StartSleep$Blocks" "versions" "[[I", Cond.fieldLink RX0 25 "StartSleep$Blocks" "changed" "[Z"]
def wsL_law0_r3 : List Cond := [Cond.methodLink RX3 25 yX1_init, Cond.instanceMethod yX1_init, Cond.code yX1_init cX1_init 1 none, Cond.methodLink RX1 3 objectInit, Cond.fieldLink RX1 9 "StartSleep$Parts" "told" "[Z", Cond.fieldLink RX1 13 "StartSleep$Parts" "places" "[I", Cond.fieldLink RX1 17 "StartSleep$Parts" "failing" "[Z", Cond.fieldLink RX1 20 "StartSleep$Parts" "things" "[I", Cond.methodLink RL 18 yX4_init, Cond.instanceMethod yX4_init, Cond.code yX4_init cX4_init 1 none, Cond.methodLink RX4 1 objectInit, Cond.fieldLink RX4 7 "StartSleepModel" "working" "[B", Cond.fieldLink RX4 13 "StartSleepModel" "copies" "[B", Cond.fieldLink RX4 16 "StartSleepModel" "versions" "[I", Cond.fieldLink RX4 20 "StartSleepModel" "changed" "[Z", Cond.fieldLink RX4 24 "StartSleepModel" "requests" "[Z", Cond.fieldLink RX4 27 "StartSleepModel" "told" "[Z", Cond.fieldLink RX4 30 "StartSleepModel" "orders" "[I", Cond.fieldLink RX4 33 "StartSleepModel" "fails" "[Z", Cond.fieldLink RX4 36 "StartSleepModel" "things" "[I", Cond.methodLink RL 19 yX3_user, Cond.instanceMethod yX3_user, Cond.selects RX3 yX3_user yX3_user]
def wsL_law0_r4 : List Cond := [Cond.code yX3_user cX3_user 1 (some .int), Cond.methodLink RX3 43 yX2_howMany, Cond.instanceMethod yX2_howMany, Cond.selects RX2 yX2_howMany yX2_howMany, Cond.code yX2_howMany cX2_howMany 1 (some .int), Cond.fieldLink RX2 13 "StartSleep$Users" "requesting" "I", Cond.methodLink RL 23 yX4_user, Cond.instanceMethod yX4_user, Cond.selects RX4 yX4_user yX4_user, Cond.code yX4_user cX4_user 3 (some .int), Cond.fieldLink RX4 39 "StartSleepModel" "thrown" "I", Cond.methodLink RL 24 yX3_request, Cond.instanceMethod yX3_request, Cond.selects RX3 yX3_request yX3_request, Cond.code yX3_request cX3_request 4 (some .int), Cond.methodLink RX3 47 yX2_has, Cond.static yX2_has, Cond.code yX2_has cX2_has 1 (some .boolean), Cond.methodLink RX3 51 yX2_set, Cond.instanceMethod yX2_set, Cond.selects RX2 yX2_set yX2_set, Cond.code yX2_set cX2_set 3 (some .boolean), Cond.methodLink RX2 17 yX2_has, Cond.methodLink RX3 55 yX3_awaitIdleness]
def wsL_law0_r5 : List Cond := [Cond.instanceMethod yX3_awaitIdleness, Cond.selects RX3 yX3_awaitIdleness yX3_awaitIdleness, Cond.code yX3_awaitIdleness cX3_awaitIdleness 1 none, Cond.fieldLink RX3 102 "StartSleep" "now" "J", Cond.constantLong RX3 173 (100), Cond.methodLink RL 28 yX4_request, Cond.instanceMethod yX4_request, Cond.selects RX4 yX4_request yX4_request, Cond.code yX4_request cX4_request 5 (some .int), Cond.fieldLink RX4 43 "StartSleepModel" "mode" "I", Cond.fieldLink RX4 50 "StartSleepModel" "time" "J", Cond.fieldLink RX4 54 "StartSleepModel" "quiet" "J", Cond.methodLink RX4 46 yX4_user, Cond.methodLink RL 29 yX3_wake, Cond.instanceMethod yX3_wake, Cond.selects RX3 yX3_wake yX3_wake, Cond.code yX3_wake cX3_wake 3 (some .int), Cond.methodLink RX3 58 yX3_run, Cond.instanceMethod yX3_run, Cond.selects RX3 yX3_run yX3_run, Cond.code yX3_run cX3_run 1 none, Cond.methodLink RX3 61 yX3_check, Cond.instanceMethod yX3_check, Cond.selects RX3 yX3_check yX3_check]
def wsL_law0_r6 : List Cond := [Cond.code yX3_check cX3_check 1 none, Cond.fieldLink RX3 138 "StartSleep" "checks" "J", Cond.constantLong RX3 175 (20), Cond.methodLink RX3 92 yX3_enter, Cond.instanceMethod yX3_enter, Cond.selects RX3 yX3_enter yX3_enter, Cond.code yX3_enter cX3_enter 4 none, Cond.methodLink RL 32 yX4_wake, Cond.instanceMethod yX4_wake, Cond.selects RX4 yX4_wake yX4_wake, Cond.code yX4_wake cX4_wake 3 (some .int), Cond.fieldLink RX4 63 "StartSleepModel" "began" "J", Cond.fieldLink RX4 66 "StartSleepModel" "checks" "J", Cond.methodLink RX4 60 yX4_run, Cond.instanceMethod yX4_run, Cond.selects RX4 yX4_run yX4_run, Cond.code yX4_run cX4_run 1 none, Cond.methodLink RL 35 yX3_step, Cond.instanceMethod yX3_step, Cond.selects RX3 yX3_step yX3_step, Cond.code yX3_step cX3_step 3 (some .int), Cond.methodLink RX3 64 yX3_canAdvance, Cond.instanceMethod yX3_canAdvance, Cond.selects RX3 yX3_canAdvance yX3_canAdvance]
def wsL_law0_r7 : List Cond := [Cond.code yX3_canAdvance cX3_canAdvance 3 (some .boolean), Cond.constantLong RX3 147 (100000), Cond.methodLink RX3 68 yX3_advance, Cond.instanceMethod yX3_advance, Cond.selects RX3 yX3_advance yX3_advance, Cond.code yX3_advance cX3_advance 4 none, Cond.methodLink RX3 149 yX3_happen, Cond.instanceMethod yX3_happen, Cond.selects RX3 yX3_happen yX3_happen, Cond.code yX3_happen cX3_happen 1 none, Cond.methodLink RX3 152 yX3_saveNextOrSleep, Cond.instanceMethod yX3_saveNextOrSleep, Cond.selects RX3 yX3_saveNextOrSleep yX3_saveNextOrSleep, Cond.code yX3_saveNextOrSleep cX3_saveNextOrSleep 1 none, Cond.constantLong RX3 168 (5), Cond.methodLink RX3 161 yX0_firstChanged, Cond.instanceMethod yX0_firstChanged, Cond.selects RX0 yX0_firstChanged yX0_firstChanged, Cond.code yX0_firstChanged cX0_firstChanged 2 (some .int), Cond.methodLink RX3 158 yX3_sleep, Cond.instanceMethod yX3_sleep, Cond.selects RX3 yX3_sleep yX3_sleep, Cond.code yX3_sleep cX3_sleep 1 none, Cond.fieldLink RX3 135 "StartSleep" "sleeps" "J"]
def wsL_law0_r8 : List Cond := [Cond.methodLink RX3 164 yX0_tear, Cond.instanceMethod yX0_tear, Cond.selects RX0 yX0_tear yX0_tear, Cond.code yX0_tear cX0_tear 2 none, Cond.methodLink RX0 29 yX0_has, Cond.static yX0_has, Cond.code yX0_has cX0_has 1 (some .boolean), Cond.methodLink RX0 36 yX0_keptCopy, Cond.instanceMethod yX0_keptCopy, Cond.selects RX0 yX0_keptCopy yX0_keptCopy, Cond.code yX0_keptCopy cX0_keptCopy 2 (some .int), Cond.methodLink RX3 155 yX3_endSaving, Cond.instanceMethod yX3_endSaving, Cond.selects RX3 yX3_endSaving yX3_endSaving, Cond.code yX3_endSaving cX3_endSaving 1 none, Cond.methodLink RX3 170 yX0_save, Cond.instanceMethod yX0_save, Cond.selects RX0 yX0_save yX0_save, Cond.code yX0_save cX0_save 4 none, Cond.methodLink RX0 40 arraycopyName, Cond.native arraycopyName, Cond.static arraycopyName, Cond.initialized "java/lang/System", Cond.methodLink RL 39 yX4_step]
def wsL_law0_r9 : List Cond := [Cond.instanceMethod yX4_step, Cond.selects RX4 yX4_step yX4_step, Cond.code yX4_step cX4_step 3 (some .int), Cond.constantLong RX4 100 (100000), Cond.methodLink RX4 102 yX4_goOn, Cond.instanceMethod yX4_goOn, Cond.selects RX4 yX4_goOn yX4_goOn, Cond.code yX4_goOn cX4_goOn 5 none, Cond.methodLink RX4 93 yX4_due, Cond.instanceMethod yX4_due, Cond.selects RX4 yX4_due yX4_due, Cond.code yX4_due cX4_due 1 (some .long), Cond.constantLong RX4 85 (100), Cond.constantLong RX4 87 (-1), Cond.constantLong RX4 89 (5), Cond.constantLong RX4 91 (20), Cond.methodLink RX4 69 yX4_firstChanged, Cond.instanceMethod yX4_firstChanged, Cond.selects RX4 yX4_firstChanged yX4_firstChanged, Cond.code yX4_firstChanged cX4_firstChanged 2 (some .int), Cond.methodLink RX4 82 yX4_save, Cond.instanceMethod yX4_save, Cond.selects RX4 yX4_save yX4_save, Cond.code yX4_save cX4_save 1 none]
def wsL_law0_r10 : List Cond := [Cond.fieldLink RX4 72 "StartSleepModel" "saved" "I", Cond.methodLink RX4 75 yX4_keptCopy, Cond.instanceMethod yX4_keptCopy, Cond.selects RX4 yX4_keptCopy yX4_keptCopy, Cond.code yX4_keptCopy cX4_keptCopy 2 (some .int), Cond.methodLink RX4 97 yX4_isSaved, Cond.instanceMethod yX4_isSaved, Cond.selects RX4 yX4_isSaved yX4_isSaved, Cond.code yX4_isSaved cX4_isSaved 4 none, Cond.methodLink RX4 79 yX4_sleep, Cond.instanceMethod yX4_sleep, Cond.selects RX4 yX4_sleep yX4_sleep, Cond.code yX4_sleep cX4_sleep 1 none, Cond.fieldLink RX4 57 "StartSleepModel" "sleeps" "J", Cond.methodLink RL 40 yX3_init_, Cond.instanceMethod yX3_init_, Cond.selects RX3 yX3_init_ yX3_init_, Cond.code yX3_init_ cX3_init_ 4 (some .int), Cond.methodLink RX3 72 yX1_has, Cond.static yX1_has, Cond.code yX1_has cX1_has 1 (some .boolean), Cond.methodLink RX3 73 yX1_tell, Cond.instanceMethod yX1_tell, Cond.selects RX1 yX1_tell yX1_tell]
def wsL_law0_r11 : List Cond := [Cond.code yX1_tell cX1_tell 4 none, Cond.fieldLink RX1 23 "StartSleep$Parts" "count" "I", Cond.methodLink RX1 27 yX1_has, Cond.methodLink RX3 77 yX1_howMany, Cond.instanceMethod yX1_howMany, Cond.selects RX1 yX1_howMany yX1_howMany, Cond.code yX1_howMany cX1_howMany 1 (some .int), Cond.methodLink RL 44 yX4_init_, Cond.instanceMethod yX4_init_, Cond.selects RX4 yX4_init_ yX4_init_, Cond.code yX4_init_ cX4_init_ 6 (some .int), Cond.methodLink RL 45 yX3_block, Cond.instanceMethod yX3_block, Cond.selects RX3 yX3_block yX3_block, Cond.code yX3_block cX3_block 2 (some .int), Cond.methodLink RX3 78 yX0_has, Cond.methodLink RX3 79 yX0_isChanged, Cond.instanceMethod yX0_isChanged, Cond.selects RX0 yX0_isChanged yX0_isChanged, Cond.code yX0_isChanged cX0_isChanged 2 (some .boolean), Cond.methodLink RL 49 yX4_block, Cond.instanceMethod yX4_block, Cond.selects RX4 yX4_block yX4_block, Cond.code yX4_block cX4_block 2 (some .int)]
def wsL_law0_r12 : List Cond := [Cond.methodLink RL 50 yX3_write, Cond.instanceMethod yX3_write, Cond.selects RX3 yX3_write yX3_write, Cond.code yX3_write cX3_write 4 (some .int), Cond.methodLink RX3 82 yX0_hasOctet, Cond.static yX0_hasOctet, Cond.code yX0_hasOctet cX0_hasOctet 1 (some .boolean), Cond.methodLink RX3 85 yX0_put, Cond.instanceMethod yX0_put, Cond.selects RX0 yX0_put yX0_put, Cond.code yX0_put cX0_put 4 none, Cond.methodLink RX0 33 yX0_hasOctet, Cond.methodLink RL 54 yX4_write, Cond.instanceMethod yX4_write, Cond.selects RX4 yX4_write yX4_write, Cond.code yX4_write cX4_write 4 (some .int), Cond.methodLink RL 55 yX3_cut, Cond.instanceMethod yX3_cut, Cond.selects RX3 yX3_cut yX3_cut, Cond.code yX3_cut cX3_cut 3 (some .int), Cond.fieldLink RX3 89 "StartSleep" "cuts" "J", Cond.methodLink RX3 96 yX0_howManyChanged, Cond.instanceMethod yX0_howManyChanged, Cond.selects RX0 yX0_howManyChanged yX0_howManyChanged]
def wsL_law0_r13 : List Cond := [Cond.code yX0_howManyChanged cX0_howManyChanged 3 (some .int), Cond.methodLink RL 58 yX4_cut, Cond.instanceMethod yX4_cut, Cond.selects RX4 yX4_cut yX4_cut, Cond.code yX4_cut cX4_cut 5 (some .int), Cond.fieldLink RX4 106 "StartSleepModel" "cuts" "J", Cond.methodLink RL 59 yX3_start, Cond.instanceMethod yX3_start, Cond.selects RX3 yX3_start yX3_start, Cond.code yX3_start cX3_start 1 (some .int), Cond.fieldLink RX3 99 "StartSleep" "startings" "J", Cond.fieldLink RX3 105 "StartSleep" "lastStarting" "J", Cond.fieldLink RX3 108 "StartSleep" "bankToRun" "I", Cond.fieldLink RX3 111 "StartSleep" "bankThatRuns" "I", Cond.methodLink RX3 114 yX0_load, Cond.instanceMethod yX0_load, Cond.selects RX0 yX0_load yX0_load, Cond.code yX0_load cX0_load 2 none, Cond.methodLink RX3 117 yX2_clear, Cond.instanceMethod yX2_clear, Cond.selects RX2 yX2_clear yX2_clear, Cond.code yX2_clear cX2_clear 2 none, Cond.methodLink RX3 120 yX1_beginAll, Cond.instanceMethod yX1_beginAll]
def wsL_law0_r14 : List Cond := [Cond.selects RX1 yX1_beginAll yX1_beginAll, Cond.code yX1_beginAll cX1_beginAll 4 (some .boolean), Cond.fieldLink RX1 31 "StartSleep$Parts" "thingCount" "I", Cond.methodLink RX1 34 yX1_placeBehind, Cond.instanceMethod yX1_placeBehind, Cond.selects RX1 yX1_placeBehind yX1_placeBehind, Cond.code yX1_placeBehind cX1_placeBehind 4 (some .int), Cond.methodLink RX1 38 yX1_note, Cond.instanceMethod yX1_note, Cond.selects RX1 yX1_note yX1_note, Cond.code yX1_note cX1_note 2 none, Cond.methodLink RX1 42 yX1_endThoseBeforeTheLast, Cond.instanceMethod yX1_endThoseBeforeTheLast, Cond.selects RX1 yX1_endThoseBeforeTheLast yX1_endThoseBeforeTheLast, Cond.code yX1_endThoseBeforeTheLast cX1_endThoseBeforeTheLast 2 none, Cond.methodLink RX1 45 yX1_thing, Cond.instanceMethod yX1_thing, Cond.selects RX1 yX1_thing yX1_thing, Cond.code yX1_thing cX1_thing 2 (some .int), Cond.methodLink RL 62 yX4_start, Cond.instanceMethod yX4_start, Cond.selects RX4 yX4_start yX4_start, Cond.code yX4_start cX4_start 4 (some .int), Cond.fieldLink RX4 109 "StartSleepModel" "toRun" "I"]
def wsL_law0_r15 : List Cond := [Cond.fieldLink RX4 112 "StartSleepModel" "runs" "I", Cond.fieldLink RX4 115 "StartSleepModel" "starts" "J", Cond.fieldLink RX4 118 "StartSleepModel" "lastStart" "J", Cond.fieldLink RX4 121 "StartSleepModel" "many" "I", Cond.methodLink RX4 124 yX4_nextPart, Cond.instanceMethod yX4_nextPart, Cond.selects RX4 yX4_nextPart yX4_nextPart, Cond.code yX4_nextPart cX4_nextPart 6 (some .int), Cond.methodLink RL 63 yL_kept, Cond.static yL_kept, Cond.initialized RL, Cond.codeWith yL_kept cL_kept 5 (some .int) [(0, 10, 13, 13)], Cond.classLink RL 13 "java/lang/ArrayIndexOutOfBoundsException", Cond.methodLink RL 7 yX3_kept, Cond.instanceMethod yX3_kept, Cond.selects RX3 yX3_kept yX3_kept, Cond.code yX3_kept cX3_kept 3 (some .byte), Cond.classLink RX3 124 RJx00060, Cond.instantiable RJx00060 6, Cond.initialized RJx00060, Cond.methodLink RX3 131 yX0_keptOctet, Cond.instanceMethod yX0_keptOctet, Cond.selects RX0 yX0_keptOctet yX0_keptOctet, Cond.code yX0_keptOctet cX0_keptOctet 3 (some .byte)]
def wsL_law0_r16 : List Cond := [Cond.methodLink RL 68 yX4_kept, Cond.instanceMethod yX4_kept, Cond.selects RX4 yX4_kept yX4_kept, Cond.code yX4_kept cX4_kept 3 (some .byte), Cond.methodLink RL 69 yX4_thrown, Cond.instanceMethod yX4_thrown, Cond.selects RX4 yX4_thrown yX4_thrown, Cond.code yX4_thrown cX4_thrown 1 (some .int), Cond.methodLink RL 72 yX3_bank, Cond.instanceMethod yX3_bank, Cond.selects RX3 yX3_bank yX3_bank, Cond.code yX3_bank cX3_bank 2 (some .int), Cond.methodLink RL 76 yX4_bank, Cond.instanceMethod yX4_bank, Cond.selects RX4 yX4_bank yX4_bank, Cond.code yX4_bank cX4_bank 2 (some .int), Cond.methodLink RL 77 yX3_time, Cond.instanceMethod yX3_time, Cond.selects RX3 yX3_time yX3_time, Cond.code yX3_time cX3_time 2 (some .long), Cond.constantLong RX3 141 (-2), Cond.methodLink RL 81 yX4_time, Cond.instanceMethod yX4_time, Cond.selects RX4 yX4_time yX4_time]
def wsL_law0_r17 : List Cond := [Cond.code yX4_time cX4_time 2 (some .long), Cond.constantLong RX4 128 (-2), Cond.methodLink RL 82 yX3_order, Cond.instanceMethod yX3_order, Cond.selects RX3 yX3_order yX3_order, Cond.code yX3_order cX3_order 2 (some .int), Cond.methodLink RX3 143 yX1_thing, Cond.methodLink RL 85 yX4_order, Cond.instanceMethod yX4_order, Cond.selects RX4 yX4_order yX4_order, Cond.code yX4_order cX4_order 2 (some .int)]
def wsL_law0 : List Cond := (wsL_law0_r1 ++ (wsL_law0_r2 ++ (wsL_law0_r3 ++ (wsL_law0_r4 ++ (wsL_law0_r5 ++ (wsL_law0_r6 ++ (wsL_law0_r7 ++ (wsL_law0_r8 ++ (wsL_law0_r9 ++ (wsL_law0_r10 ++ (wsL_law0_r11 ++ (wsL_law0_r12 ++ (wsL_law0_r13 ++ (wsL_law0_r14 ++ (wsL_law0_r15 ++ (wsL_law0_r16 ++ wsL_law0_r17)))))))))))))))) ++ wsX30 ++ wsX40 ++ wsX20 ++ wsX00 ++ wsX10 ++ wsJx000600 ++ ([] : List Cond)
def wsL_law : List Cond := wsL_law0 ++ (vx_atM "java/lang/ArrayIndexOutOfBoundsException" ["java/lang/IndexOutOfBoundsException", "java/lang/RuntimeException", "java/lang/Exception"]).filter goodWord
end
section
set_option maxRecDepth 20000 in
theorem my_in_wsL_law0_r1 : ∀ w ∈ wsL_law0_r1, w ∈ lw_tbl := fun w h => (goodIn_p wsL_law0_r1 [41, 44] (by decide +kernel) (by decide +kernel) w h).1
set_option maxRecDepth 20000 in
theorem my_in_wsL_law0_r2 : ∀ w ∈ wsL_law0_r2, w ∈ lw_tbl := fun w h => (goodIn_p wsL_law0_r2 [49, 63] (by decide +kernel) (by decide +kernel) w h).1
set_option maxRecDepth 20000 in
theorem my_in_wsL_law0_r3 : ∀ w ∈ wsL_law0_r3, w ∈ lw_tbl := fun w h => (goodIn_p wsL_law0_r3 [88, 429] (by decide +kernel) (by decide +kernel) w h).1
set_option maxRecDepth 20000 in
theorem my_in_wsL_law0_r4 : ∀ w ∈ wsL_law0_r4, w ∈ lw_tbl := fun w h => (goodIn_p wsL_law0_r4 [156, 160, 508, 164, 167, 171] (by decide +kernel) (by decide +kernel) w h).1
set_option maxRecDepth 20000 in
theorem my_in_wsL_law0_r5 : ∀ w ∈ wsL_law0_r5, w ∈ lw_tbl := fun w h => (goodIn_p wsL_law0_r5 [176, 512, 181, 185] (by decide +kernel) (by decide +kernel) w h).1
set_option maxRecDepth 20000 in
theorem my_in_wsL_law0_r6 : ∀ w ∈ wsL_law0_r6, w ∈ lw_tbl := fun w h => (goodIn_p wsL_law0_r6 [189, 194, 517, 521, 198] (by decide +kernel) (by decide +kernel) w h).1
end
section
set_option maxRecDepth 20000 in
theorem my_in_wsL_law0_r7 : ∀ w ∈ wsL_law0_r7, w ∈ lw_tbl := fun w h => (goodIn_p wsL_law0_r7 [202, 207, 211, 215, 219, 223] (by decide +kernel) (by decide +kernel) w h).1
set_option maxRecDepth 20000 in
theorem my_in_wsL_law0_r8 : ∀ w ∈ wsL_law0_r8, w ∈ lw_tbl := fun w h => (goodIn_p wsL_law0_r8 [227, 230, 234, 239, 243] (by decide +kernel) (by decide +kernel) w h).1
set_option maxRecDepth 20000 in
theorem my_in_wsL_law0_r9 : ∀ w ∈ wsL_law0_r9, w ∈ lw_tbl := fun w h => (goodIn_p wsL_law0_r9 [525, 530, 534, 542, 546] (by decide +kernel) (by decide +kernel) w h).1
set_option maxRecDepth 20000 in
theorem my_in_wsL_law0_r10 : ∀ w ∈ wsL_law0_r10, w ∈ lw_tbl := fun w h => (goodIn_p wsL_law0_r10 [550, 554, 558, 250, 253] (by decide +kernel) (by decide +kernel) w h).1
set_option maxRecDepth 20000 in
theorem my_in_wsL_law0_r11 : ∀ w ∈ wsL_law0_r11, w ∈ lw_tbl := fun w h => (goodIn_p wsL_law0_r11 [257, 262, 562, 266, 271, 566] (by decide +kernel) (by decide +kernel) w h).1
set_option maxRecDepth 20000 in
theorem my_in_wsL_law0_r12 : ∀ w ∈ wsL_law0_r12, w ∈ lw_tbl := fun w h => (goodIn_p wsL_law0_r12 [275, 278, 282, 570, 287] (by decide +kernel) (by decide +kernel) w h).1
end
section
set_option maxRecDepth 20000 in
theorem my_in_wsL_law0_r13 : ∀ w ∈ wsL_law0_r13, w ∈ lw_tbl := fun w h => (goodIn_p wsL_law0_r13 [291, 574, 295, 299, 303] (by decide +kernel) (by decide +kernel) w h).1
set_option maxRecDepth 20000 in
theorem my_in_wsL_law0_r14 : ∀ w ∈ wsL_law0_r14, w ∈ lw_tbl := fun w h => (goodIn_p wsL_law0_r14 [307, 311, 315, 319, 323, 578] (by decide +kernel) (by decide +kernel) w h).1
set_option maxRecDepth 20000 in
theorem my_in_wsL_law0_r15 : ∀ w ∈ wsL_law0_r15, w ∈ lw_tbl := fun w h => (goodIn_p wsL_law0_r15 [582, 417, 424] (by decide +kernel) (by decide +kernel) w h).1
set_option maxRecDepth 20000 in
theorem my_in_wsL_law0_r16 : ∀ w ∈ wsL_law0_r16, w ∈ lw_tbl := fun w h => (goodIn_p wsL_law0_r16 [586, 504, 327, 590, 331] (by decide +kernel) (by decide +kernel) w h).1
set_option maxRecDepth 20000 in
theorem my_in_wsL_law0_r17 : ∀ w ∈ wsL_law0_r17, w ∈ lw_tbl := fun w h => (goodIn_p wsL_law0_r17 [594, 336, 599] (by decide +kernel) (by decide +kernel) w h).1
set_option maxRecDepth 20000 in
theorem my_in_wsX30 : ∀ w ∈ wsX30, w ∈ lw_tbl := by decide +kernel
end
section
set_option maxRecDepth 20000 in
theorem my_in_wsX40 : ∀ w ∈ wsX40, w ∈ lw_tbl := by decide +kernel
set_option maxRecDepth 20000 in
theorem my_in_wsX20 : ∀ w ∈ wsX20, w ∈ lw_tbl := by decide +kernel
set_option maxRecDepth 20000 in
theorem my_in_wsX00 : ∀ w ∈ wsX00, w ∈ lw_tbl := by decide +kernel
set_option maxRecDepth 20000 in
theorem my_in_wsX10 : ∀ w ∈ wsX10, w ∈ lw_tbl := by decide +kernel
set_option maxRecDepth 20000 in
theorem my_in_wsJx000600 : ∀ w ∈ wsJx000600, w ∈ lw_tbl := by decide +kernel
end
section
theorem my_in_app {a b c : List Cond} (ha : ∀ w ∈ a, w ∈ c) (hb : ∀ w ∈ b, w ∈ c) : ∀ w ∈ a ++ b, w ∈ c := fun w h => (List.mem_append.mp h).elim (ha w) (hb w)
theorem wsL_law_in0 : ∀ w ∈ wsL_law0, w ∈ lw_tbl := (my_in_app (my_in_app (my_in_app (my_in_app (my_in_app (my_in_app (my_in_app (my_in_app my_in_wsL_law0_r1 (my_in_app my_in_wsL_law0_r2 (my_in_app my_in_wsL_law0_r3 (my_in_app my_in_wsL_law0_r4 (my_in_app my_in_wsL_law0_r5 (my_in_app my_in_wsL_law0_r6 (my_in_app my_in_wsL_law0_r7 (my_in_app my_in_wsL_law0_r8 (my_in_app my_in_wsL_law0_r9 (my_in_app my_in_wsL_law0_r10 (my_in_app my_in_wsL_law0_r11 (my_in_app my_in_wsL_law0_r12 (my_in_app my_in_wsL_law0_r13 (my_in_app my_in_wsL_law0_r14 (my_in_app my_in_wsL_law0_r15 (my_in_app my_in_wsL_law0_r16 my_in_wsL_law0_r17)))))))))))))))) my_in_wsX30) my_in_wsX40) my_in_wsX20) my_in_wsX00) my_in_wsX10) my_in_wsJx000600) (fun _ h => nomatch h))

theorem wsL_law_x0 : ∀ w ∈ (vx_atM "java/lang/ArrayIndexOutOfBoundsException" ["java/lang/IndexOutOfBoundsException", "java/lang/RuntimeException", "java/lang/Exception"]).filter goodWord, w ∈ lw_tbl := by decide +kernel
theorem wsL_law_in : ∀ w ∈ wsL_law, w ∈ lw_tbl := fun w h => (List.mem_append.mp h).elim (fun h => wsL_law_in0 w h) (fun h => wsL_law_x0 w h)
theorem inlX0 : ∀ w ∈ wsX00, w ∈ wsL_law := fun _ h => List.mem_append_left _ (List.mem_append_left _ (List.mem_append_left _ (List.mem_append_left _ (List.mem_append_right _ h))))
theorem inX0 : ∀ w ∈ wsX00, w ∈ lw_tbl := fun w h => wsL_law_in w (inlX0 w h)
theorem inlX1 : ∀ w ∈ wsX10, w ∈ wsL_law := fun _ h => List.mem_append_left _ (List.mem_append_left _ (List.mem_append_left _ (List.mem_append_right _ h)))
theorem inX1 : ∀ w ∈ wsX10, w ∈ lw_tbl := fun w h => wsL_law_in w (inlX1 w h)
theorem inlX2 : ∀ w ∈ wsX20, w ∈ wsL_law := fun _ h => List.mem_append_left _ (List.mem_append_left _ (List.mem_append_left _ (List.mem_append_left _ (List.mem_append_left _ (List.mem_append_right _ h)))))
theorem inX2 : ∀ w ∈ wsX20, w ∈ lw_tbl := fun w h => wsL_law_in w (inlX2 w h)
theorem inlX3 : ∀ w ∈ wsX30, w ∈ wsL_law := fun _ h => List.mem_append_left _ (List.mem_append_left _ (List.mem_append_left _ (List.mem_append_left _ (List.mem_append_left _ (List.mem_append_left _ (List.mem_append_left _ (List.mem_append_right _ h)))))))
theorem inX3 : ∀ w ∈ wsX30, w ∈ lw_tbl := fun w h => wsL_law_in w (inlX3 w h)
theorem inlX4 : ∀ w ∈ wsX40, w ∈ wsL_law := fun _ h => List.mem_append_left _ (List.mem_append_left _ (List.mem_append_left _ (List.mem_append_left _ (List.mem_append_left _ (List.mem_append_left _ (List.mem_append_right _ h))))))
theorem inX4 : ∀ w ∈ wsX40, w ∈ lw_tbl := fun w h => wsL_law_in w (inlX4 w h)
theorem inlJx00060 : ∀ w ∈ wsJx000600, w ∈ wsL_law := fun _ h => List.mem_append_left _ (List.mem_append_left _ (List.mem_append_right _ h))
theorem inJx00060 : ∀ w ∈ wsJx000600, w ∈ lw_tbl := fun w h => wsL_law_in w (inlJx00060 w h)
theorem inJ0 : ∀ w ∈ wsJ00, w ∈ lw_tbl := by decide +kernel
theorem inJ10 : ∀ w ∈ wsJ100, w ∈ lw_tbl := by decide +kernel
theorem dX0_init_0 : decode cX0_init 0 = .ok (.aload_n 0, 1) := by decide +kernel
theorem dX0_init_1 : decode cX0_init 1 = .ok (.invokespecial 3, 3) := by decide +kernel
theorem dX0_init_4 : decode cX0_init 4 = .ok (.aload_n 0, 1) := by decide +kernel
theorem dX0_init_5 : decode cX0_init 5 = .ok (.sipush 128, 3) := by decide +kernel
theorem dX0_init_8 : decode cX0_init 8 = .ok (.newarray .byte, 2) := by decide +kernel
theorem dX0_init_10 : decode cX0_init 10 = .ok (.putfield 11, 3) := by decide +kernel
theorem dX0_init_13 : decode cX0_init 13 = .ok (.aload_n 0, 1) := by decide +kernel
theorem dX0_init_14 : decode cX0_init 14 = .ok (.iconst 2, 1) := by decide +kernel
theorem dX0_init_15 : decode cX0_init 15 = .ok (.sipush 128, 3) := by decide +kernel
theorem dX0_init_18 : decode cX0_init 18 = .ok (.multianewarray 15 2, 4) := by decide +kernel
theorem dX0_init_22 : decode cX0_init 22 = .ok (.putfield 17, 3) := by decide +kernel
theorem dX0_init_25 : decode cX0_init 25 = .ok (.aload_n 0, 1) := by decide +kernel
theorem dX0_init_26 : decode cX0_init 26 = .ok (.iconst 2, 1) := by decide +kernel
theorem dX0_init_27 : decode cX0_init 27 = .ok (.bipush 8, 2) := by decide +kernel
theorem dX0_init_29 : decode cX0_init 29 = .ok (.multianewarray 20 2, 4) := by decide +kernel
theorem dX0_init_33 : decode cX0_init 33 = .ok (.putfield 22, 3) := by decide +kernel
theorem dX0_init_36 : decode cX0_init 36 = .ok (.aload_n 0, 1) := by decide +kernel
theorem dX0_init_37 : decode cX0_init 37 = .ok (.bipush 8, 2) := by decide +kernel
theorem dX0_init_39 : decode cX0_init 39 = .ok (.newarray .boolean, 2) := by decide +kernel
theorem dX0_init_41 : decode cX0_init 41 = .ok (.putfield 25, 3) := by decide +kernel
theorem dX0_init_44 : decode cX0_init 44 = .ok (.return_, 1) := by decide +kernel
theorem dX0_has_0 : decode cX0_has 0 = .ok (.iload_n 0, 1) := by decide +kernel
theorem dX0_has_1 : decode cX0_has 1 = .ok (.ifCond .lt 13, 3) := by decide +kernel
theorem dX0_has_4 : decode cX0_has 4 = .ok (.iload_n 0, 1) := by decide +kernel
theorem dX0_has_5 : decode cX0_has 5 = .ok (.bipush 8, 2) := by decide +kernel
theorem dX0_has_7 : decode cX0_has 7 = .ok (.if_icmp .ge 7, 3) := by decide +kernel
theorem dX0_has_10 : decode cX0_has 10 = .ok (.iconst 1, 1) := by decide +kernel
theorem dX0_has_11 : decode cX0_has 11 = .ok (.goto 4, 3) := by decide +kernel
theorem dX0_has_14 : decode cX0_has 14 = .ok (.iconst 0, 1) := by decide +kernel
theorem dX0_has_15 : decode cX0_has 15 = .ok (.ireturn, 1) := by decide +kernel
theorem dX0_hasOctet_0 : decode cX0_hasOctet 0 = .ok (.iload_n 0, 1) := by decide +kernel
theorem dX0_hasOctet_1 : decode cX0_hasOctet 1 = .ok (.ifCond .lt 13, 3) := by decide +kernel
theorem dX0_hasOctet_4 : decode cX0_hasOctet 4 = .ok (.iload_n 0, 1) := by decide +kernel
theorem dX0_hasOctet_5 : decode cX0_hasOctet 5 = .ok (.bipush 16, 2) := by decide +kernel
theorem dX0_hasOctet_7 : decode cX0_hasOctet 7 = .ok (.if_icmp .ge 7, 3) := by decide +kernel
theorem dX0_hasOctet_10 : decode cX0_hasOctet 10 = .ok (.iconst 1, 1) := by decide +kernel
theorem dX0_hasOctet_11 : decode cX0_hasOctet 11 = .ok (.goto 4, 3) := by decide +kernel
theorem dX0_hasOctet_14 : decode cX0_hasOctet 14 = .ok (.iconst 0, 1) := by decide +kernel
theorem dX0_hasOctet_15 : decode cX0_hasOctet 15 = .ok (.ireturn, 1) := by decide +kernel
set_option maxRecDepth 20000 in
theorem ggX0_isChanged_X0_has : GoodIn wsX0_isChanged wsX0_has := goodIn_r _ [5] (by decide +kernel) (by decide +kernel)
set_option maxRecDepth 20000 in
theorem gX0_isChanged_X0_has : GoodIn wsX0_isChanged (va_wsS RX0 29 yX0_has wsX0_has) := goodIn_app (goodIn_of _ (by decide +kernel)) ggX0_isChanged_X0_has
theorem dX0_isChanged_0 : decode cX0_isChanged 0 = .ok (.iload_n 1, 1) := by decide +kernel
theorem dX0_isChanged_1 : decode cX0_isChanged 1 = .ok (.invokestatic 29, 3) := by decide +kernel
theorem dX0_isChanged_4 : decode cX0_isChanged 4 = .ok (.ifCond .eq 16, 3) := by decide +kernel
theorem dX0_isChanged_7 : decode cX0_isChanged 7 = .ok (.aload_n 0, 1) := by decide +kernel
theorem dX0_isChanged_8 : decode cX0_isChanged 8 = .ok (.getfield 25, 3) := by decide +kernel
theorem dX0_isChanged_11 : decode cX0_isChanged 11 = .ok (.iload_n 1, 1) := by decide +kernel
theorem dX0_isChanged_12 : decode cX0_isChanged 12 = .ok (.baload, 1) := by decide +kernel
theorem dX0_isChanged_13 : decode cX0_isChanged 13 = .ok (.ifCond .eq 7, 3) := by decide +kernel
theorem dX0_isChanged_16 : decode cX0_isChanged 16 = .ok (.iconst 1, 1) := by decide +kernel
theorem dX0_isChanged_17 : decode cX0_isChanged 17 = .ok (.goto 4, 3) := by decide +kernel
theorem dX0_isChanged_20 : decode cX0_isChanged 20 = .ok (.iconst 0, 1) := by decide +kernel
theorem dX0_isChanged_21 : decode cX0_isChanged 21 = .ok (.ireturn, 1) := by decide +kernel
theorem dX0_howManyChanged_0 : decode cX0_howManyChanged 0 = .ok (.iconst 0, 1) := by decide +kernel
theorem dX0_howManyChanged_1 : decode cX0_howManyChanged 1 = .ok (.istore_n 1, 1) := by decide +kernel
theorem dX0_howManyChanged_2 : decode cX0_howManyChanged 2 = .ok (.iconst 0, 1) := by decide +kernel
theorem dX0_howManyChanged_3 : decode cX0_howManyChanged 3 = .ok (.istore_n 2, 1) := by decide +kernel
theorem dX0_howManyChanged_4 : decode cX0_howManyChanged 4 = .ok (.iload_n 2, 1) := by decide +kernel
theorem dX0_howManyChanged_5 : decode cX0_howManyChanged 5 = .ok (.bipush 8, 2) := by decide +kernel
theorem dX0_howManyChanged_7 : decode cX0_howManyChanged 7 = .ok (.if_icmp .ge 21, 3) := by decide +kernel
theorem dX0_howManyChanged_10 : decode cX0_howManyChanged 10 = .ok (.aload_n 0, 1) := by decide +kernel
theorem dX0_howManyChanged_11 : decode cX0_howManyChanged 11 = .ok (.getfield 25, 3) := by decide +kernel
theorem dX0_howManyChanged_14 : decode cX0_howManyChanged 14 = .ok (.iload_n 2, 1) := by decide +kernel
theorem dX0_howManyChanged_15 : decode cX0_howManyChanged 15 = .ok (.baload, 1) := by decide +kernel
theorem dX0_howManyChanged_16 : decode cX0_howManyChanged 16 = .ok (.ifCond .eq 6, 3) := by decide +kernel
theorem dX0_howManyChanged_19 : decode cX0_howManyChanged 19 = .ok (.iinc 1 1, 3) := by decide +kernel
theorem dX0_howManyChanged_22 : decode cX0_howManyChanged 22 = .ok (.iinc 2 1, 3) := by decide +kernel
theorem dX0_howManyChanged_25 : decode cX0_howManyChanged 25 = .ok (.goto (-21), 3) := by decide +kernel
theorem dX0_howManyChanged_28 : decode cX0_howManyChanged 28 = .ok (.iload_n 1, 1) := by decide +kernel
theorem dX0_howManyChanged_29 : decode cX0_howManyChanged 29 = .ok (.ireturn, 1) := by decide +kernel
theorem dX0_firstChanged_0 : decode cX0_firstChanged 0 = .ok (.iconst 0, 1) := by decide +kernel
theorem dX0_firstChanged_1 : decode cX0_firstChanged 1 = .ok (.istore_n 1, 1) := by decide +kernel
theorem dX0_firstChanged_2 : decode cX0_firstChanged 2 = .ok (.iload_n 1, 1) := by decide +kernel
theorem dX0_firstChanged_3 : decode cX0_firstChanged 3 = .ok (.bipush 8, 2) := by decide +kernel
theorem dX0_firstChanged_5 : decode cX0_firstChanged 5 = .ok (.if_icmp .ge 20, 3) := by decide +kernel
theorem dX0_firstChanged_8 : decode cX0_firstChanged 8 = .ok (.aload_n 0, 1) := by decide +kernel
theorem dX0_firstChanged_9 : decode cX0_firstChanged 9 = .ok (.getfield 25, 3) := by decide +kernel
theorem dX0_firstChanged_12 : decode cX0_firstChanged 12 = .ok (.iload_n 1, 1) := by decide +kernel
theorem dX0_firstChanged_13 : decode cX0_firstChanged 13 = .ok (.baload, 1) := by decide +kernel
theorem dX0_firstChanged_14 : decode cX0_firstChanged 14 = .ok (.ifCond .eq 5, 3) := by decide +kernel
theorem dX0_firstChanged_17 : decode cX0_firstChanged 17 = .ok (.iload_n 1, 1) := by decide +kernel
theorem dX0_firstChanged_18 : decode cX0_firstChanged 18 = .ok (.ireturn, 1) := by decide +kernel
theorem dX0_firstChanged_19 : decode cX0_firstChanged 19 = .ok (.iinc 1 1, 3) := by decide +kernel
theorem dX0_firstChanged_22 : decode cX0_firstChanged 22 = .ok (.goto (-20), 3) := by decide +kernel
theorem dX0_firstChanged_25 : decode cX0_firstChanged 25 = .ok (.iconst (-1), 1) := by decide +kernel
theorem dX0_firstChanged_26 : decode cX0_firstChanged 26 = .ok (.ireturn, 1) := by decide +kernel
set_option maxRecDepth 20000 in
theorem ggX0_put_X0_has : GoodIn wsX0_put wsX0_has := goodIn_r _ [6] (by decide +kernel) (by decide +kernel)
set_option maxRecDepth 20000 in
theorem gX0_put_X0_has : GoodIn wsX0_put (va_wsS RX0 29 yX0_has wsX0_has) := goodIn_app (goodIn_of _ (by decide +kernel)) ggX0_put_X0_has
set_option maxRecDepth 20000 in
theorem ggX0_put_X0_hasOctet : GoodIn wsX0_put wsX0_hasOctet := goodIn_r _ [9] (by decide +kernel) (by decide +kernel)
set_option maxRecDepth 20000 in
theorem gX0_put_X0_hasOctet : GoodIn wsX0_put (va_wsS RX0 33 yX0_hasOctet wsX0_hasOctet) := goodIn_app (goodIn_of _ (by decide +kernel)) ggX0_put_X0_hasOctet
theorem dX0_put_0 : decode cX0_put 0 = .ok (.iload_n 1, 1) := by decide +kernel
theorem dX0_put_1 : decode cX0_put 1 = .ok (.invokestatic 29, 3) := by decide +kernel
theorem dX0_put_4 : decode cX0_put 4 = .ok (.ifCond .eq 29, 3) := by decide +kernel
theorem dX0_put_7 : decode cX0_put 7 = .ok (.iload_n 2, 1) := by decide +kernel
theorem dX0_put_8 : decode cX0_put 8 = .ok (.invokestatic 33, 3) := by decide +kernel
theorem dX0_put_11 : decode cX0_put 11 = .ok (.ifCond .eq 22, 3) := by decide +kernel
theorem dX0_put_14 : decode cX0_put 14 = .ok (.aload_n 0, 1) := by decide +kernel
theorem dX0_put_15 : decode cX0_put 15 = .ok (.getfield 11, 3) := by decide +kernel
theorem dX0_put_18 : decode cX0_put 18 = .ok (.iload_n 1, 1) := by decide +kernel
theorem dX0_put_19 : decode cX0_put 19 = .ok (.bipush 16, 2) := by decide +kernel
theorem dX0_put_21 : decode cX0_put 21 = .ok (.imul, 1) := by decide +kernel
theorem dX0_put_22 : decode cX0_put 22 = .ok (.iload_n 2, 1) := by decide +kernel
theorem dX0_put_23 : decode cX0_put 23 = .ok (.iadd, 1) := by decide +kernel
theorem dX0_put_24 : decode cX0_put 24 = .ok (.iload_n 3, 1) := by decide +kernel
theorem dX0_put_25 : decode cX0_put 25 = .ok (.bastore, 1) := by decide +kernel
theorem dX0_put_26 : decode cX0_put 26 = .ok (.aload_n 0, 1) := by decide +kernel
theorem dX0_put_27 : decode cX0_put 27 = .ok (.getfield 25, 3) := by decide +kernel
theorem dX0_put_30 : decode cX0_put 30 = .ok (.iload_n 1, 1) := by decide +kernel
theorem dX0_put_31 : decode cX0_put 31 = .ok (.iconst 1, 1) := by decide +kernel
theorem dX0_put_32 : decode cX0_put 32 = .ok (.bastore, 1) := by decide +kernel
theorem dX0_put_33 : decode cX0_put 33 = .ok (.return_, 1) := by decide +kernel
set_option maxRecDepth 20000 in
theorem ggX0_keptOctet_X0_has : GoodIn wsX0_keptOctet wsX0_has := goodIn_r _ [5] (by decide +kernel) (by decide +kernel)
set_option maxRecDepth 20000 in
theorem gX0_keptOctet_X0_has : GoodIn wsX0_keptOctet (va_wsS RX0 29 yX0_has wsX0_has) := goodIn_app (goodIn_of _ (by decide +kernel)) ggX0_keptOctet_X0_has
set_option maxRecDepth 20000 in
theorem ggX0_keptOctet_X0_hasOctet : GoodIn wsX0_keptOctet wsX0_hasOctet := goodIn_r _ [8] (by decide +kernel) (by decide +kernel)
set_option maxRecDepth 20000 in
theorem gX0_keptOctet_X0_hasOctet : GoodIn wsX0_keptOctet (va_wsS RX0 33 yX0_hasOctet wsX0_hasOctet) := goodIn_app (goodIn_of _ (by decide +kernel)) ggX0_keptOctet_X0_hasOctet
set_option maxRecDepth 20000 in
theorem ggX0_keptOctet_X0_keptCopy : GoodIn wsX0_keptOctet wsX0_keptCopy := goodIn_ca (goodIn_r _ [12, 13, 14, 15, 16, 17] (by decide +kernel) (by decide +kernel)) (goodIn_sub (fun _ h => List.mem_cons_of_mem _ (List.mem_append_right _ h)) (by decide +kernel))
set_option maxRecDepth 20000 in
theorem gX0_keptOctet_X0_keptCopy : GoodIn wsX0_keptOctet (wsV RX0 36 RX0 yX0_keptCopy wsX0_keptCopy) := goodIn_app (goodIn_of _ (by decide +kernel)) ggX0_keptOctet_X0_keptCopy
theorem dX0_keptOctet_0 : decode cX0_keptOctet 0 = .ok (.iload_n 1, 1) := by decide +kernel
theorem dX0_keptOctet_1 : decode cX0_keptOctet 1 = .ok (.invokestatic 29, 3) := by decide +kernel
theorem dX0_keptOctet_4 : decode cX0_keptOctet 4 = .ok (.ifCond .eq 30, 3) := by decide +kernel
theorem dX0_keptOctet_7 : decode cX0_keptOctet 7 = .ok (.iload_n 2, 1) := by decide +kernel
theorem dX0_keptOctet_8 : decode cX0_keptOctet 8 = .ok (.invokestatic 33, 3) := by decide +kernel
theorem dX0_keptOctet_11 : decode cX0_keptOctet 11 = .ok (.ifCond .eq 23, 3) := by decide +kernel
theorem dX0_keptOctet_14 : decode cX0_keptOctet 14 = .ok (.aload_n 0, 1) := by decide +kernel
theorem dX0_keptOctet_15 : decode cX0_keptOctet 15 = .ok (.getfield 17, 3) := by decide +kernel
theorem dX0_keptOctet_18 : decode cX0_keptOctet 18 = .ok (.aload_n 0, 1) := by decide +kernel
theorem dX0_keptOctet_19 : decode cX0_keptOctet 19 = .ok (.iload_n 1, 1) := by decide +kernel
theorem dX0_keptOctet_20 : decode cX0_keptOctet 20 = .ok (.invokevirtual 36, 3) := by decide +kernel
theorem dX0_keptOctet_23 : decode cX0_keptOctet 23 = .ok (.aaload, 1) := by decide +kernel
theorem dX0_keptOctet_24 : decode cX0_keptOctet 24 = .ok (.iload_n 1, 1) := by decide +kernel
theorem dX0_keptOctet_25 : decode cX0_keptOctet 25 = .ok (.bipush 16, 2) := by decide +kernel
theorem dX0_keptOctet_27 : decode cX0_keptOctet 27 = .ok (.imul, 1) := by decide +kernel
theorem dX0_keptOctet_28 : decode cX0_keptOctet 28 = .ok (.iload_n 2, 1) := by decide +kernel
theorem dX0_keptOctet_29 : decode cX0_keptOctet 29 = .ok (.iadd, 1) := by decide +kernel
theorem dX0_keptOctet_30 : decode cX0_keptOctet 30 = .ok (.baload, 1) := by decide +kernel
theorem dX0_keptOctet_31 : decode cX0_keptOctet 31 = .ok (.goto 4, 3) := by decide +kernel
theorem dX0_keptOctet_34 : decode cX0_keptOctet 34 = .ok (.iconst 0, 1) := by decide +kernel
theorem dX0_keptOctet_35 : decode cX0_keptOctet 35 = .ok (.ireturn, 1) := by decide +kernel
set_option maxRecDepth 20000 in
theorem ggX0_tear_X0_has : GoodIn wsX0_tear wsX0_has := goodIn_r _ [5] (by decide +kernel) (by decide +kernel)
set_option maxRecDepth 20000 in
theorem gX0_tear_X0_has : GoodIn wsX0_tear (va_wsS RX0 29 yX0_has wsX0_has) := goodIn_app (goodIn_of _ (by decide +kernel)) ggX0_tear_X0_has
set_option maxRecDepth 20000 in
theorem ggX0_tear_X0_keptCopy : GoodIn wsX0_tear wsX0_keptCopy := goodIn_ca (goodIn_r _ [9, 1, 10, 11, 12, 13] (by decide +kernel) (by decide +kernel)) (goodIn_sub (fun _ h => List.mem_cons_of_mem _ (List.mem_append_right _ h)) (by decide +kernel))
set_option maxRecDepth 20000 in
theorem gX0_tear_X0_keptCopy : GoodIn wsX0_tear (wsV RX0 36 RX0 yX0_keptCopy wsX0_keptCopy) := goodIn_app (goodIn_of _ (by decide +kernel)) ggX0_tear_X0_keptCopy
theorem dX0_tear_0 : decode cX0_tear 0 = .ok (.iload_n 1, 1) := by decide +kernel
theorem dX0_tear_1 : decode cX0_tear 1 = .ok (.invokestatic 29, 3) := by decide +kernel
theorem dX0_tear_4 : decode cX0_tear 4 = .ok (.ifCond .eq 18, 3) := by decide +kernel
theorem dX0_tear_7 : decode cX0_tear 7 = .ok (.aload_n 0, 1) := by decide +kernel
theorem dX0_tear_8 : decode cX0_tear 8 = .ok (.getfield 22, 3) := by decide +kernel
theorem dX0_tear_11 : decode cX0_tear 11 = .ok (.iconst 1, 1) := by decide +kernel
theorem dX0_tear_12 : decode cX0_tear 12 = .ok (.aload_n 0, 1) := by decide +kernel
theorem dX0_tear_13 : decode cX0_tear 13 = .ok (.iload_n 1, 1) := by decide +kernel
theorem dX0_tear_14 : decode cX0_tear 14 = .ok (.invokevirtual 36, 3) := by decide +kernel
theorem dX0_tear_17 : decode cX0_tear 17 = .ok (.isub, 1) := by decide +kernel
theorem dX0_tear_18 : decode cX0_tear 18 = .ok (.aaload, 1) := by decide +kernel
theorem dX0_tear_19 : decode cX0_tear 19 = .ok (.iload_n 1, 1) := by decide +kernel
theorem dX0_tear_20 : decode cX0_tear 20 = .ok (.iconst 0, 1) := by decide +kernel
theorem dX0_tear_21 : decode cX0_tear 21 = .ok (.iastore, 1) := by decide +kernel
theorem dX0_tear_22 : decode cX0_tear 22 = .ok (.return_, 1) := by decide +kernel
set_option maxRecDepth 20000 in
theorem ggX0_save_X0_has : GoodIn wsX0_save wsX0_has := goodIn_r _ [12] (by decide +kernel) (by decide +kernel)
set_option maxRecDepth 20000 in
theorem gX0_save_X0_has : GoodIn wsX0_save (va_wsS RX0 29 yX0_has wsX0_has) := goodIn_app (goodIn_of _ (by decide +kernel)) ggX0_save_X0_has
set_option maxRecDepth 20000 in
theorem ggX0_save_X0_keptCopy : GoodIn wsX0_save wsX0_keptCopy := goodIn_ca (goodIn_r _ [16, 7, 17, 18, 19, 20] (by decide +kernel) (by decide +kernel)) (goodIn_sub (fun _ h => List.mem_cons_of_mem _ (List.mem_append_right _ h)) (by decide +kernel))
set_option maxRecDepth 20000 in
theorem gX0_save_X0_keptCopy : GoodIn wsX0_save (wsV RX0 36 RX0 yX0_keptCopy wsX0_keptCopy) := goodIn_app (goodIn_of _ (by decide +kernel)) ggX0_save_X0_keptCopy
theorem dX0_save_0 : decode cX0_save 0 = .ok (.iload_n 1, 1) := by decide +kernel
theorem dX0_save_1 : decode cX0_save 1 = .ok (.invokestatic 29, 3) := by decide +kernel
theorem dX0_save_4 : decode cX0_save 4 = .ok (.ifCond .eq 61, 3) := by decide +kernel
theorem dX0_save_7 : decode cX0_save 7 = .ok (.aload_n 0, 1) := by decide +kernel
theorem dX0_save_8 : decode cX0_save 8 = .ok (.iload_n 1, 1) := by decide +kernel
theorem dX0_save_9 : decode cX0_save 9 = .ok (.invokevirtual 36, 3) := by decide +kernel
theorem dX0_save_12 : decode cX0_save 12 = .ok (.istore_n 2, 1) := by decide +kernel
theorem dX0_save_13 : decode cX0_save 13 = .ok (.iconst 1, 1) := by decide +kernel
theorem dX0_save_14 : decode cX0_save 14 = .ok (.iload_n 2, 1) := by decide +kernel
theorem dX0_save_15 : decode cX0_save 15 = .ok (.isub, 1) := by decide +kernel
theorem dX0_save_16 : decode cX0_save 16 = .ok (.istore_n 3, 1) := by decide +kernel
theorem dX0_save_17 : decode cX0_save 17 = .ok (.aload_n 0, 1) := by decide +kernel
theorem dX0_save_18 : decode cX0_save 18 = .ok (.getfield 11, 3) := by decide +kernel
theorem dX0_save_21 : decode cX0_save 21 = .ok (.iload_n 1, 1) := by decide +kernel
theorem dX0_save_22 : decode cX0_save 22 = .ok (.bipush 16, 2) := by decide +kernel
theorem dX0_save_24 : decode cX0_save 24 = .ok (.imul, 1) := by decide +kernel
theorem dX0_save_25 : decode cX0_save 25 = .ok (.aload_n 0, 1) := by decide +kernel
theorem dX0_save_26 : decode cX0_save 26 = .ok (.getfield 17, 3) := by decide +kernel
theorem dX0_save_29 : decode cX0_save 29 = .ok (.iload_n 3, 1) := by decide +kernel
theorem dX0_save_30 : decode cX0_save 30 = .ok (.aaload, 1) := by decide +kernel
theorem dX0_save_31 : decode cX0_save 31 = .ok (.iload_n 1, 1) := by decide +kernel
theorem dX0_save_32 : decode cX0_save 32 = .ok (.bipush 16, 2) := by decide +kernel
theorem dX0_save_34 : decode cX0_save 34 = .ok (.imul, 1) := by decide +kernel
theorem dX0_save_35 : decode cX0_save 35 = .ok (.bipush 16, 2) := by decide +kernel
theorem dX0_save_37 : decode cX0_save 37 = .ok (.invokestatic 40, 3) := by decide +kernel
theorem dX0_save_40 : decode cX0_save 40 = .ok (.aload_n 0, 1) := by decide +kernel
theorem dX0_save_41 : decode cX0_save 41 = .ok (.getfield 22, 3) := by decide +kernel
theorem dX0_save_44 : decode cX0_save 44 = .ok (.iload_n 3, 1) := by decide +kernel
theorem dX0_save_45 : decode cX0_save 45 = .ok (.aaload, 1) := by decide +kernel
theorem dX0_save_46 : decode cX0_save 46 = .ok (.iload_n 1, 1) := by decide +kernel
theorem dX0_save_47 : decode cX0_save 47 = .ok (.aload_n 0, 1) := by decide +kernel
theorem dX0_save_48 : decode cX0_save 48 = .ok (.getfield 22, 3) := by decide +kernel
theorem dX0_save_51 : decode cX0_save 51 = .ok (.iload_n 2, 1) := by decide +kernel
theorem dX0_save_52 : decode cX0_save 52 = .ok (.aaload, 1) := by decide +kernel
theorem dX0_save_53 : decode cX0_save 53 = .ok (.iload_n 1, 1) := by decide +kernel
theorem dX0_save_54 : decode cX0_save 54 = .ok (.iaload, 1) := by decide +kernel
theorem dX0_save_55 : decode cX0_save 55 = .ok (.iconst 1, 1) := by decide +kernel
theorem dX0_save_56 : decode cX0_save 56 = .ok (.iadd, 1) := by decide +kernel
theorem dX0_save_57 : decode cX0_save 57 = .ok (.iastore, 1) := by decide +kernel
theorem dX0_save_58 : decode cX0_save 58 = .ok (.aload_n 0, 1) := by decide +kernel
theorem dX0_save_59 : decode cX0_save 59 = .ok (.getfield 25, 3) := by decide +kernel
theorem dX0_save_62 : decode cX0_save 62 = .ok (.iload_n 1, 1) := by decide +kernel
theorem dX0_save_63 : decode cX0_save 63 = .ok (.iconst 0, 1) := by decide +kernel
theorem dX0_save_64 : decode cX0_save 64 = .ok (.bastore, 1) := by decide +kernel
theorem dX0_save_65 : decode cX0_save 65 = .ok (.return_, 1) := by decide +kernel
set_option maxRecDepth 20000 in
theorem ggX0_load_X0_keptCopy : GoodIn wsX0_load wsX0_keptCopy := goodIn_ca (goodIn_r _ [12, 13, 14, 15, 16, 17] (by decide +kernel) (by decide +kernel)) (goodIn_sub (fun _ h => List.mem_cons_of_mem _ (List.mem_append_right _ h)) (by decide +kernel))
set_option maxRecDepth 20000 in
theorem gX0_load_X0_keptCopy : GoodIn wsX0_load (wsV RX0 36 RX0 yX0_keptCopy wsX0_keptCopy) := goodIn_app (goodIn_of _ (by decide +kernel)) ggX0_load_X0_keptCopy
theorem dX0_load_0 : decode cX0_load 0 = .ok (.iconst 0, 1) := by decide +kernel
theorem dX0_load_1 : decode cX0_load 1 = .ok (.istore_n 1, 1) := by decide +kernel
theorem dX0_load_2 : decode cX0_load 2 = .ok (.iload_n 1, 1) := by decide +kernel
theorem dX0_load_3 : decode cX0_load 3 = .ok (.bipush 8, 2) := by decide +kernel
theorem dX0_load_5 : decode cX0_load 5 = .ok (.if_icmp .ge 43, 3) := by decide +kernel
theorem dX0_load_8 : decode cX0_load 8 = .ok (.aload_n 0, 1) := by decide +kernel
theorem dX0_load_9 : decode cX0_load 9 = .ok (.getfield 17, 3) := by decide +kernel
theorem dX0_load_12 : decode cX0_load 12 = .ok (.aload_n 0, 1) := by decide +kernel
theorem dX0_load_13 : decode cX0_load 13 = .ok (.iload_n 1, 1) := by decide +kernel
theorem dX0_load_14 : decode cX0_load 14 = .ok (.invokevirtual 36, 3) := by decide +kernel
theorem dX0_load_17 : decode cX0_load 17 = .ok (.aaload, 1) := by decide +kernel
theorem dX0_load_18 : decode cX0_load 18 = .ok (.iload_n 1, 1) := by decide +kernel
theorem dX0_load_19 : decode cX0_load 19 = .ok (.bipush 16, 2) := by decide +kernel
theorem dX0_load_21 : decode cX0_load 21 = .ok (.imul, 1) := by decide +kernel
theorem dX0_load_22 : decode cX0_load 22 = .ok (.aload_n 0, 1) := by decide +kernel
theorem dX0_load_23 : decode cX0_load 23 = .ok (.getfield 11, 3) := by decide +kernel
theorem dX0_load_26 : decode cX0_load 26 = .ok (.iload_n 1, 1) := by decide +kernel
theorem dX0_load_27 : decode cX0_load 27 = .ok (.bipush 16, 2) := by decide +kernel
theorem dX0_load_29 : decode cX0_load 29 = .ok (.imul, 1) := by decide +kernel
theorem dX0_load_30 : decode cX0_load 30 = .ok (.bipush 16, 2) := by decide +kernel
theorem dX0_load_32 : decode cX0_load 32 = .ok (.invokestatic 40, 3) := by decide +kernel
theorem dX0_load_35 : decode cX0_load 35 = .ok (.aload_n 0, 1) := by decide +kernel
theorem dX0_load_36 : decode cX0_load 36 = .ok (.getfield 25, 3) := by decide +kernel
theorem dX0_load_39 : decode cX0_load 39 = .ok (.iload_n 1, 1) := by decide +kernel
theorem dX0_load_40 : decode cX0_load 40 = .ok (.iconst 0, 1) := by decide +kernel
theorem dX0_load_41 : decode cX0_load 41 = .ok (.bastore, 1) := by decide +kernel
theorem dX0_load_42 : decode cX0_load 42 = .ok (.iinc 1 1, 3) := by decide +kernel
theorem dX0_load_45 : decode cX0_load 45 = .ok (.goto (-43), 3) := by decide +kernel
theorem dX0_load_48 : decode cX0_load 48 = .ok (.return_, 1) := by decide +kernel
theorem dX0_keptCopy_0 : decode cX0_keptCopy 0 = .ok (.aload_n 0, 1) := by decide +kernel
theorem dX0_keptCopy_1 : decode cX0_keptCopy 1 = .ok (.getfield 22, 3) := by decide +kernel
theorem dX0_keptCopy_4 : decode cX0_keptCopy 4 = .ok (.iconst 1, 1) := by decide +kernel
theorem dX0_keptCopy_5 : decode cX0_keptCopy 5 = .ok (.aaload, 1) := by decide +kernel
theorem dX0_keptCopy_6 : decode cX0_keptCopy 6 = .ok (.iload_n 1, 1) := by decide +kernel
theorem dX0_keptCopy_7 : decode cX0_keptCopy 7 = .ok (.iaload, 1) := by decide +kernel
theorem dX0_keptCopy_8 : decode cX0_keptCopy 8 = .ok (.aload_n 0, 1) := by decide +kernel
theorem dX0_keptCopy_9 : decode cX0_keptCopy 9 = .ok (.getfield 22, 3) := by decide +kernel
theorem dX0_keptCopy_12 : decode cX0_keptCopy 12 = .ok (.iconst 0, 1) := by decide +kernel
theorem dX0_keptCopy_13 : decode cX0_keptCopy 13 = .ok (.aaload, 1) := by decide +kernel
theorem dX0_keptCopy_14 : decode cX0_keptCopy 14 = .ok (.iload_n 1, 1) := by decide +kernel
theorem dX0_keptCopy_15 : decode cX0_keptCopy 15 = .ok (.iaload, 1) := by decide +kernel
theorem dX0_keptCopy_16 : decode cX0_keptCopy 16 = .ok (.if_icmp .le 7, 3) := by decide +kernel
theorem dX0_keptCopy_19 : decode cX0_keptCopy 19 = .ok (.iconst 1, 1) := by decide +kernel
theorem dX0_keptCopy_20 : decode cX0_keptCopy 20 = .ok (.goto 4, 3) := by decide +kernel
theorem dX0_keptCopy_23 : decode cX0_keptCopy 23 = .ok (.iconst 0, 1) := by decide +kernel
theorem dX0_keptCopy_24 : decode cX0_keptCopy 24 = .ok (.ireturn, 1) := by decide +kernel
theorem dX1_init_0 : decode cX1_init 0 = .ok (.aload_n 0, 1) := by decide +kernel
theorem dX1_init_1 : decode cX1_init 1 = .ok (.invokespecial 3, 3) := by decide +kernel
theorem dX1_init_4 : decode cX1_init 4 = .ok (.aload_n 0, 1) := by decide +kernel
theorem dX1_init_5 : decode cX1_init 5 = .ok (.bipush 21, 2) := by decide +kernel
theorem dX1_init_7 : decode cX1_init 7 = .ok (.newarray .boolean, 2) := by decide +kernel
theorem dX1_init_9 : decode cX1_init 9 = .ok (.putfield 9, 3) := by decide +kernel
theorem dX1_init_12 : decode cX1_init 12 = .ok (.aload_n 0, 1) := by decide +kernel
theorem dX1_init_13 : decode cX1_init 13 = .ok (.bipush 21, 2) := by decide +kernel
theorem dX1_init_15 : decode cX1_init 15 = .ok (.newarray .int, 2) := by decide +kernel
theorem dX1_init_17 : decode cX1_init 17 = .ok (.putfield 13, 3) := by decide +kernel
theorem dX1_init_20 : decode cX1_init 20 = .ok (.aload_n 0, 1) := by decide +kernel
theorem dX1_init_21 : decode cX1_init 21 = .ok (.bipush 21, 2) := by decide +kernel
theorem dX1_init_23 : decode cX1_init 23 = .ok (.newarray .boolean, 2) := by decide +kernel
theorem dX1_init_25 : decode cX1_init 25 = .ok (.putfield 17, 3) := by decide +kernel
theorem dX1_init_28 : decode cX1_init 28 = .ok (.aload_n 0, 1) := by decide +kernel
theorem dX1_init_29 : decode cX1_init 29 = .ok (.bipush 40, 2) := by decide +kernel
theorem dX1_init_31 : decode cX1_init 31 = .ok (.newarray .int, 2) := by decide +kernel
theorem dX1_init_33 : decode cX1_init 33 = .ok (.putfield 20, 3) := by decide +kernel
theorem dX1_init_36 : decode cX1_init 36 = .ok (.return_, 1) := by decide +kernel
theorem dX1_has_0 : decode cX1_has 0 = .ok (.iload_n 0, 1) := by decide +kernel
theorem dX1_has_1 : decode cX1_has 1 = .ok (.iconst 1, 1) := by decide +kernel
theorem dX1_has_2 : decode cX1_has 2 = .ok (.if_icmp .lt 13, 3) := by decide +kernel
theorem dX1_has_5 : decode cX1_has 5 = .ok (.iload_n 0, 1) := by decide +kernel
theorem dX1_has_6 : decode cX1_has 6 = .ok (.bipush 20, 2) := by decide +kernel
theorem dX1_has_8 : decode cX1_has 8 = .ok (.if_icmp .gt 7, 3) := by decide +kernel
theorem dX1_has_11 : decode cX1_has 11 = .ok (.iconst 1, 1) := by decide +kernel
theorem dX1_has_12 : decode cX1_has 12 = .ok (.goto 4, 3) := by decide +kernel
theorem dX1_has_15 : decode cX1_has 15 = .ok (.iconst 0, 1) := by decide +kernel
theorem dX1_has_16 : decode cX1_has 16 = .ok (.ireturn, 1) := by decide +kernel
theorem dX1_howMany_0 : decode cX1_howMany 0 = .ok (.aload_n 0, 1) := by decide +kernel
theorem dX1_howMany_1 : decode cX1_howMany 1 = .ok (.getfield 23, 3) := by decide +kernel
theorem dX1_howMany_4 : decode cX1_howMany 4 = .ok (.ireturn, 1) := by decide +kernel
set_option maxRecDepth 20000 in
theorem ggX1_tell_X1_has : GoodIn wsX1_tell wsX1_has := goodIn_r _ [8] (by decide +kernel) (by decide +kernel)
set_option maxRecDepth 20000 in
theorem gX1_tell_X1_has : GoodIn wsX1_tell (va_wsS RX1 27 yX1_has wsX1_has) := goodIn_app (goodIn_of _ (by decide +kernel)) ggX1_tell_X1_has
theorem dX1_tell_0 : decode cX1_tell 0 = .ok (.iload_n 1, 1) := by decide +kernel
theorem dX1_tell_1 : decode cX1_tell 1 = .ok (.invokestatic 27, 3) := by decide +kernel
theorem dX1_tell_4 : decode cX1_tell 4 = .ok (.ifCond .ne 4, 3) := by decide +kernel
theorem dX1_tell_7 : decode cX1_tell 7 = .ok (.return_, 1) := by decide +kernel
theorem dX1_tell_8 : decode cX1_tell 8 = .ok (.aload_n 0, 1) := by decide +kernel
theorem dX1_tell_9 : decode cX1_tell 9 = .ok (.getfield 9, 3) := by decide +kernel
theorem dX1_tell_12 : decode cX1_tell 12 = .ok (.iload_n 1, 1) := by decide +kernel
theorem dX1_tell_13 : decode cX1_tell 13 = .ok (.baload, 1) := by decide +kernel
theorem dX1_tell_14 : decode cX1_tell 14 = .ok (.ifCond .ne 20, 3) := by decide +kernel
theorem dX1_tell_17 : decode cX1_tell 17 = .ok (.aload_n 0, 1) := by decide +kernel
theorem dX1_tell_18 : decode cX1_tell 18 = .ok (.getfield 9, 3) := by decide +kernel
theorem dX1_tell_21 : decode cX1_tell 21 = .ok (.iload_n 1, 1) := by decide +kernel
theorem dX1_tell_22 : decode cX1_tell 22 = .ok (.iconst 1, 1) := by decide +kernel
theorem dX1_tell_23 : decode cX1_tell 23 = .ok (.bastore, 1) := by decide +kernel
theorem dX1_tell_24 : decode cX1_tell 24 = .ok (.aload_n 0, 1) := by decide +kernel
theorem dX1_tell_25 : decode cX1_tell 25 = .ok (.dup, 1) := by decide +kernel
theorem dX1_tell_26 : decode cX1_tell 26 = .ok (.getfield 23, 3) := by decide +kernel
theorem dX1_tell_29 : decode cX1_tell 29 = .ok (.iconst 1, 1) := by decide +kernel
theorem dX1_tell_30 : decode cX1_tell 30 = .ok (.iadd, 1) := by decide +kernel
theorem dX1_tell_31 : decode cX1_tell 31 = .ok (.putfield 23, 3) := by decide +kernel
theorem dX1_tell_34 : decode cX1_tell 34 = .ok (.aload_n 0, 1) := by decide +kernel
theorem dX1_tell_35 : decode cX1_tell 35 = .ok (.getfield 13, 3) := by decide +kernel
theorem dX1_tell_38 : decode cX1_tell 38 = .ok (.iload_n 1, 1) := by decide +kernel
theorem dX1_tell_39 : decode cX1_tell 39 = .ok (.iload_n 2, 1) := by decide +kernel
theorem dX1_tell_40 : decode cX1_tell 40 = .ok (.bipush 21, 2) := by decide +kernel
theorem dX1_tell_42 : decode cX1_tell 42 = .ok (.imul, 1) := by decide +kernel
theorem dX1_tell_43 : decode cX1_tell 43 = .ok (.iload_n 1, 1) := by decide +kernel
theorem dX1_tell_44 : decode cX1_tell 44 = .ok (.iadd, 1) := by decide +kernel
theorem dX1_tell_45 : decode cX1_tell 45 = .ok (.iastore, 1) := by decide +kernel
theorem dX1_tell_46 : decode cX1_tell 46 = .ok (.aload_n 0, 1) := by decide +kernel
theorem dX1_tell_47 : decode cX1_tell 47 = .ok (.getfield 17, 3) := by decide +kernel
theorem dX1_tell_50 : decode cX1_tell 50 = .ok (.iload_n 1, 1) := by decide +kernel
theorem dX1_tell_51 : decode cX1_tell 51 = .ok (.iload_n 3, 1) := by decide +kernel
theorem dX1_tell_52 : decode cX1_tell 52 = .ok (.bastore, 1) := by decide +kernel
theorem dX1_tell_53 : decode cX1_tell 53 = .ok (.return_, 1) := by decide +kernel
set_option maxRecDepth 20000 in
theorem ggX1_beginAll_X1_placeBehind : GoodIn wsX1_beginAll wsX1_placeBehind := goodIn_ca (goodIn_r _ [7, 8, 9, 26, 27, 28, 29, 30, 31] (by decide +kernel) (by decide +kernel)) (goodIn_sub (fun _ h => List.mem_cons_of_mem _ (List.mem_append_right _ h)) (by decide +kernel))
set_option maxRecDepth 20000 in
theorem gX1_beginAll_X1_placeBehind : GoodIn wsX1_beginAll (wsV RX1 34 RX1 yX1_placeBehind wsX1_placeBehind) := goodIn_app (goodIn_of _ (by decide +kernel)) ggX1_beginAll_X1_placeBehind
set_option maxRecDepth 20000 in
theorem ggX1_beginAll_X1_note : GoodIn wsX1_beginAll wsX1_note := goodIn_ca (goodIn_r _ [13, 1, 14, 26, 27, 28, 29, 30, 31] (by decide +kernel) (by decide +kernel)) (goodIn_sub (fun _ h => List.mem_cons_of_mem _ (List.mem_append_right _ h)) (by decide +kernel))
set_option maxRecDepth 20000 in
theorem gX1_beginAll_X1_note : GoodIn wsX1_beginAll (wsV RX1 38 RX1 yX1_note wsX1_note) := goodIn_app (goodIn_of _ (by decide +kernel)) ggX1_beginAll_X1_note
set_option maxRecDepth 20000 in
theorem ggX1_beginAll_X1_has : GoodIn wsX1_beginAll wsX1_has := goodIn_r _ [17] (by decide +kernel) (by decide +kernel)
set_option maxRecDepth 20000 in
theorem gX1_beginAll_X1_has : GoodIn wsX1_beginAll (va_wsS RX1 27 yX1_has wsX1_has) := goodIn_app (goodIn_of _ (by decide +kernel)) ggX1_beginAll_X1_has
set_option maxRecDepth 20000 in
theorem ggX1_beginAll_X1_endThoseBeforeTheLast : GoodIn wsX1_beginAll wsX1_endThoseBeforeTheLast := goodIn_ca (goodIn_r _ [21, 1, 22, 23, 24, 6, 25, 14, 10, 11, 12, 13, 26, 27, 28, 29, 30, 31] (by decide +kernel) (by decide +kernel)) (goodIn_sub (fun _ h => List.mem_cons_of_mem _ (List.mem_append_right _ h)) (by decide +kernel))
set_option maxRecDepth 20000 in
theorem gX1_beginAll_X1_endThoseBeforeTheLast : GoodIn wsX1_beginAll (wsV RX1 42 RX1 yX1_endThoseBeforeTheLast wsX1_endThoseBeforeTheLast) := goodIn_app (goodIn_of _ (by decide +kernel)) ggX1_beginAll_X1_endThoseBeforeTheLast
theorem dX1_beginAll_0 : decode cX1_beginAll 0 = .ok (.aload_n 0, 1) := by decide +kernel
theorem dX1_beginAll_1 : decode cX1_beginAll 1 = .ok (.iconst 0, 1) := by decide +kernel
theorem dX1_beginAll_2 : decode cX1_beginAll 2 = .ok (.putfield 31, 3) := by decide +kernel
theorem dX1_beginAll_5 : decode cX1_beginAll 5 = .ok (.aload_n 0, 1) := by decide +kernel
theorem dX1_beginAll_6 : decode cX1_beginAll 6 = .ok (.iconst (-1), 1) := by decide +kernel
theorem dX1_beginAll_7 : decode cX1_beginAll 7 = .ok (.invokevirtual 34, 3) := by decide +kernel
theorem dX1_beginAll_10 : decode cX1_beginAll 10 = .ok (.istore_n 1, 1) := by decide +kernel
theorem dX1_beginAll_11 : decode cX1_beginAll 11 = .ok (.iconst 0, 1) := by decide +kernel
theorem dX1_beginAll_12 : decode cX1_beginAll 12 = .ok (.istore_n 2, 1) := by decide +kernel
theorem dX1_beginAll_13 : decode cX1_beginAll 13 = .ok (.iload_n 2, 1) := by decide +kernel
theorem dX1_beginAll_14 : decode cX1_beginAll 14 = .ok (.bipush 20, 2) := by decide +kernel
theorem dX1_beginAll_16 : decode cX1_beginAll 16 = .ok (.if_icmp .ge 52, 3) := by decide +kernel
theorem dX1_beginAll_19 : decode cX1_beginAll 19 = .ok (.iload_n 1, 1) := by decide +kernel
theorem dX1_beginAll_20 : decode cX1_beginAll 20 = .ok (.iconst (-1), 1) := by decide +kernel
theorem dX1_beginAll_21 : decode cX1_beginAll 21 = .ok (.if_icmp .eq 47, 3) := by decide +kernel
theorem dX1_beginAll_24 : decode cX1_beginAll 24 = .ok (.iload_n 1, 1) := by decide +kernel
theorem dX1_beginAll_25 : decode cX1_beginAll 25 = .ok (.bipush 21, 2) := by decide +kernel
theorem dX1_beginAll_27 : decode cX1_beginAll 27 = .ok (.irem, 1) := by decide +kernel
theorem dX1_beginAll_28 : decode cX1_beginAll 28 = .ok (.istore_n 3, 1) := by decide +kernel
theorem dX1_beginAll_29 : decode cX1_beginAll 29 = .ok (.aload_n 0, 1) := by decide +kernel
theorem dX1_beginAll_30 : decode cX1_beginAll 30 = .ok (.iload_n 3, 1) := by decide +kernel
theorem dX1_beginAll_31 : decode cX1_beginAll 31 = .ok (.invokevirtual 38, 3) := by decide +kernel
theorem dX1_beginAll_34 : decode cX1_beginAll 34 = .ok (.iload_n 3, 1) := by decide +kernel
theorem dX1_beginAll_35 : decode cX1_beginAll 35 = .ok (.invokestatic 27, 3) := by decide +kernel
theorem dX1_beginAll_38 : decode cX1_beginAll 38 = .ok (.ifCond .eq 18, 3) := by decide +kernel
theorem dX1_beginAll_41 : decode cX1_beginAll 41 = .ok (.aload_n 0, 1) := by decide +kernel
theorem dX1_beginAll_42 : decode cX1_beginAll 42 = .ok (.getfield 17, 3) := by decide +kernel
theorem dX1_beginAll_45 : decode cX1_beginAll 45 = .ok (.iload_n 3, 1) := by decide +kernel
theorem dX1_beginAll_46 : decode cX1_beginAll 46 = .ok (.baload, 1) := by decide +kernel
theorem dX1_beginAll_47 : decode cX1_beginAll 47 = .ok (.ifCond .eq 9, 3) := by decide +kernel
theorem dX1_beginAll_50 : decode cX1_beginAll 50 = .ok (.aload_n 0, 1) := by decide +kernel
theorem dX1_beginAll_51 : decode cX1_beginAll 51 = .ok (.invokevirtual 42, 3) := by decide +kernel
theorem dX1_beginAll_54 : decode cX1_beginAll 54 = .ok (.iconst 0, 1) := by decide +kernel
theorem dX1_beginAll_55 : decode cX1_beginAll 55 = .ok (.ireturn, 1) := by decide +kernel
theorem dX1_beginAll_56 : decode cX1_beginAll 56 = .ok (.aload_n 0, 1) := by decide +kernel
theorem dX1_beginAll_57 : decode cX1_beginAll 57 = .ok (.iload_n 1, 1) := by decide +kernel
theorem dX1_beginAll_58 : decode cX1_beginAll 58 = .ok (.invokevirtual 34, 3) := by decide +kernel
theorem dX1_beginAll_61 : decode cX1_beginAll 61 = .ok (.istore_n 1, 1) := by decide +kernel
theorem dX1_beginAll_62 : decode cX1_beginAll 62 = .ok (.iinc 2 1, 3) := by decide +kernel
theorem dX1_beginAll_65 : decode cX1_beginAll 65 = .ok (.goto (-52), 3) := by decide +kernel
theorem dX1_beginAll_68 : decode cX1_beginAll 68 = .ok (.iconst 1, 1) := by decide +kernel
theorem dX1_beginAll_69 : decode cX1_beginAll 69 = .ok (.ireturn, 1) := by decide +kernel
theorem dX1_thing_0 : decode cX1_thing 0 = .ok (.iload_n 1, 1) := by decide +kernel
theorem dX1_thing_1 : decode cX1_thing 1 = .ok (.ifCond .lt 29, 3) := by decide +kernel
theorem dX1_thing_4 : decode cX1_thing 4 = .ok (.iload_n 1, 1) := by decide +kernel
theorem dX1_thing_5 : decode cX1_thing 5 = .ok (.aload_n 0, 1) := by decide +kernel
theorem dX1_thing_6 : decode cX1_thing 6 = .ok (.getfield 31, 3) := by decide +kernel
theorem dX1_thing_9 : decode cX1_thing 9 = .ok (.if_icmp .ge 21, 3) := by decide +kernel
theorem dX1_thing_12 : decode cX1_thing 12 = .ok (.iload_n 1, 1) := by decide +kernel
theorem dX1_thing_13 : decode cX1_thing 13 = .ok (.aload_n 0, 1) := by decide +kernel
theorem dX1_thing_14 : decode cX1_thing 14 = .ok (.getfield 20, 3) := by decide +kernel
theorem dX1_thing_17 : decode cX1_thing 17 = .ok (.arraylength, 1) := by decide +kernel
theorem dX1_thing_18 : decode cX1_thing 18 = .ok (.if_icmp .ge 12, 3) := by decide +kernel
theorem dX1_thing_21 : decode cX1_thing 21 = .ok (.aload_n 0, 1) := by decide +kernel
theorem dX1_thing_22 : decode cX1_thing 22 = .ok (.getfield 20, 3) := by decide +kernel
theorem dX1_thing_25 : decode cX1_thing 25 = .ok (.iload_n 1, 1) := by decide +kernel
theorem dX1_thing_26 : decode cX1_thing 26 = .ok (.iaload, 1) := by decide +kernel
theorem dX1_thing_27 : decode cX1_thing 27 = .ok (.goto 4, 3) := by decide +kernel
theorem dX1_thing_30 : decode cX1_thing 30 = .ok (.iconst 0, 1) := by decide +kernel
theorem dX1_thing_31 : decode cX1_thing 31 = .ok (.ireturn, 1) := by decide +kernel
theorem dX1_placeBehind_0 : decode cX1_placeBehind 0 = .ok (.iconst (-1), 1) := by decide +kernel
theorem dX1_placeBehind_1 : decode cX1_placeBehind 1 = .ok (.istore_n 2, 1) := by decide +kernel
theorem dX1_placeBehind_2 : decode cX1_placeBehind 2 = .ok (.iconst 1, 1) := by decide +kernel
theorem dX1_placeBehind_3 : decode cX1_placeBehind 3 = .ok (.istore_n 3, 1) := by decide +kernel
theorem dX1_placeBehind_4 : decode cX1_placeBehind 4 = .ok (.iload_n 3, 1) := by decide +kernel
theorem dX1_placeBehind_5 : decode cX1_placeBehind 5 = .ok (.bipush 20, 2) := by decide +kernel
theorem dX1_placeBehind_7 : decode cX1_placeBehind 7 = .ok (.if_icmp .gt 50, 3) := by decide +kernel
theorem dX1_placeBehind_10 : decode cX1_placeBehind 10 = .ok (.aload_n 0, 1) := by decide +kernel
theorem dX1_placeBehind_11 : decode cX1_placeBehind 11 = .ok (.getfield 9, 3) := by decide +kernel
theorem dX1_placeBehind_14 : decode cX1_placeBehind 14 = .ok (.iload_n 3, 1) := by decide +kernel
end
section
theorem dX1_placeBehind_15 : decode cX1_placeBehind 15 = .ok (.baload, 1) := by decide +kernel
theorem dX1_placeBehind_16 : decode cX1_placeBehind 16 = .ok (.ifCond .eq 35, 3) := by decide +kernel
theorem dX1_placeBehind_19 : decode cX1_placeBehind 19 = .ok (.aload_n 0, 1) := by decide +kernel
theorem dX1_placeBehind_20 : decode cX1_placeBehind 20 = .ok (.getfield 13, 3) := by decide +kernel
theorem dX1_placeBehind_23 : decode cX1_placeBehind 23 = .ok (.iload_n 3, 1) := by decide +kernel
theorem dX1_placeBehind_24 : decode cX1_placeBehind 24 = .ok (.iaload, 1) := by decide +kernel
theorem dX1_placeBehind_25 : decode cX1_placeBehind 25 = .ok (.iload_n 1, 1) := by decide +kernel
theorem dX1_placeBehind_26 : decode cX1_placeBehind 26 = .ok (.if_icmp .le 25, 3) := by decide +kernel
theorem dX1_placeBehind_29 : decode cX1_placeBehind 29 = .ok (.iload_n 2, 1) := by decide +kernel
theorem dX1_placeBehind_30 : decode cX1_placeBehind 30 = .ok (.iconst (-1), 1) := by decide +kernel
theorem dX1_placeBehind_31 : decode cX1_placeBehind 31 = .ok (.if_icmp .eq 13, 3) := by decide +kernel
theorem dX1_placeBehind_34 : decode cX1_placeBehind 34 = .ok (.aload_n 0, 1) := by decide +kernel
theorem dX1_placeBehind_35 : decode cX1_placeBehind 35 = .ok (.getfield 13, 3) := by decide +kernel
theorem dX1_placeBehind_38 : decode cX1_placeBehind 38 = .ok (.iload_n 3, 1) := by decide +kernel
theorem dX1_placeBehind_39 : decode cX1_placeBehind 39 = .ok (.iaload, 1) := by decide +kernel
theorem dX1_placeBehind_40 : decode cX1_placeBehind 40 = .ok (.iload_n 2, 1) := by decide +kernel
theorem dX1_placeBehind_41 : decode cX1_placeBehind 41 = .ok (.if_icmp .ge 10, 3) := by decide +kernel
theorem dX1_placeBehind_44 : decode cX1_placeBehind 44 = .ok (.aload_n 0, 1) := by decide +kernel
theorem dX1_placeBehind_45 : decode cX1_placeBehind 45 = .ok (.getfield 13, 3) := by decide +kernel
theorem dX1_placeBehind_48 : decode cX1_placeBehind 48 = .ok (.iload_n 3, 1) := by decide +kernel
theorem dX1_placeBehind_49 : decode cX1_placeBehind 49 = .ok (.iaload, 1) := by decide +kernel
theorem dX1_placeBehind_50 : decode cX1_placeBehind 50 = .ok (.istore_n 2, 1) := by decide +kernel
theorem dX1_placeBehind_51 : decode cX1_placeBehind 51 = .ok (.iinc 3 1, 3) := by decide +kernel
theorem dX1_placeBehind_54 : decode cX1_placeBehind 54 = .ok (.goto (-50), 3) := by decide +kernel
theorem dX1_placeBehind_57 : decode cX1_placeBehind 57 = .ok (.iload_n 2, 1) := by decide +kernel
theorem dX1_placeBehind_58 : decode cX1_placeBehind 58 = .ok (.ireturn, 1) := by decide +kernel
set_option maxRecDepth 20000 in
theorem ggX1_endThoseBeforeTheLast_X1_thing : GoodIn wsX1_endThoseBeforeTheLast wsX1_thing := goodIn_ca (goodIn_r _ [6, 1, 7, 12, 13, 14, 15, 16, 17] (by decide +kernel) (by decide +kernel)) (goodIn_sub (fun _ h => List.mem_cons_of_mem _ (List.mem_append_right _ h)) (by decide +kernel))
set_option maxRecDepth 20000 in
theorem gX1_endThoseBeforeTheLast_X1_thing : GoodIn wsX1_endThoseBeforeTheLast (wsV RX1 45 RX1 yX1_thing wsX1_thing) := goodIn_app (goodIn_of _ (by decide +kernel)) ggX1_endThoseBeforeTheLast_X1_thing
set_option maxRecDepth 20000 in
theorem ggX1_endThoseBeforeTheLast_X1_note : GoodIn wsX1_endThoseBeforeTheLast wsX1_note := goodIn_ca (goodIn_r _ [11, 1, 7, 12, 13, 14, 15, 16, 17] (by decide +kernel) (by decide +kernel)) (goodIn_sub (fun _ h => List.mem_cons_of_mem _ (List.mem_append_right _ h)) (by decide +kernel))
set_option maxRecDepth 20000 in
theorem gX1_endThoseBeforeTheLast_X1_note : GoodIn wsX1_endThoseBeforeTheLast (wsV RX1 38 RX1 yX1_note wsX1_note) := goodIn_app (goodIn_of _ (by decide +kernel)) ggX1_endThoseBeforeTheLast_X1_note
theorem dX1_endThoseBeforeTheLast_0 : decode cX1_endThoseBeforeTheLast 0 = .ok (.aload_n 0, 1) := by decide +kernel
theorem dX1_endThoseBeforeTheLast_1 : decode cX1_endThoseBeforeTheLast 1 = .ok (.getfield 31, 3) := by decide +kernel
theorem dX1_endThoseBeforeTheLast_4 : decode cX1_endThoseBeforeTheLast 4 = .ok (.iconst 2, 1) := by decide +kernel
theorem dX1_endThoseBeforeTheLast_5 : decode cX1_endThoseBeforeTheLast 5 = .ok (.isub, 1) := by decide +kernel
theorem dX1_endThoseBeforeTheLast_6 : decode cX1_endThoseBeforeTheLast 6 = .ok (.istore_n 1, 1) := by decide +kernel
theorem dX1_endThoseBeforeTheLast_7 : decode cX1_endThoseBeforeTheLast 7 = .ok (.iload_n 1, 1) := by decide +kernel
theorem dX1_endThoseBeforeTheLast_8 : decode cX1_endThoseBeforeTheLast 8 = .ok (.ifCond .lt 19, 3) := by decide +kernel
theorem dX1_endThoseBeforeTheLast_11 : decode cX1_endThoseBeforeTheLast 11 = .ok (.aload_n 0, 1) := by decide +kernel
theorem dX1_endThoseBeforeTheLast_12 : decode cX1_endThoseBeforeTheLast 12 = .ok (.aload_n 0, 1) := by decide +kernel
theorem dX1_endThoseBeforeTheLast_13 : decode cX1_endThoseBeforeTheLast 13 = .ok (.iload_n 1, 1) := by decide +kernel
theorem dX1_endThoseBeforeTheLast_14 : decode cX1_endThoseBeforeTheLast 14 = .ok (.invokevirtual 45, 3) := by decide +kernel
theorem dX1_endThoseBeforeTheLast_17 : decode cX1_endThoseBeforeTheLast 17 = .ok (.ineg, 1) := by decide +kernel
theorem dX1_endThoseBeforeTheLast_18 : decode cX1_endThoseBeforeTheLast 18 = .ok (.invokevirtual 38, 3) := by decide +kernel
theorem dX1_endThoseBeforeTheLast_21 : decode cX1_endThoseBeforeTheLast 21 = .ok (.iinc 1 (-1), 3) := by decide +kernel
theorem dX1_endThoseBeforeTheLast_24 : decode cX1_endThoseBeforeTheLast 24 = .ok (.goto (-17), 3) := by decide +kernel
theorem dX1_endThoseBeforeTheLast_27 : decode cX1_endThoseBeforeTheLast 27 = .ok (.return_, 1) := by decide +kernel
theorem dX1_note_0 : decode cX1_note 0 = .ok (.aload_n 0, 1) := by decide +kernel
theorem dX1_note_1 : decode cX1_note 1 = .ok (.getfield 31, 3) := by decide +kernel
theorem dX1_note_4 : decode cX1_note 4 = .ok (.ifCond .lt 35, 3) := by decide +kernel
theorem dX1_note_7 : decode cX1_note 7 = .ok (.aload_n 0, 1) := by decide +kernel
theorem dX1_note_8 : decode cX1_note 8 = .ok (.getfield 31, 3) := by decide +kernel
theorem dX1_note_11 : decode cX1_note 11 = .ok (.aload_n 0, 1) := by decide +kernel
theorem dX1_note_12 : decode cX1_note 12 = .ok (.getfield 20, 3) := by decide +kernel
theorem dX1_note_15 : decode cX1_note 15 = .ok (.arraylength, 1) := by decide +kernel
theorem dX1_note_16 : decode cX1_note 16 = .ok (.if_icmp .ge 23, 3) := by decide +kernel
theorem dX1_note_19 : decode cX1_note 19 = .ok (.aload_n 0, 1) := by decide +kernel
theorem dX1_note_20 : decode cX1_note 20 = .ok (.getfield 20, 3) := by decide +kernel
theorem dX1_note_23 : decode cX1_note 23 = .ok (.aload_n 0, 1) := by decide +kernel
theorem dX1_note_24 : decode cX1_note 24 = .ok (.getfield 31, 3) := by decide +kernel
theorem dX1_note_27 : decode cX1_note 27 = .ok (.iload_n 1, 1) := by decide +kernel
theorem dX1_note_28 : decode cX1_note 28 = .ok (.iastore, 1) := by decide +kernel
theorem dX1_note_29 : decode cX1_note 29 = .ok (.aload_n 0, 1) := by decide +kernel
theorem dX1_note_30 : decode cX1_note 30 = .ok (.dup, 1) := by decide +kernel
theorem dX1_note_31 : decode cX1_note 31 = .ok (.getfield 31, 3) := by decide +kernel
theorem dX1_note_34 : decode cX1_note 34 = .ok (.iconst 1, 1) := by decide +kernel
theorem dX1_note_35 : decode cX1_note 35 = .ok (.iadd, 1) := by decide +kernel
theorem dX1_note_36 : decode cX1_note 36 = .ok (.putfield 31, 3) := by decide +kernel
theorem dX1_note_39 : decode cX1_note 39 = .ok (.return_, 1) := by decide +kernel
theorem dX2_init_0 : decode cX2_init 0 = .ok (.aload_n 0, 1) := by decide +kernel
theorem dX2_init_1 : decode cX2_init 1 = .ok (.invokespecial 1, 3) := by decide +kernel
theorem dX2_init_4 : decode cX2_init 4 = .ok (.aload_n 0, 1) := by decide +kernel
theorem dX2_init_5 : decode cX2_init 5 = .ok (.bipush 17, 2) := by decide +kernel
theorem dX2_init_7 : decode cX2_init 7 = .ok (.newarray .boolean, 2) := by decide +kernel
theorem dX2_init_9 : decode cX2_init 9 = .ok (.putfield 9, 3) := by decide +kernel
theorem dX2_init_12 : decode cX2_init 12 = .ok (.return_, 1) := by decide +kernel
theorem dX2_has_0 : decode cX2_has 0 = .ok (.iload_n 0, 1) := by decide +kernel
theorem dX2_has_1 : decode cX2_has 1 = .ok (.iconst 1, 1) := by decide +kernel
theorem dX2_has_2 : decode cX2_has 2 = .ok (.if_icmp .lt 13, 3) := by decide +kernel
theorem dX2_has_5 : decode cX2_has 5 = .ok (.iload_n 0, 1) := by decide +kernel
theorem dX2_has_6 : decode cX2_has 6 = .ok (.bipush 16, 2) := by decide +kernel
theorem dX2_has_8 : decode cX2_has 8 = .ok (.if_icmp .gt 7, 3) := by decide +kernel
theorem dX2_has_11 : decode cX2_has 11 = .ok (.iconst 1, 1) := by decide +kernel
theorem dX2_has_12 : decode cX2_has 12 = .ok (.goto 4, 3) := by decide +kernel
theorem dX2_has_15 : decode cX2_has 15 = .ok (.iconst 0, 1) := by decide +kernel
theorem dX2_has_16 : decode cX2_has 16 = .ok (.ireturn, 1) := by decide +kernel
theorem dX2_howMany_0 : decode cX2_howMany 0 = .ok (.aload_n 0, 1) := by decide +kernel
theorem dX2_howMany_1 : decode cX2_howMany 1 = .ok (.getfield 13, 3) := by decide +kernel
theorem dX2_howMany_4 : decode cX2_howMany 4 = .ok (.ireturn, 1) := by decide +kernel
set_option maxRecDepth 20000 in
theorem ggX2_set_X2_has : GoodIn wsX2_set wsX2_has := goodIn_r _ [6] (by decide +kernel) (by decide +kernel)
set_option maxRecDepth 20000 in
theorem gX2_set_X2_has : GoodIn wsX2_set (va_wsS RX2 17 yX2_has wsX2_has) := goodIn_app (goodIn_of _ (by decide +kernel)) ggX2_set_X2_has
theorem dX2_set_0 : decode cX2_set 0 = .ok (.iload_n 1, 1) := by decide +kernel
theorem dX2_set_1 : decode cX2_set 1 = .ok (.invokestatic 17, 3) := by decide +kernel
theorem dX2_set_4 : decode cX2_set 4 = .ok (.ifCond .eq 13, 3) := by decide +kernel
theorem dX2_set_7 : decode cX2_set 7 = .ok (.aload_n 0, 1) := by decide +kernel
theorem dX2_set_8 : decode cX2_set 8 = .ok (.getfield 9, 3) := by decide +kernel
theorem dX2_set_11 : decode cX2_set 11 = .ok (.iload_n 1, 1) := by decide +kernel
theorem dX2_set_12 : decode cX2_set 12 = .ok (.baload, 1) := by decide +kernel
theorem dX2_set_13 : decode cX2_set 13 = .ok (.iload_n 2, 1) := by decide +kernel
theorem dX2_set_14 : decode cX2_set 14 = .ok (.if_icmp .ne 5, 3) := by decide +kernel
theorem dX2_set_17 : decode cX2_set 17 = .ok (.iconst 0, 1) := by decide +kernel
theorem dX2_set_18 : decode cX2_set 18 = .ok (.ireturn, 1) := by decide +kernel
theorem dX2_set_19 : decode cX2_set 19 = .ok (.aload_n 0, 1) := by decide +kernel
theorem dX2_set_20 : decode cX2_set 20 = .ok (.getfield 9, 3) := by decide +kernel
theorem dX2_set_23 : decode cX2_set 23 = .ok (.iload_n 1, 1) := by decide +kernel
theorem dX2_set_24 : decode cX2_set 24 = .ok (.iload_n 2, 1) := by decide +kernel
theorem dX2_set_25 : decode cX2_set 25 = .ok (.bastore, 1) := by decide +kernel
theorem dX2_set_26 : decode cX2_set 26 = .ok (.aload_n 0, 1) := by decide +kernel
theorem dX2_set_27 : decode cX2_set 27 = .ok (.dup, 1) := by decide +kernel
theorem dX2_set_28 : decode cX2_set 28 = .ok (.getfield 13, 3) := by decide +kernel
theorem dX2_set_31 : decode cX2_set 31 = .ok (.iload_n 2, 1) := by decide +kernel
theorem dX2_set_32 : decode cX2_set 32 = .ok (.ifCond .eq 7, 3) := by decide +kernel
theorem dX2_set_35 : decode cX2_set 35 = .ok (.iconst 1, 1) := by decide +kernel
theorem dX2_set_36 : decode cX2_set 36 = .ok (.goto 4, 3) := by decide +kernel
theorem dX2_set_39 : decode cX2_set 39 = .ok (.iconst (-1), 1) := by decide +kernel
theorem dX2_set_40 : decode cX2_set 40 = .ok (.iadd, 1) := by decide +kernel
theorem dX2_set_41 : decode cX2_set 41 = .ok (.putfield 13, 3) := by decide +kernel
theorem dX2_set_44 : decode cX2_set 44 = .ok (.iconst 1, 1) := by decide +kernel
theorem dX2_set_45 : decode cX2_set 45 = .ok (.ireturn, 1) := by decide +kernel
theorem dX2_clear_0 : decode cX2_clear 0 = .ok (.iconst 0, 1) := by decide +kernel
theorem dX2_clear_1 : decode cX2_clear 1 = .ok (.istore_n 1, 1) := by decide +kernel
theorem dX2_clear_2 : decode cX2_clear 2 = .ok (.iload_n 1, 1) := by decide +kernel
theorem dX2_clear_3 : decode cX2_clear 3 = .ok (.aload_n 0, 1) := by decide +kernel
theorem dX2_clear_4 : decode cX2_clear 4 = .ok (.getfield 9, 3) := by decide +kernel
theorem dX2_clear_7 : decode cX2_clear 7 = .ok (.arraylength, 1) := by decide +kernel
theorem dX2_clear_8 : decode cX2_clear 8 = .ok (.if_icmp .ge 16, 3) := by decide +kernel
theorem dX2_clear_11 : decode cX2_clear 11 = .ok (.aload_n 0, 1) := by decide +kernel
theorem dX2_clear_12 : decode cX2_clear 12 = .ok (.getfield 9, 3) := by decide +kernel
theorem dX2_clear_15 : decode cX2_clear 15 = .ok (.iload_n 1, 1) := by decide +kernel
theorem dX2_clear_16 : decode cX2_clear 16 = .ok (.iconst 0, 1) := by decide +kernel
theorem dX2_clear_17 : decode cX2_clear 17 = .ok (.bastore, 1) := by decide +kernel
theorem dX2_clear_18 : decode cX2_clear 18 = .ok (.iinc 1 1, 3) := by decide +kernel
theorem dX2_clear_21 : decode cX2_clear 21 = .ok (.goto (-19), 3) := by decide +kernel
theorem dX2_clear_24 : decode cX2_clear 24 = .ok (.aload_n 0, 1) := by decide +kernel
theorem dX2_clear_25 : decode cX2_clear 25 = .ok (.iconst 0, 1) := by decide +kernel
theorem dX2_clear_26 : decode cX2_clear 26 = .ok (.putfield 13, 3) := by decide +kernel
theorem dX2_clear_29 : decode cX2_clear 29 = .ok (.return_, 1) := by decide +kernel
set_option maxRecDepth 20000 in
theorem ggX3_init_X2_init : GoodIn wsX3_init wsX2_init := goodIn_r _ [22, 23, 2, 3, 24, 25, 46, 47] (by decide +kernel) (by decide +kernel)
set_option maxRecDepth 20000 in
theorem gX3_init_X2_init : GoodIn wsX3_init (wsX2_init) := ggX3_init_X2_init
set_option maxRecDepth 20000 in
theorem ggX3_init_X0_init : GoodIn wsX3_init wsX0_init := goodIn_r _ [28, 29, 2, 3, 30, 31, 32, 33, 34, 35, 36, 24, 37, 62, 63, 64, 65] (by decide +kernel) (by decide +kernel)
set_option maxRecDepth 20000 in
theorem gX3_init_X0_init : GoodIn wsX3_init (wsX0_init) := ggX3_init_X0_init
set_option maxRecDepth 20000 in
theorem ggX3_init_X1_init : GoodIn wsX3_init wsX1_init := goodIn_r _ [40, 41, 2, 3, 24, 42, 35, 43, 44, 45, 66, 67, 68, 69, 70, 71] (by decide +kernel) (by decide +kernel)
set_option maxRecDepth 20000 in
theorem gX3_init_X1_init : GoodIn wsX3_init (wsX1_init) := ggX3_init_X1_init
theorem dX3_init_0 : decode cX3_init 0 = .ok (.aload_n 0, 1) := by decide +kernel
theorem dX3_init_1 : decode cX3_init 1 = .ok (.invokespecial 1, 3) := by decide +kernel
theorem dX3_init_4 : decode cX3_init 4 = .ok (.aload_n 0, 1) := by decide +kernel
theorem dX3_init_5 : decode cX3_init 5 = .ok (.new 7, 3) := by decide +kernel
theorem dX3_init_8 : decode cX3_init 8 = .ok (.dup, 1) := by decide +kernel
theorem dX3_init_9 : decode cX3_init 9 = .ok (.invokespecial 9, 3) := by decide +kernel
theorem dX3_init_12 : decode cX3_init 12 = .ok (.putfield 10, 3) := by decide +kernel
theorem dX3_init_15 : decode cX3_init 15 = .ok (.aload_n 0, 1) := by decide +kernel
theorem dX3_init_16 : decode cX3_init 16 = .ok (.new 16, 3) := by decide +kernel
theorem dX3_init_19 : decode cX3_init 19 = .ok (.dup, 1) := by decide +kernel
theorem dX3_init_20 : decode cX3_init 20 = .ok (.invokespecial 18, 3) := by decide +kernel
theorem dX3_init_23 : decode cX3_init 23 = .ok (.putfield 19, 3) := by decide +kernel
theorem dX3_init_26 : decode cX3_init 26 = .ok (.aload_n 0, 1) := by decide +kernel
theorem dX3_init_27 : decode cX3_init 27 = .ok (.new 23, 3) := by decide +kernel
theorem dX3_init_30 : decode cX3_init 30 = .ok (.dup, 1) := by decide +kernel
theorem dX3_init_31 : decode cX3_init 31 = .ok (.invokespecial 25, 3) := by decide +kernel
theorem dX3_init_34 : decode cX3_init 34 = .ok (.putfield 26, 3) := by decide +kernel
theorem dX3_init_37 : decode cX3_init 37 = .ok (.aload_n 0, 1) := by decide +kernel
theorem dX3_init_38 : decode cX3_init 38 = .ok (.iconst 0, 1) := by decide +kernel
theorem dX3_init_39 : decode cX3_init 39 = .ok (.putfield 30, 3) := by decide +kernel
theorem dX3_init_42 : decode cX3_init 42 = .ok (.aload_n 0, 1) := by decide +kernel
theorem dX3_init_43 : decode cX3_init 43 = .ok (.ldc2_w 34, 3) := by decide +kernel
theorem dX3_init_46 : decode cX3_init 46 = .ok (.putfield 36, 3) := by decide +kernel
theorem dX3_init_49 : decode cX3_init 49 = .ok (.aload_n 0, 1) := by decide +kernel
theorem dX3_init_50 : decode cX3_init 50 = .ok (.iconst (-1), 1) := by decide +kernel
theorem dX3_init_51 : decode cX3_init 51 = .ok (.putfield 40, 3) := by decide +kernel
theorem dX3_init_54 : decode cX3_init 54 = .ok (.return_, 1) := by decide +kernel
set_option maxRecDepth 20000 in
theorem ggX3_user_X2_howMany : GoodIn wsX3_user wsX2_howMany := goodIn_r _ [6, 7, 22, 23] (by decide +kernel) (by decide +kernel)
set_option maxRecDepth 20000 in
theorem gX3_user_X2_howMany : GoodIn wsX3_user (wsV RX3 43 RX2 yX2_howMany wsX2_howMany) := goodIn_app (goodIn_of _ (by decide +kernel)) ggX3_user_X2_howMany
theorem dX3_user_0 : decode cX3_user 0 = .ok (.aload_n 0, 1) := by decide +kernel
theorem dX3_user_1 : decode cX3_user 1 = .ok (.getfield 10, 3) := by decide +kernel
theorem dX3_user_4 : decode cX3_user 4 = .ok (.invokevirtual 43, 3) := by decide +kernel
theorem dX3_user_7 : decode cX3_user 7 = .ok (.ireturn, 1) := by decide +kernel
set_option maxRecDepth 20000 in
theorem ggX3_request_X2_has : GoodIn wsX3_request wsX2_has := goodIn_r _ [6] (by decide +kernel) (by decide +kernel)
set_option maxRecDepth 20000 in
theorem gX3_request_X2_has : GoodIn wsX3_request (va_wsS RX3 47 yX2_has wsX2_has) := goodIn_app (goodIn_of _ (by decide +kernel)) ggX3_request_X2_has
set_option maxRecDepth 20000 in
theorem ggX3_request_X2_set : GoodIn wsX3_request wsX2_set := goodIn_ca (goodIn_r _ [10, 11, 12, 13, 4, 5, 6, 41, 42] (by decide +kernel) (by decide +kernel)) (goodIn_sub (fun _ h => List.mem_cons_of_mem _ (List.mem_append_right _ h)) (by decide +kernel))
set_option maxRecDepth 20000 in
theorem gX3_request_X2_set : GoodIn wsX3_request (wsV RX3 51 RX2 yX2_set wsX2_set) := goodIn_app (goodIn_of _ (by decide +kernel)) ggX3_request_X2_set
set_option maxRecDepth 20000 in
theorem ggX3_request_X3_awaitIdleness : GoodIn wsX3_request wsX3_awaitIdleness := goodIn_r _ [18, 2, 19, 20, 21, 22, 23, 24, 25, 5, 26, 12, 27, 28, 29, 30, 31, 32, 33, 34, 35, 36, 37, 38, 39, 40, 41, 42] (by decide +kernel) (by decide +kernel)
set_option maxRecDepth 20000 in
theorem gX3_request_X3_awaitIdleness : GoodIn wsX3_request (wsV RX3 55 RX3 yX3_awaitIdleness wsX3_awaitIdleness) := goodIn_app (goodIn_of _ (by decide +kernel)) ggX3_request_X3_awaitIdleness
set_option maxRecDepth 20000 in
theorem ggX3_request_X2_howMany : GoodIn wsX3_request wsX2_howMany := goodIn_r _ [26, 12, 41, 42] (by decide +kernel) (by decide +kernel)
set_option maxRecDepth 20000 in
theorem gX3_request_X2_howMany : GoodIn wsX3_request (wsV RX3 43 RX2 yX2_howMany wsX2_howMany) := goodIn_app (goodIn_of _ (by decide +kernel)) ggX3_request_X2_howMany
theorem dX3_request_0 : decode cX3_request 0 = .ok (.iload_n 1, 1) := by decide +kernel
theorem dX3_request_1 : decode cX3_request 1 = .ok (.invokestatic 47, 3) := by decide +kernel
theorem dX3_request_4 : decode cX3_request 4 = .ok (.ifCond .ne 5, 3) := by decide +kernel
theorem dX3_request_7 : decode cX3_request 7 = .ok (.iconst (-1), 1) := by decide +kernel
theorem dX3_request_8 : decode cX3_request 8 = .ok (.ireturn, 1) := by decide +kernel
theorem dX3_request_9 : decode cX3_request 9 = .ok (.aload_n 0, 1) := by decide +kernel
theorem dX3_request_10 : decode cX3_request 10 = .ok (.getfield 30, 3) := by decide +kernel
theorem dX3_request_13 : decode cX3_request 13 = .ok (.ifCond .eq 19, 3) := by decide +kernel
theorem dX3_request_16 : decode cX3_request 16 = .ok (.aload_n 0, 1) := by decide +kernel
theorem dX3_request_17 : decode cX3_request 17 = .ok (.getfield 30, 3) := by decide +kernel
theorem dX3_request_20 : decode cX3_request 20 = .ok (.iconst 3, 1) := by decide +kernel
theorem dX3_request_21 : decode cX3_request 21 = .ok (.if_icmp .eq 11, 3) := by decide +kernel
theorem dX3_request_24 : decode cX3_request 24 = .ok (.aload_n 0, 1) := by decide +kernel
theorem dX3_request_25 : decode cX3_request 25 = .ok (.getfield 30, 3) := by decide +kernel
theorem dX3_request_28 : decode cX3_request 28 = .ok (.iconst 5, 1) := by decide +kernel
theorem dX3_request_29 : decode cX3_request 29 = .ok (.if_icmp .ne 6, 3) := by decide +kernel
theorem dX3_request_32 : decode cX3_request 32 = .ok (.bipush (-3), 2) := by decide +kernel
theorem dX3_request_34 : decode cX3_request 34 = .ok (.ireturn, 1) := by decide +kernel
theorem dX3_request_35 : decode cX3_request 35 = .ok (.aload_n 0, 1) := by decide +kernel
theorem dX3_request_36 : decode cX3_request 36 = .ok (.getfield 10, 3) := by decide +kernel
theorem dX3_request_39 : decode cX3_request 39 = .ok (.iload_n 1, 1) := by decide +kernel
theorem dX3_request_40 : decode cX3_request 40 = .ok (.iload_n 2, 1) := by decide +kernel
theorem dX3_request_41 : decode cX3_request 41 = .ok (.invokevirtual 51, 3) := by decide +kernel
theorem dX3_request_44 : decode cX3_request 44 = .ok (.istore_n 3, 1) := by decide +kernel
theorem dX3_request_45 : decode cX3_request 45 = .ok (.iload_n 3, 1) := by decide +kernel
theorem dX3_request_46 : decode cX3_request 46 = .ok (.ifCond .eq 15, 3) := by decide +kernel
theorem dX3_request_49 : decode cX3_request 49 = .ok (.aload_n 0, 1) := by decide +kernel
theorem dX3_request_50 : decode cX3_request 50 = .ok (.getfield 30, 3) := by decide +kernel
theorem dX3_request_53 : decode cX3_request 53 = .ok (.iconst 1, 1) := by decide +kernel
theorem dX3_request_54 : decode cX3_request 54 = .ok (.if_icmp .ne 7, 3) := by decide +kernel
theorem dX3_request_57 : decode cX3_request 57 = .ok (.aload_n 0, 1) := by decide +kernel
theorem dX3_request_58 : decode cX3_request 58 = .ok (.invokevirtual 55, 3) := by decide +kernel
theorem dX3_request_61 : decode cX3_request 61 = .ok (.aload_n 0, 1) := by decide +kernel
theorem dX3_request_62 : decode cX3_request 62 = .ok (.getfield 10, 3) := by decide +kernel
theorem dX3_request_65 : decode cX3_request 65 = .ok (.invokevirtual 43, 3) := by decide +kernel
theorem dX3_request_68 : decode cX3_request 68 = .ok (.ireturn, 1) := by decide +kernel
set_option maxRecDepth 20000 in
theorem ggX3_wake_X3_run : GoodIn wsX3_wake wsX3_run := goodIn_r _ [6, 1, 7, 8, 9, 5, 10, 11, 12, 13, 14, 15, 16, 17, 18, 19, 20, 21, 32, 33, 34, 35, 36, 37, 38, 39, 40, 41, 42, 43, 44, 45, 46, 47] (by decide +kernel) (by decide +kernel)
set_option maxRecDepth 20000 in
theorem gX3_wake_X3_run : GoodIn wsX3_wake (wsV RX3 58 RX3 yX3_run wsX3_run) := goodIn_app (goodIn_of _ (by decide +kernel)) ggX3_wake_X3_run
set_option maxRecDepth 20000 in
theorem ggX3_wake_X3_check : GoodIn wsX3_wake wsX3_check := goodIn_r _ [25, 26, 12, 27, 28, 29, 30, 5, 31, 1, 15, 32, 33, 34, 35, 36, 37, 38, 39, 40, 41, 42, 43, 44, 45] (by decide +kernel) (by decide +kernel)
set_option maxRecDepth 20000 in
theorem gX3_wake_X3_check : GoodIn wsX3_wake (wsV RX3 61 RX3 yX3_check wsX3_check) := goodIn_app (goodIn_of _ (by decide +kernel)) ggX3_wake_X3_check
theorem dX3_wake_0 : decode cX3_wake 0 = .ok (.iload_n 1, 1) := by decide +kernel
theorem dX3_wake_1 : decode cX3_wake 1 = .ok (.iconst 1, 1) := by decide +kernel
theorem dX3_wake_2 : decode cX3_wake 2 = .ok (.if_icmp .lt 9, 3) := by decide +kernel
theorem dX3_wake_5 : decode cX3_wake 5 = .ok (.iload_n 1, 1) := by decide +kernel
theorem dX3_wake_6 : decode cX3_wake 6 = .ok (.bipush 8, 2) := by decide +kernel
theorem dX3_wake_8 : decode cX3_wake 8 = .ok (.if_icmp .le 5, 3) := by decide +kernel
theorem dX3_wake_11 : decode cX3_wake 11 = .ok (.iconst (-1), 1) := by decide +kernel
theorem dX3_wake_12 : decode cX3_wake 12 = .ok (.ireturn, 1) := by decide +kernel
theorem dX3_wake_13 : decode cX3_wake 13 = .ok (.iload_n 2, 1) := by decide +kernel
theorem dX3_wake_14 : decode cX3_wake 14 = .ok (.ifCond .eq 26, 3) := by decide +kernel
theorem dX3_wake_17 : decode cX3_wake 17 = .ok (.aload_n 0, 1) := by decide +kernel
theorem dX3_wake_18 : decode cX3_wake 18 = .ok (.getfield 30, 3) := by decide +kernel
theorem dX3_wake_21 : decode cX3_wake 21 = .ok (.iconst 3, 1) := by decide +kernel
theorem dX3_wake_22 : decode cX3_wake 22 = .ok (.if_icmp .eq 11, 3) := by decide +kernel
theorem dX3_wake_25 : decode cX3_wake 25 = .ok (.aload_n 0, 1) := by decide +kernel
theorem dX3_wake_26 : decode cX3_wake 26 = .ok (.getfield 30, 3) := by decide +kernel
theorem dX3_wake_29 : decode cX3_wake 29 = .ok (.iconst 4, 1) := by decide +kernel
theorem dX3_wake_30 : decode cX3_wake 30 = .ok (.if_icmp .ne 10, 3) := by decide +kernel
theorem dX3_wake_33 : decode cX3_wake 33 = .ok (.aload_n 0, 1) := by decide +kernel
theorem dX3_wake_34 : decode cX3_wake 34 = .ok (.invokevirtual 58, 3) := by decide +kernel
theorem dX3_wake_37 : decode cX3_wake 37 = .ok (.goto 15, 3) := by decide +kernel
theorem dX3_wake_40 : decode cX3_wake 40 = .ok (.aload_n 0, 1) := by decide +kernel
theorem dX3_wake_41 : decode cX3_wake 41 = .ok (.getfield 30, 3) := by decide +kernel
theorem dX3_wake_44 : decode cX3_wake 44 = .ok (.iconst 3, 1) := by decide +kernel
theorem dX3_wake_45 : decode cX3_wake 45 = .ok (.if_icmp .ne 7, 3) := by decide +kernel
theorem dX3_wake_48 : decode cX3_wake 48 = .ok (.aload_n 0, 1) := by decide +kernel
theorem dX3_wake_49 : decode cX3_wake 49 = .ok (.invokevirtual 61, 3) := by decide +kernel
theorem dX3_wake_52 : decode cX3_wake 52 = .ok (.aload_n 0, 1) := by decide +kernel
theorem dX3_wake_53 : decode cX3_wake 53 = .ok (.getfield 30, 3) := by decide +kernel
theorem dX3_wake_56 : decode cX3_wake 56 = .ok (.ireturn, 1) := by decide +kernel
set_option maxRecDepth 20000 in
theorem ggX3_step_X3_canAdvance : GoodIn wsX3_step wsX3_canAdvance := goodIn_r _ [6, 7, 8, 83, 84, 85, 86, 87, 88, 89, 90, 91, 92, 93, 94, 95, 96] (by decide +kernel) (by decide +kernel)
set_option maxRecDepth 20000 in
theorem gX3_step_X3_canAdvance : GoodIn wsX3_step (wsV RX3 64 RX3 yX3_canAdvance wsX3_canAdvance) := goodIn_app (goodIn_of _ (by decide +kernel)) ggX3_step_X3_canAdvance
set_option maxRecDepth 20000 in
theorem ggX3_step_X3_advance : GoodIn wsX3_step wsX3_advance := goodIn_ca (goodIn_r _ [12, 13, 14, 7, 15, 16, 17, 5, 18, 1, 19, 20, 21, 22, 23, 24, 25, 26, 27, 28, 29, 30, 31, 32, 33, 34, 35, 36, 37, 38, 39, 40, 41, 42, 43, 44, 45, 46, 47, 48, 49, 50, 51, 52, 53, 54, 55, 56, 57, 58, 59, 60, 61, 62, 63, 64, 65, 66, 67, 68, 69, 70, 71, 72, 73, 74, 75, 76, 77, 78, 79, 80, 81, 82, 83, 84, 85, 86, 87, 88, 89, 90, 91, 92, 93, 94, 95, 96, 97, 98, 99, 100, 101, 102] (by decide +kernel) (by decide +kernel)) (goodIn_sub (fun _ h => List.mem_cons_of_mem _ (List.mem_append_right _ h)) (by decide +kernel))
set_option maxRecDepth 20000 in
theorem gX3_step_X3_advance : GoodIn wsX3_step (wsV RX3 68 RX3 yX3_advance wsX3_advance) := goodIn_app (goodIn_of _ (by decide +kernel)) ggX3_step_X3_advance
theorem dX3_step_0 : decode cX3_step 0 = .ok (.aload_n 0, 1) := by decide +kernel
theorem dX3_step_1 : decode cX3_step 1 = .ok (.lload_n 1, 1) := by decide +kernel
theorem dX3_step_2 : decode cX3_step 2 = .ok (.invokevirtual 64, 3) := by decide +kernel
theorem dX3_step_5 : decode cX3_step 5 = .ok (.ifCond .ne 6, 3) := by decide +kernel
theorem dX3_step_8 : decode cX3_step 8 = .ok (.bipush (-2), 2) := by decide +kernel
theorem dX3_step_10 : decode cX3_step 10 = .ok (.ireturn, 1) := by decide +kernel
theorem dX3_step_11 : decode cX3_step 11 = .ok (.aload_n 0, 1) := by decide +kernel
theorem dX3_step_12 : decode cX3_step 12 = .ok (.lload_n 1, 1) := by decide +kernel
theorem dX3_step_13 : decode cX3_step 13 = .ok (.invokevirtual 68, 3) := by decide +kernel
theorem dX3_step_16 : decode cX3_step 16 = .ok (.aload_n 0, 1) := by decide +kernel
theorem dX3_step_17 : decode cX3_step 17 = .ok (.getfield 30, 3) := by decide +kernel
theorem dX3_step_20 : decode cX3_step 20 = .ok (.ireturn, 1) := by decide +kernel
set_option maxRecDepth 20000 in
theorem ggX3_init__X1_has : GoodIn wsX3_init_ wsX1_has := goodIn_r _ [6] (by decide +kernel) (by decide +kernel)
set_option maxRecDepth 20000 in
theorem gX3_init__X1_has : GoodIn wsX3_init_ (va_wsS RX3 72 yX1_has wsX1_has) := goodIn_app (goodIn_of _ (by decide +kernel)) ggX3_init__X1_has
set_option maxRecDepth 20000 in
theorem ggX3_init__X1_tell : GoodIn wsX3_init_ wsX1_tell := goodIn_ca (goodIn_r _ [10, 11, 12, 13, 14, 15, 4, 5, 6, 34, 35, 36, 37, 38, 39] (by decide +kernel) (by decide +kernel)) (goodIn_sub (fun _ h => List.mem_cons_of_mem _ (List.mem_append_right _ h)) (by decide +kernel))
set_option maxRecDepth 20000 in
theorem gX3_init__X1_tell : GoodIn wsX3_init_ (wsV RX3 73 RX1 yX1_tell wsX1_tell) := goodIn_app (goodIn_of _ (by decide +kernel)) ggX3_init__X1_tell
set_option maxRecDepth 20000 in
theorem ggX3_init__X1_howMany : GoodIn wsX3_init_ wsX1_howMany := goodIn_r _ [19, 12, 34, 35, 36, 37, 38, 39] (by decide +kernel) (by decide +kernel)
set_option maxRecDepth 20000 in
theorem gX3_init__X1_howMany : GoodIn wsX3_init_ (wsV RX3 77 RX1 yX1_howMany wsX1_howMany) := goodIn_app (goodIn_of _ (by decide +kernel)) ggX3_init__X1_howMany
theorem dX3_init__0 : decode cX3_init_ 0 = .ok (.iload_n 1, 1) := by decide +kernel
theorem dX3_init__1 : decode cX3_init_ 1 = .ok (.invokestatic 72, 3) := by decide +kernel
theorem dX3_init__4 : decode cX3_init_ 4 = .ok (.ifCond .ne 5, 3) := by decide +kernel
theorem dX3_init__7 : decode cX3_init_ 7 = .ok (.iconst (-1), 1) := by decide +kernel
theorem dX3_init__8 : decode cX3_init_ 8 = .ok (.ireturn, 1) := by decide +kernel
theorem dX3_init__9 : decode cX3_init_ 9 = .ok (.iload_n 2, 1) := by decide +kernel
theorem dX3_init__10 : decode cX3_init_ 10 = .ok (.ifCond .lt 9, 3) := by decide +kernel
theorem dX3_init__13 : decode cX3_init_ 13 = .ok (.iload_n 2, 1) := by decide +kernel
theorem dX3_init__14 : decode cX3_init_ 14 = .ok (.bipush 100, 2) := by decide +kernel
theorem dX3_init__16 : decode cX3_init_ 16 = .ok (.if_icmp .le 6, 3) := by decide +kernel
theorem dX3_init__19 : decode cX3_init_ 19 = .ok (.bipush (-2), 2) := by decide +kernel
theorem dX3_init__21 : decode cX3_init_ 21 = .ok (.ireturn, 1) := by decide +kernel
theorem dX3_init__22 : decode cX3_init_ 22 = .ok (.aload_n 0, 1) := by decide +kernel
theorem dX3_init__23 : decode cX3_init_ 23 = .ok (.getfield 30, 3) := by decide +kernel
theorem dX3_init__26 : decode cX3_init_ 26 = .ok (.ifCond .eq 6, 3) := by decide +kernel
theorem dX3_init__29 : decode cX3_init_ 29 = .ok (.bipush (-3), 2) := by decide +kernel
theorem dX3_init__31 : decode cX3_init_ 31 = .ok (.ireturn, 1) := by decide +kernel
theorem dX3_init__32 : decode cX3_init_ 32 = .ok (.aload_n 0, 1) := by decide +kernel
theorem dX3_init__33 : decode cX3_init_ 33 = .ok (.getfield 26, 3) := by decide +kernel
theorem dX3_init__36 : decode cX3_init_ 36 = .ok (.iload_n 1, 1) := by decide +kernel
theorem dX3_init__37 : decode cX3_init_ 37 = .ok (.iload_n 2, 1) := by decide +kernel
theorem dX3_init__38 : decode cX3_init_ 38 = .ok (.iload_n 3, 1) := by decide +kernel
theorem dX3_init__39 : decode cX3_init_ 39 = .ok (.invokevirtual 73, 3) := by decide +kernel
theorem dX3_init__42 : decode cX3_init_ 42 = .ok (.aload_n 0, 1) := by decide +kernel
theorem dX3_init__43 : decode cX3_init_ 43 = .ok (.getfield 26, 3) := by decide +kernel
theorem dX3_init__46 : decode cX3_init_ 46 = .ok (.invokevirtual 77, 3) := by decide +kernel
theorem dX3_init__49 : decode cX3_init_ 49 = .ok (.ireturn, 1) := by decide +kernel
set_option maxRecDepth 20000 in
theorem ggX3_block_X0_has : GoodIn wsX3_block wsX0_has := goodIn_r _ [5] (by decide +kernel) (by decide +kernel)
set_option maxRecDepth 20000 in
theorem gX3_block_X0_has : GoodIn wsX3_block (va_wsS RX3 78 yX0_has wsX0_has) := goodIn_app (goodIn_of _ (by decide +kernel)) ggX3_block_X0_has
set_option maxRecDepth 20000 in
theorem ggX3_block_X0_isChanged : GoodIn wsX3_block wsX0_isChanged := goodIn_ca (goodIn_r _ [9, 10, 11, 3, 4, 5, 26, 27, 28, 29] (by decide +kernel) (by decide +kernel)) (goodIn_sub (fun _ h => List.mem_cons_of_mem _ (List.mem_append_right _ h)) (by decide +kernel))
set_option maxRecDepth 20000 in
theorem gX3_block_X0_isChanged : GoodIn wsX3_block (wsV RX3 79 RX0 yX0_isChanged wsX0_isChanged) := goodIn_app (goodIn_of _ (by decide +kernel)) ggX3_block_X0_isChanged
theorem dX3_block_0 : decode cX3_block 0 = .ok (.iload_n 1, 1) := by decide +kernel
theorem dX3_block_1 : decode cX3_block 1 = .ok (.invokestatic 78, 3) := by decide +kernel
theorem dX3_block_4 : decode cX3_block 4 = .ok (.ifCond .ne 5, 3) := by decide +kernel
theorem dX3_block_7 : decode cX3_block 7 = .ok (.iconst (-1), 1) := by decide +kernel
theorem dX3_block_8 : decode cX3_block 8 = .ok (.ireturn, 1) := by decide +kernel
theorem dX3_block_9 : decode cX3_block 9 = .ok (.aload_n 0, 1) := by decide +kernel
theorem dX3_block_10 : decode cX3_block 10 = .ok (.getfield 19, 3) := by decide +kernel
theorem dX3_block_13 : decode cX3_block 13 = .ok (.iload_n 1, 1) := by decide +kernel
theorem dX3_block_14 : decode cX3_block 14 = .ok (.invokevirtual 79, 3) := by decide +kernel
theorem dX3_block_17 : decode cX3_block 17 = .ok (.ifCond .eq 7, 3) := by decide +kernel
theorem dX3_block_20 : decode cX3_block 20 = .ok (.iconst 1, 1) := by decide +kernel
theorem dX3_block_21 : decode cX3_block 21 = .ok (.goto 4, 3) := by decide +kernel
theorem dX3_block_24 : decode cX3_block 24 = .ok (.iconst 0, 1) := by decide +kernel
theorem dX3_block_25 : decode cX3_block 25 = .ok (.ireturn, 1) := by decide +kernel
set_option maxRecDepth 20000 in
theorem ggX3_write_X0_has : GoodIn wsX3_write wsX0_has := goodIn_r _ [6] (by decide +kernel) (by decide +kernel)
set_option maxRecDepth 20000 in
theorem gX3_write_X0_has : GoodIn wsX3_write (va_wsS RX3 78 yX0_has wsX0_has) := goodIn_app (goodIn_of _ (by decide +kernel)) ggX3_write_X0_has
set_option maxRecDepth 20000 in
theorem ggX3_write_X0_hasOctet : GoodIn wsX3_write wsX0_hasOctet := goodIn_r _ [9] (by decide +kernel) (by decide +kernel)
set_option maxRecDepth 20000 in
theorem gX3_write_X0_hasOctet : GoodIn wsX3_write (va_wsS RX3 82 yX0_hasOctet wsX0_hasOctet) := goodIn_app (goodIn_of _ (by decide +kernel)) ggX3_write_X0_hasOctet
set_option maxRecDepth 20000 in
theorem ggX3_write_X0_put : GoodIn wsX3_write wsX0_put := goodIn_ca (goodIn_r _ [13, 14, 15, 16, 4, 5, 6, 17, 8, 9, 32, 33, 34, 35] (by decide +kernel) (by decide +kernel)) (goodIn_sub (fun _ h => List.mem_cons_of_mem _ (List.mem_append_right _ h)) (by decide +kernel))
set_option maxRecDepth 20000 in
theorem gX3_write_X0_put : GoodIn wsX3_write (wsV RX3 85 RX0 yX0_put wsX0_put) := goodIn_app (goodIn_of _ (by decide +kernel)) ggX3_write_X0_put
theorem dX3_write_0 : decode cX3_write 0 = .ok (.iload_n 1, 1) := by decide +kernel
theorem dX3_write_1 : decode cX3_write 1 = .ok (.invokestatic 78, 3) := by decide +kernel
theorem dX3_write_4 : decode cX3_write 4 = .ok (.ifCond .ne 5, 3) := by decide +kernel
theorem dX3_write_7 : decode cX3_write 7 = .ok (.iconst (-1), 1) := by decide +kernel
theorem dX3_write_8 : decode cX3_write 8 = .ok (.ireturn, 1) := by decide +kernel
theorem dX3_write_9 : decode cX3_write 9 = .ok (.iload_n 2, 1) := by decide +kernel
theorem dX3_write_10 : decode cX3_write 10 = .ok (.invokestatic 82, 3) := by decide +kernel
theorem dX3_write_13 : decode cX3_write 13 = .ok (.ifCond .ne 6, 3) := by decide +kernel
theorem dX3_write_16 : decode cX3_write 16 = .ok (.bipush (-2), 2) := by decide +kernel
theorem dX3_write_18 : decode cX3_write 18 = .ok (.ireturn, 1) := by decide +kernel
theorem dX3_write_19 : decode cX3_write 19 = .ok (.aload_n 0, 1) := by decide +kernel
theorem dX3_write_20 : decode cX3_write 20 = .ok (.getfield 30, 3) := by decide +kernel
theorem dX3_write_23 : decode cX3_write 23 = .ok (.iconst 1, 1) := by decide +kernel
theorem dX3_write_24 : decode cX3_write 24 = .ok (.if_icmp .eq 14, 3) := by decide +kernel
theorem dX3_write_27 : decode cX3_write 27 = .ok (.aload_n 0, 1) := by decide +kernel
theorem dX3_write_28 : decode cX3_write 28 = .ok (.getfield 30, 3) := by decide +kernel
theorem dX3_write_31 : decode cX3_write 31 = .ok (.iconst 5, 1) := by decide +kernel
theorem dX3_write_32 : decode cX3_write 32 = .ok (.if_icmp .eq 6, 3) := by decide +kernel
theorem dX3_write_35 : decode cX3_write 35 = .ok (.bipush (-3), 2) := by decide +kernel
theorem dX3_write_37 : decode cX3_write 37 = .ok (.ireturn, 1) := by decide +kernel
theorem dX3_write_38 : decode cX3_write 38 = .ok (.aload_n 0, 1) := by decide +kernel
theorem dX3_write_39 : decode cX3_write 39 = .ok (.getfield 19, 3) := by decide +kernel
theorem dX3_write_42 : decode cX3_write 42 = .ok (.iload_n 1, 1) := by decide +kernel
theorem dX3_write_43 : decode cX3_write 43 = .ok (.iload_n 2, 1) := by decide +kernel
theorem dX3_write_44 : decode cX3_write 44 = .ok (.iload_n 3, 1) := by decide +kernel
theorem dX3_write_45 : decode cX3_write 45 = .ok (.invokevirtual 85, 3) := by decide +kernel
theorem dX3_write_48 : decode cX3_write 48 = .ok (.iconst 1, 1) := by decide +kernel
theorem dX3_write_49 : decode cX3_write 49 = .ok (.ireturn, 1) := by decide +kernel
set_option maxRecDepth 20000 in
theorem ggX3_cut_X3_canAdvance : GoodIn wsX3_cut wsX3_canAdvance := goodIn_r _ [10, 11, 12, 88, 89, 90, 91, 92, 93, 94, 95, 96, 97, 98, 99, 100, 101] (by decide +kernel) (by decide +kernel)
set_option maxRecDepth 20000 in
theorem gX3_cut_X3_canAdvance : GoodIn wsX3_cut (wsV RX3 64 RX3 yX3_canAdvance wsX3_canAdvance) := goodIn_app (goodIn_of _ (by decide +kernel)) ggX3_cut_X3_canAdvance
set_option maxRecDepth 20000 in
theorem ggX3_cut_X3_advance : GoodIn wsX3_cut wsX3_advance := goodIn_ca (goodIn_r _ [16, 17, 4, 11, 18, 19, 20, 9, 21, 1, 22, 23, 24, 25, 5, 3, 26, 27, 28, 29, 30, 31, 32, 33, 34, 35, 36, 37, 38, 39, 40, 41, 42, 43, 44, 45, 46, 47, 48, 49, 50, 51, 52, 53, 54, 55, 56, 57, 58, 59, 60, 61, 62, 63, 64, 65, 66, 67, 68, 69, 70, 71, 72, 73, 74, 75, 76, 77, 78, 79, 80, 81, 82, 83, 88, 89, 90, 91, 92, 93, 94, 95, 96, 97, 98, 99, 100, 101, 102, 103, 104, 105, 106, 107] (by decide +kernel) (by decide +kernel)) (goodIn_sub (fun _ h => List.mem_cons_of_mem _ (List.mem_append_right _ h)) (by decide +kernel))
set_option maxRecDepth 20000 in
theorem gX3_cut_X3_advance : GoodIn wsX3_cut (wsV RX3 68 RX3 yX3_advance wsX3_advance) := goodIn_app (goodIn_of _ (by decide +kernel)) ggX3_cut_X3_advance
set_option maxRecDepth 20000 in
theorem ggX3_cut_X3_enter : GoodIn wsX3_cut wsX3_enter := goodIn_r _ [41, 1, 17, 88, 89, 90, 91, 92, 93, 94, 95, 96, 97, 98, 99, 100, 101] (by decide +kernel) (by decide +kernel)
set_option maxRecDepth 20000 in
theorem gX3_cut_X3_enter : GoodIn wsX3_cut (wsV RX3 92 RX3 yX3_enter wsX3_enter) := goodIn_app (goodIn_of _ (by decide +kernel)) ggX3_cut_X3_enter
set_option maxRecDepth 20000 in
theorem ggX3_cut_X0_howManyChanged : GoodIn wsX3_cut wsX0_howManyChanged := goodIn_ca (goodIn_r _ [87, 32, 102, 103, 104, 105] (by decide +kernel) (by decide +kernel)) (goodIn_sub (fun _ h => List.mem_cons_of_mem _ (List.mem_append_right _ h)) (by decide +kernel))
set_option maxRecDepth 20000 in
theorem gX3_cut_X0_howManyChanged : GoodIn wsX3_cut (wsV RX3 96 RX0 yX0_howManyChanged wsX0_howManyChanged) := goodIn_app (goodIn_of _ (by decide +kernel)) ggX3_cut_X0_howManyChanged
theorem dX3_cut_0 : decode cX3_cut 0 = .ok (.aload_n 0, 1) := by decide +kernel
theorem dX3_cut_1 : decode cX3_cut 1 = .ok (.lload_n 1, 1) := by decide +kernel
theorem dX3_cut_2 : decode cX3_cut 2 = .ok (.invokevirtual 64, 3) := by decide +kernel
theorem dX3_cut_5 : decode cX3_cut 5 = .ok (.ifCond .ne 6, 3) := by decide +kernel
theorem dX3_cut_8 : decode cX3_cut 8 = .ok (.bipush (-2), 2) := by decide +kernel
theorem dX3_cut_10 : decode cX3_cut 10 = .ok (.ireturn, 1) := by decide +kernel
theorem dX3_cut_11 : decode cX3_cut 11 = .ok (.aload_n 0, 1) := by decide +kernel
theorem dX3_cut_12 : decode cX3_cut 12 = .ok (.getfield 30, 3) := by decide +kernel
theorem dX3_cut_15 : decode cX3_cut 15 = .ok (.ifCond .ne 6, 3) := by decide +kernel
theorem dX3_cut_18 : decode cX3_cut 18 = .ok (.bipush (-3), 2) := by decide +kernel
theorem dX3_cut_20 : decode cX3_cut 20 = .ok (.ireturn, 1) := by decide +kernel
theorem dX3_cut_21 : decode cX3_cut 21 = .ok (.aload_n 0, 1) := by decide +kernel
theorem dX3_cut_22 : decode cX3_cut 22 = .ok (.lload_n 1, 1) := by decide +kernel
theorem dX3_cut_23 : decode cX3_cut 23 = .ok (.invokevirtual 68, 3) := by decide +kernel
theorem dX3_cut_26 : decode cX3_cut 26 = .ok (.aload_n 0, 1) := by decide +kernel
theorem dX3_cut_27 : decode cX3_cut 27 = .ok (.dup, 1) := by decide +kernel
theorem dX3_cut_28 : decode cX3_cut 28 = .ok (.getfield 89, 3) := by decide +kernel
theorem dX3_cut_31 : decode cX3_cut 31 = .ok (.lconst 1, 1) := by decide +kernel
theorem dX3_cut_32 : decode cX3_cut 32 = .ok (.ladd, 1) := by decide +kernel
theorem dX3_cut_33 : decode cX3_cut 33 = .ok (.putfield 89, 3) := by decide +kernel
theorem dX3_cut_36 : decode cX3_cut 36 = .ok (.aload_n 0, 1) := by decide +kernel
theorem dX3_cut_37 : decode cX3_cut 37 = .ok (.iconst (-1), 1) := by decide +kernel
theorem dX3_cut_38 : decode cX3_cut 38 = .ok (.putfield 40, 3) := by decide +kernel
theorem dX3_cut_41 : decode cX3_cut 41 = .ok (.aload_n 0, 1) := by decide +kernel
theorem dX3_cut_42 : decode cX3_cut 42 = .ok (.iconst 0, 1) := by decide +kernel
theorem dX3_cut_43 : decode cX3_cut 43 = .ok (.ldc2_w 34, 3) := by decide +kernel
theorem dX3_cut_46 : decode cX3_cut 46 = .ok (.invokevirtual 92, 3) := by decide +kernel
theorem dX3_cut_49 : decode cX3_cut 49 = .ok (.aload_n 0, 1) := by decide +kernel
theorem dX3_cut_50 : decode cX3_cut 50 = .ok (.getfield 19, 3) := by decide +kernel
theorem dX3_cut_53 : decode cX3_cut 53 = .ok (.invokevirtual 96, 3) := by decide +kernel
theorem dX3_cut_56 : decode cX3_cut 56 = .ok (.ireturn, 1) := by decide +kernel
set_option maxRecDepth 20000 in
theorem ggX3_start_X0_load : GoodIn wsX3_start wsX0_load := goodIn_ca (goodIn_r _ [15, 16, 17, 18, 19, 20, 21, 22, 23, 24, 25, 14, 26, 27, 97, 98, 99, 100] (by decide +kernel) (by decide +kernel)) (goodIn_sub (fun _ h => List.mem_cons_of_mem _ (List.mem_append_right _ h)) (by decide +kernel))
set_option maxRecDepth 20000 in
theorem gX3_start_X0_load : GoodIn wsX3_start (wsV RX3 114 RX0 yX0_load wsX0_load) := goodIn_app (goodIn_of _ (by decide +kernel)) ggX3_start_X0_load
end
section
set_option maxRecDepth 20000 in
theorem ggX3_start_X2_clear : GoodIn wsX3_start wsX2_clear := goodIn_ca (goodIn_r _ [32, 33, 34, 101, 102] (by decide +kernel) (by decide +kernel)) (goodIn_sub (fun _ h => List.mem_cons_of_mem _ (List.mem_append_right _ h)) (by decide +kernel))
set_option maxRecDepth 20000 in
theorem gX3_start_X2_clear : GoodIn wsX3_start (wsV RX3 117 RX2 yX2_clear wsX2_clear) := goodIn_app (goodIn_of _ (by decide +kernel)) ggX3_start_X2_clear
set_option maxRecDepth 20000 in
theorem ggX3_start_X1_beginAll : GoodIn wsX3_start wsX1_beginAll := goodIn_ca (goodIn_r _ [39, 40, 41, 42, 43, 44, 38, 45, 46, 47, 48, 49, 50, 51, 52, 53, 54, 55, 56, 57, 58, 59, 60, 61, 62, 63, 103, 104, 105, 106, 107, 108] (by decide +kernel) (by decide +kernel)) (goodIn_sub (fun _ h => List.mem_cons_of_mem _ (List.mem_append_right _ h)) (by decide +kernel))
set_option maxRecDepth 20000 in
theorem gX3_start_X1_beginAll : GoodIn wsX3_start (wsV RX3 120 RX1 yX1_beginAll wsX1_beginAll) := goodIn_app (goodIn_of _ (by decide +kernel)) ggX3_start_X1_beginAll
set_option maxRecDepth 20000 in
theorem ggX3_start_X3_run : GoodIn wsX3_start wsX3_run := goodIn_r _ [68, 1, 69, 70, 71, 67, 72, 8, 3, 73, 10, 74, 75, 76, 77, 31, 78, 34, 83, 84, 85, 86, 87, 88, 89, 90, 91, 92, 93, 94, 95, 96, 101, 102] (by decide +kernel) (by decide +kernel)
set_option maxRecDepth 20000 in
theorem gX3_start_X3_run : GoodIn wsX3_start (wsV RX3 58 RX3 yX3_run wsX3_run) := goodIn_app (goodIn_of _ (by decide +kernel)) ggX3_start_X3_run
set_option maxRecDepth 20000 in
theorem ggX3_start_X3_enter : GoodIn wsX3_start wsX3_enter := goodIn_r _ [82, 1, 74, 83, 84, 85, 86, 87, 88, 89, 90, 91, 92, 93, 94, 95, 96] (by decide +kernel) (by decide +kernel)
set_option maxRecDepth 20000 in
theorem gX3_start_X3_enter : GoodIn wsX3_start (wsV RX3 92 RX3 yX3_enter wsX3_enter) := goodIn_app (goodIn_of _ (by decide +kernel)) ggX3_start_X3_enter
theorem dX3_start_0 : decode cX3_start 0 = .ok (.aload_n 0, 1) := by decide +kernel
theorem dX3_start_1 : decode cX3_start 1 = .ok (.getfield 30, 3) := by decide +kernel
theorem dX3_start_4 : decode cX3_start 4 = .ok (.ifCond .eq 6, 3) := by decide +kernel
theorem dX3_start_7 : decode cX3_start 7 = .ok (.bipush (-3), 2) := by decide +kernel
theorem dX3_start_9 : decode cX3_start 9 = .ok (.ireturn, 1) := by decide +kernel
theorem dX3_start_10 : decode cX3_start 10 = .ok (.aload_n 0, 1) := by decide +kernel
theorem dX3_start_11 : decode cX3_start 11 = .ok (.dup, 1) := by decide +kernel
theorem dX3_start_12 : decode cX3_start 12 = .ok (.getfield 99, 3) := by decide +kernel
theorem dX3_start_15 : decode cX3_start 15 = .ok (.lconst 1, 1) := by decide +kernel
theorem dX3_start_16 : decode cX3_start 16 = .ok (.ladd, 1) := by decide +kernel
theorem dX3_start_17 : decode cX3_start 17 = .ok (.putfield 99, 3) := by decide +kernel
theorem dX3_start_20 : decode cX3_start 20 = .ok (.aload_n 0, 1) := by decide +kernel
theorem dX3_start_21 : decode cX3_start 21 = .ok (.aload_n 0, 1) := by decide +kernel
theorem dX3_start_22 : decode cX3_start 22 = .ok (.getfield 102, 3) := by decide +kernel
theorem dX3_start_25 : decode cX3_start 25 = .ok (.putfield 105, 3) := by decide +kernel
theorem dX3_start_28 : decode cX3_start 28 = .ok (.aload_n 0, 1) := by decide +kernel
theorem dX3_start_29 : decode cX3_start 29 = .ok (.aload_n 0, 1) := by decide +kernel
theorem dX3_start_30 : decode cX3_start 30 = .ok (.getfield 108, 3) := by decide +kernel
theorem dX3_start_33 : decode cX3_start 33 = .ok (.putfield 111, 3) := by decide +kernel
theorem dX3_start_36 : decode cX3_start 36 = .ok (.aload_n 0, 1) := by decide +kernel
theorem dX3_start_37 : decode cX3_start 37 = .ok (.getfield 19, 3) := by decide +kernel
theorem dX3_start_40 : decode cX3_start 40 = .ok (.invokevirtual 114, 3) := by decide +kernel
theorem dX3_start_43 : decode cX3_start 43 = .ok (.aload_n 0, 1) := by decide +kernel
theorem dX3_start_44 : decode cX3_start 44 = .ok (.getfield 10, 3) := by decide +kernel
theorem dX3_start_47 : decode cX3_start 47 = .ok (.invokevirtual 117, 3) := by decide +kernel
theorem dX3_start_50 : decode cX3_start 50 = .ok (.aload_n 0, 1) := by decide +kernel
theorem dX3_start_51 : decode cX3_start 51 = .ok (.getfield 26, 3) := by decide +kernel
theorem dX3_start_54 : decode cX3_start 54 = .ok (.invokevirtual 120, 3) := by decide +kernel
theorem dX3_start_57 : decode cX3_start 57 = .ok (.ifCond .eq 10, 3) := by decide +kernel
theorem dX3_start_60 : decode cX3_start 60 = .ok (.aload_n 0, 1) := by decide +kernel
theorem dX3_start_61 : decode cX3_start 61 = .ok (.invokevirtual 58, 3) := by decide +kernel
theorem dX3_start_64 : decode cX3_start 64 = .ok (.goto 11, 3) := by decide +kernel
theorem dX3_start_67 : decode cX3_start 67 = .ok (.aload_n 0, 1) := by decide +kernel
theorem dX3_start_68 : decode cX3_start 68 = .ok (.iconst 5, 1) := by decide +kernel
theorem dX3_start_69 : decode cX3_start 69 = .ok (.ldc2_w 34, 3) := by decide +kernel
theorem dX3_start_72 : decode cX3_start 72 = .ok (.invokevirtual 92, 3) := by decide +kernel
theorem dX3_start_75 : decode cX3_start 75 = .ok (.aload_n 0, 1) := by decide +kernel
theorem dX3_start_76 : decode cX3_start 76 = .ok (.getfield 30, 3) := by decide +kernel
theorem dX3_start_79 : decode cX3_start 79 = .ok (.ireturn, 1) := by decide +kernel
set_option maxRecDepth 20000 in
theorem ggX3_kept_X0_has : GoodIn wsX3_kept wsX0_has := goodIn_r _ [8] (by decide +kernel) (by decide +kernel)
set_option maxRecDepth 20000 in
theorem gX3_kept_X0_has : GoodIn wsX3_kept (va_wsS RX3 78 yX0_has wsX0_has) := goodIn_app (goodIn_of _ (by decide +kernel)) ggX3_kept_X0_has
set_option maxRecDepth 20000 in
theorem ggX3_kept_X0_hasOctet : GoodIn wsX3_kept wsX0_hasOctet := goodIn_r _ [11] (by decide +kernel) (by decide +kernel)
set_option maxRecDepth 20000 in
theorem gX3_kept_X0_hasOctet : GoodIn wsX3_kept (va_wsS RX3 82 yX0_hasOctet wsX0_hasOctet) := goodIn_app (goodIn_of _ (by decide +kernel)) ggX3_kept_X0_hasOctet
set_option maxRecDepth 20000 in
theorem ggX3_kept_X0_keptOctet : GoodIn wsX3_kept wsX0_keptOctet := goodIn_ca (goodIn_r _ [15, 16, 17, 6, 7, 8, 18, 10, 11, 19, 20, 21, 22, 23, 44, 45, 46, 47] (by decide +kernel) (by decide +kernel)) (goodIn_sub (fun _ h => List.mem_cons_of_mem _ (List.mem_append_right _ h)) (by decide +kernel))
set_option maxRecDepth 20000 in
theorem gX3_kept_X0_keptOctet : GoodIn wsX3_kept (wsV RX3 131 RX0 yX0_keptOctet wsX0_keptOctet) := goodIn_app (goodIn_of _ (by decide +kernel)) ggX3_kept_X0_keptOctet
theorem dX3_kept_0 : decode cX3_kept 0 = .ok (.iload_n 1, 1) := by decide +kernel
theorem dX3_kept_1 : decode cX3_kept 1 = .ok (.invokestatic 78, 3) := by decide +kernel
theorem dX3_kept_4 : decode cX3_kept 4 = .ok (.ifCond .eq 10, 3) := by decide +kernel
theorem dX3_kept_7 : decode cX3_kept 7 = .ok (.iload_n 2, 1) := by decide +kernel
theorem dX3_kept_8 : decode cX3_kept 8 = .ok (.invokestatic 82, 3) := by decide +kernel
theorem dX3_kept_11 : decode cX3_kept 11 = .ok (.ifCond .ne 13, 3) := by decide +kernel
theorem dX3_kept_14 : decode cX3_kept 14 = .ok (.new 124, 3) := by decide +kernel
theorem dX3_kept_17 : decode cX3_kept 17 = .ok (.dup, 1) := by decide +kernel
theorem dX3_kept_18 : decode cX3_kept 18 = .ok (.ldc 126, 2) := by decide +kernel
theorem dX3_kept_20 : decode cX3_kept 20 = .ok (.invokespecial 128, 3) := by decide +kernel
theorem dX3_kept_23 : decode cX3_kept 23 = .ok (.athrow, 1) := by decide +kernel
theorem dX3_kept_24 : decode cX3_kept 24 = .ok (.aload_n 0, 1) := by decide +kernel
theorem dX3_kept_25 : decode cX3_kept 25 = .ok (.getfield 19, 3) := by decide +kernel
theorem dX3_kept_28 : decode cX3_kept 28 = .ok (.iload_n 1, 1) := by decide +kernel
theorem dX3_kept_29 : decode cX3_kept 29 = .ok (.iload_n 2, 1) := by decide +kernel
theorem dX3_kept_30 : decode cX3_kept 30 = .ok (.invokevirtual 131, 3) := by decide +kernel
theorem dX3_kept_33 : decode cX3_kept 33 = .ok (.ireturn, 1) := by decide +kernel
theorem dX3_bank_0 : decode cX3_bank 0 = .ok (.iload_n 1, 1) := by decide +kernel
theorem dX3_bank_1 : decode cX3_bank 1 = .ok (.ifCond .ne 13, 3) := by decide +kernel
theorem dX3_bank_4 : decode cX3_bank 4 = .ok (.aload_n 0, 1) := by decide +kernel
theorem dX3_bank_5 : decode cX3_bank 5 = .ok (.iconst 1, 1) := by decide +kernel
theorem dX3_bank_6 : decode cX3_bank 6 = .ok (.aload_n 0, 1) := by decide +kernel
theorem dX3_bank_7 : decode cX3_bank 7 = .ok (.getfield 108, 3) := by decide +kernel
theorem dX3_bank_10 : decode cX3_bank 10 = .ok (.isub, 1) := by decide +kernel
theorem dX3_bank_11 : decode cX3_bank 11 = .ok (.putfield 108, 3) := by decide +kernel
theorem dX3_bank_14 : decode cX3_bank 14 = .ok (.aload_n 0, 1) := by decide +kernel
theorem dX3_bank_15 : decode cX3_bank 15 = .ok (.getfield 108, 3) := by decide +kernel
theorem dX3_bank_18 : decode cX3_bank 18 = .ok (.ireturn, 1) := by decide +kernel
theorem dX3_time_0 : decode cX3_time 0 = .ok (.iload_n 1, 1) := by decide +kernel
theorem dX3_time_1 : decode cX3_time 1 = .ok (.tableswitch 79 0 6 #[43, 48, 53, 58, 63, 68, 73], 43) := by decide +kernel
theorem dX3_time_44 : decode cX3_time 44 = .ok (.aload_n 0, 1) := by decide +kernel
theorem dX3_time_45 : decode cX3_time 45 = .ok (.getfield 102, 3) := by decide +kernel
theorem dX3_time_48 : decode cX3_time 48 = .ok (.lreturn, 1) := by decide +kernel
theorem dX3_time_49 : decode cX3_time 49 = .ok (.aload_n 0, 1) := by decide +kernel
theorem dX3_time_50 : decode cX3_time 50 = .ok (.getfield 99, 3) := by decide +kernel
theorem dX3_time_53 : decode cX3_time 53 = .ok (.lreturn, 1) := by decide +kernel
theorem dX3_time_54 : decode cX3_time 54 = .ok (.aload_n 0, 1) := by decide +kernel
theorem dX3_time_55 : decode cX3_time 55 = .ok (.getfield 135, 3) := by decide +kernel
theorem dX3_time_58 : decode cX3_time 58 = .ok (.lreturn, 1) := by decide +kernel
theorem dX3_time_59 : decode cX3_time 59 = .ok (.aload_n 0, 1) := by decide +kernel
theorem dX3_time_60 : decode cX3_time 60 = .ok (.getfield 138, 3) := by decide +kernel
theorem dX3_time_63 : decode cX3_time 63 = .ok (.lreturn, 1) := by decide +kernel
theorem dX3_time_64 : decode cX3_time 64 = .ok (.aload_n 0, 1) := by decide +kernel
theorem dX3_time_65 : decode cX3_time 65 = .ok (.getfield 89, 3) := by decide +kernel
theorem dX3_time_68 : decode cX3_time 68 = .ok (.lreturn, 1) := by decide +kernel
theorem dX3_time_69 : decode cX3_time 69 = .ok (.aload_n 0, 1) := by decide +kernel
theorem dX3_time_70 : decode cX3_time 70 = .ok (.getfield 105, 3) := by decide +kernel
theorem dX3_time_73 : decode cX3_time 73 = .ok (.lreturn, 1) := by decide +kernel
theorem dX3_time_74 : decode cX3_time 74 = .ok (.aload_n 0, 1) := by decide +kernel
theorem dX3_time_75 : decode cX3_time 75 = .ok (.getfield 111, 3) := by decide +kernel
theorem dX3_time_78 : decode cX3_time 78 = .ok (.i2l, 1) := by decide +kernel
theorem dX3_time_79 : decode cX3_time 79 = .ok (.lreturn, 1) := by decide +kernel
theorem dX3_time_80 : decode cX3_time 80 = .ok (.ldc2_w 141, 3) := by decide +kernel
theorem dX3_time_83 : decode cX3_time 83 = .ok (.lreturn, 1) := by decide +kernel
set_option maxRecDepth 20000 in
theorem ggX3_order_X1_thing : GoodIn wsX3_order wsX1_thing := goodIn_ca (goodIn_r _ [6, 7, 8, 23, 24, 25, 26, 27, 28] (by decide +kernel) (by decide +kernel)) (goodIn_sub (fun _ h => List.mem_cons_of_mem _ (List.mem_append_right _ h)) (by decide +kernel))
set_option maxRecDepth 20000 in
theorem gX3_order_X1_thing : GoodIn wsX3_order (wsV RX3 143 RX1 yX1_thing wsX1_thing) := goodIn_app (goodIn_of _ (by decide +kernel)) ggX3_order_X1_thing
theorem dX3_order_0 : decode cX3_order 0 = .ok (.aload_n 0, 1) := by decide +kernel
theorem dX3_order_1 : decode cX3_order 1 = .ok (.getfield 26, 3) := by decide +kernel
theorem dX3_order_4 : decode cX3_order 4 = .ok (.iload_n 1, 1) := by decide +kernel
theorem dX3_order_5 : decode cX3_order 5 = .ok (.invokevirtual 143, 3) := by decide +kernel
theorem dX3_order_8 : decode cX3_order 8 = .ok (.ireturn, 1) := by decide +kernel
theorem dX3_canAdvance_0 : decode cX3_canAdvance 0 = .ok (.lload_n 1, 1) := by decide +kernel
theorem dX3_canAdvance_1 : decode cX3_canAdvance 1 = .ok (.aload_n 0, 1) := by decide +kernel
theorem dX3_canAdvance_2 : decode cX3_canAdvance 2 = .ok (.getfield 102, 3) := by decide +kernel
theorem dX3_canAdvance_5 : decode cX3_canAdvance 5 = .ok (.lcmp, 1) := by decide +kernel
theorem dX3_canAdvance_6 : decode cX3_canAdvance 6 = .ok (.ifCond .lt 20, 3) := by decide +kernel
theorem dX3_canAdvance_9 : decode cX3_canAdvance 9 = .ok (.lload_n 1, 1) := by decide +kernel
theorem dX3_canAdvance_10 : decode cX3_canAdvance 10 = .ok (.aload_n 0, 1) := by decide +kernel
theorem dX3_canAdvance_11 : decode cX3_canAdvance 11 = .ok (.getfield 102, 3) := by decide +kernel
theorem dX3_canAdvance_14 : decode cX3_canAdvance 14 = .ok (.lsub, 1) := by decide +kernel
theorem dX3_canAdvance_15 : decode cX3_canAdvance 15 = .ok (.ldc2_w 147, 3) := by decide +kernel
theorem dX3_canAdvance_18 : decode cX3_canAdvance 18 = .ok (.lcmp, 1) := by decide +kernel
theorem dX3_canAdvance_19 : decode cX3_canAdvance 19 = .ok (.ifCond .gt 7, 3) := by decide +kernel
theorem dX3_canAdvance_22 : decode cX3_canAdvance 22 = .ok (.iconst 1, 1) := by decide +kernel
theorem dX3_canAdvance_23 : decode cX3_canAdvance 23 = .ok (.goto 4, 3) := by decide +kernel
theorem dX3_canAdvance_26 : decode cX3_canAdvance 26 = .ok (.iconst 0, 1) := by decide +kernel
theorem dX3_canAdvance_27 : decode cX3_canAdvance 27 = .ok (.ireturn, 1) := by decide +kernel
set_option maxRecDepth 20000 in
theorem ggX3_advance_X3_happen : GoodIn wsX3_advance wsX3_happen := goodIn_ca (goodIn_r _ [8, 9, 10, 11, 12, 7, 13, 14, 15, 3, 16, 17, 18, 19, 20, 21, 22, 23, 24, 25, 26, 27, 2, 28, 29, 30, 31, 1, 32, 33, 34, 35, 36, 37, 38, 39, 40, 41, 42, 43, 44, 45, 46, 47, 48, 49, 50, 51, 52, 53, 54, 55, 56, 57, 58, 59, 60, 61, 62, 63, 64, 65, 66, 67, 68, 69, 70, 71, 72, 73, 74, 75, 76, 77, 78, 79, 80, 81, 82, 83, 84, 85, 86, 87, 88, 89, 90, 91, 92, 93] (by decide +kernel) (by decide +kernel)) (goodIn_sub (fun _ h => List.mem_cons_of_mem _ (List.mem_append_right _ h)) (by decide +kernel))
set_option maxRecDepth 20000 in
theorem gX3_advance_X3_happen : GoodIn wsX3_advance (wsV RX3 149 RX3 yX3_happen wsX3_happen) := goodIn_app (goodIn_of _ (by decide +kernel)) ggX3_advance_X3_happen
theorem dX3_advance_0 : decode cX3_advance 0 = .ok (.iconst 0, 1) := by decide +kernel
theorem dX3_advance_1 : decode cX3_advance 1 = .ok (.istore_n 3, 1) := by decide +kernel
theorem dX3_advance_2 : decode cX3_advance 2 = .ok (.iload_n 3, 1) := by decide +kernel
theorem dX3_advance_3 : decode cX3_advance 3 = .ok (.sipush 1000, 3) := by decide +kernel
theorem dX3_advance_6 : decode cX3_advance 6 = .ok (.if_icmp .ge 41, 3) := by decide +kernel
theorem dX3_advance_9 : decode cX3_advance 9 = .ok (.aload_n 0, 1) := by decide +kernel
theorem dX3_advance_10 : decode cX3_advance 10 = .ok (.getfield 36, 3) := by decide +kernel
theorem dX3_advance_13 : decode cX3_advance 13 = .ok (.ldc2_w 34, 3) := by decide +kernel
theorem dX3_advance_16 : decode cX3_advance 16 = .ok (.lcmp, 1) := by decide +kernel
theorem dX3_advance_17 : decode cX3_advance 17 = .ok (.ifCond .eq 30, 3) := by decide +kernel
theorem dX3_advance_20 : decode cX3_advance 20 = .ok (.aload_n 0, 1) := by decide +kernel
theorem dX3_advance_21 : decode cX3_advance 21 = .ok (.getfield 36, 3) := by decide +kernel
theorem dX3_advance_24 : decode cX3_advance 24 = .ok (.lload_n 1, 1) := by decide +kernel
theorem dX3_advance_25 : decode cX3_advance 25 = .ok (.lcmp, 1) := by decide +kernel
theorem dX3_advance_26 : decode cX3_advance 26 = .ok (.ifCond .gt 21, 3) := by decide +kernel
theorem dX3_advance_29 : decode cX3_advance 29 = .ok (.aload_n 0, 1) := by decide +kernel
theorem dX3_advance_30 : decode cX3_advance 30 = .ok (.aload_n 0, 1) := by decide +kernel
theorem dX3_advance_31 : decode cX3_advance 31 = .ok (.getfield 36, 3) := by decide +kernel
theorem dX3_advance_34 : decode cX3_advance 34 = .ok (.putfield 102, 3) := by decide +kernel
theorem dX3_advance_37 : decode cX3_advance 37 = .ok (.aload_n 0, 1) := by decide +kernel
theorem dX3_advance_38 : decode cX3_advance 38 = .ok (.invokevirtual 149, 3) := by decide +kernel
theorem dX3_advance_41 : decode cX3_advance 41 = .ok (.iinc 3 1, 3) := by decide +kernel
theorem dX3_advance_44 : decode cX3_advance 44 = .ok (.goto (-42), 3) := by decide +kernel
theorem dX3_advance_47 : decode cX3_advance 47 = .ok (.aload_n 0, 1) := by decide +kernel
theorem dX3_advance_48 : decode cX3_advance 48 = .ok (.lload_n 1, 1) := by decide +kernel
theorem dX3_advance_49 : decode cX3_advance 49 = .ok (.putfield 102, 3) := by decide +kernel
theorem dX3_advance_52 : decode cX3_advance 52 = .ok (.return_, 1) := by decide +kernel
set_option maxRecDepth 20000 in
theorem ggX3_happen_X3_saveNextOrSleep : GoodIn wsX3_happen wsX3_saveNextOrSleep := goodIn_ca (goodIn_r _ [6, 7, 8, 9, 10, 11, 12, 13, 14, 15, 16, 17, 18, 19, 5, 20, 21, 22, 23, 24, 25, 26, 1, 27, 28, 29, 30, 31, 32, 33, 34, 35, 36, 37, 38, 39, 70, 71, 72, 73, 74, 75, 76, 77, 78, 79, 80, 81, 82, 83, 84, 85, 86, 87] (by decide +kernel) (by decide +kernel)) (goodIn_sub (fun _ h => List.mem_cons_of_mem _ (List.mem_append_right _ h)) (by decide +kernel))
set_option maxRecDepth 20000 in
theorem gX3_happen_X3_saveNextOrSleep : GoodIn wsX3_happen (wsV RX3 152 RX3 yX3_saveNextOrSleep wsX3_saveNextOrSleep) := goodIn_app (goodIn_of _ (by decide +kernel)) ggX3_happen_X3_saveNextOrSleep
set_option maxRecDepth 20000 in
theorem ggX3_happen_X3_endSaving : GoodIn wsX3_happen wsX3_endSaving := goodIn_ca (goodIn_r _ [43, 7, 8, 44, 45, 46, 47, 14, 48, 49, 50, 51, 52, 53, 54, 32, 16, 33, 34, 35, 36, 37, 38, 39, 55, 56, 57, 58, 59, 60, 61, 62, 63, 5, 64, 1, 65, 66, 67, 68, 9, 69, 22, 27, 2, 3, 4, 6, 10, 11, 12, 13, 15, 17, 18, 19, 20, 21, 23, 24, 25, 26, 28, 29, 30, 31, 70, 71, 72, 73, 74, 75, 76, 77, 78, 79, 80, 81, 82, 83, 84, 85, 86, 87, 88, 89] (by decide +kernel) (by decide +kernel)) (goodIn_sub (fun _ h => List.mem_cons_of_mem _ (List.mem_append_right _ h)) (by decide +kernel))
set_option maxRecDepth 20000 in
theorem gX3_happen_X3_endSaving : GoodIn wsX3_happen (wsV RX3 155 RX3 yX3_endSaving wsX3_endSaving) := goodIn_app (goodIn_of _ (by decide +kernel)) ggX3_happen_X3_endSaving
set_option maxRecDepth 20000 in
theorem ggX3_happen_X3_sleep : GoodIn wsX3_happen wsX3_sleep := goodIn_r _ [20, 21, 22, 23, 24, 25, 5, 26, 1, 27, 70, 71, 72, 73, 74, 75, 76, 77, 78, 79, 80, 81, 82, 83] (by decide +kernel) (by decide +kernel)
set_option maxRecDepth 20000 in
theorem gX3_happen_X3_sleep : GoodIn wsX3_happen (wsV RX3 158 RX3 yX3_sleep wsX3_sleep) := goodIn_app (goodIn_of _ (by decide +kernel)) ggX3_happen_X3_sleep
theorem dX3_happen_0 : decode cX3_happen 0 = .ok (.aload_n 0, 1) := by decide +kernel
theorem dX3_happen_1 : decode cX3_happen 1 = .ok (.getfield 30, 3) := by decide +kernel
theorem dX3_happen_4 : decode cX3_happen 4 = .ok (.iconst 1, 1) := by decide +kernel
theorem dX3_happen_5 : decode cX3_happen 5 = .ok (.if_icmp .ne 10, 3) := by decide +kernel
theorem dX3_happen_8 : decode cX3_happen 8 = .ok (.aload_n 0, 1) := by decide +kernel
theorem dX3_happen_9 : decode cX3_happen 9 = .ok (.invokevirtual 152, 3) := by decide +kernel
theorem dX3_happen_12 : decode cX3_happen 12 = .ok (.goto 22, 3) := by decide +kernel
theorem dX3_happen_15 : decode cX3_happen 15 = .ok (.aload_n 0, 1) := by decide +kernel
theorem dX3_happen_16 : decode cX3_happen 16 = .ok (.getfield 30, 3) := by decide +kernel
theorem dX3_happen_19 : decode cX3_happen 19 = .ok (.iconst 2, 1) := by decide +kernel
theorem dX3_happen_20 : decode cX3_happen 20 = .ok (.if_icmp .ne 10, 3) := by decide +kernel
theorem dX3_happen_23 : decode cX3_happen 23 = .ok (.aload_n 0, 1) := by decide +kernel
theorem dX3_happen_24 : decode cX3_happen 24 = .ok (.invokevirtual 155, 3) := by decide +kernel
theorem dX3_happen_27 : decode cX3_happen 27 = .ok (.goto 7, 3) := by decide +kernel
theorem dX3_happen_30 : decode cX3_happen 30 = .ok (.aload_n 0, 1) := by decide +kernel
theorem dX3_happen_31 : decode cX3_happen 31 = .ok (.invokevirtual 158, 3) := by decide +kernel
theorem dX3_happen_34 : decode cX3_happen 34 = .ok (.return_, 1) := by decide +kernel
set_option maxRecDepth 20000 in
theorem ggX3_saveNextOrSleep_X0_firstChanged : GoodIn wsX3_saveNextOrSleep wsX0_firstChanged := goodIn_ca (goodIn_r _ [9, 10, 50, 51, 52, 53] (by decide +kernel) (by decide +kernel)) (goodIn_sub (fun _ h => List.mem_cons_of_mem _ (List.mem_append_right _ h)) (by decide +kernel))
set_option maxRecDepth 20000 in
theorem gX3_saveNextOrSleep_X0_firstChanged : GoodIn wsX3_saveNextOrSleep (wsV RX3 161 RX0 yX0_firstChanged wsX0_firstChanged) := goodIn_app (goodIn_of _ (by decide +kernel)) ggX3_saveNextOrSleep_X0_firstChanged
set_option maxRecDepth 20000 in
theorem ggX3_saveNextOrSleep_X3_sleep : GoodIn wsX3_saveNextOrSleep wsX3_sleep := goodIn_r _ [15, 16, 17, 18, 19, 20, 14, 21, 22, 23, 36, 37, 38, 39, 40, 41, 42, 43, 44, 45, 46, 47, 48, 49] (by decide +kernel) (by decide +kernel)
set_option maxRecDepth 20000 in
theorem gX3_saveNextOrSleep_X3_sleep : GoodIn wsX3_saveNextOrSleep (wsV RX3 158 RX3 yX3_sleep wsX3_sleep) := goodIn_app (goodIn_of _ (by decide +kernel)) ggX3_saveNextOrSleep_X3_sleep
set_option maxRecDepth 20000 in
theorem ggX3_saveNextOrSleep_X0_tear : GoodIn wsX3_saveNextOrSleep wsX0_tear := goodIn_ca (goodIn_r _ [27, 28, 29, 30, 8, 31, 32, 33, 34, 35, 50, 51, 52, 53] (by decide +kernel) (by decide +kernel)) (goodIn_sub (fun _ h => List.mem_cons_of_mem _ (List.mem_append_right _ h)) (by decide +kernel))
set_option maxRecDepth 20000 in
theorem gX3_saveNextOrSleep_X0_tear : GoodIn wsX3_saveNextOrSleep (wsV RX3 164 RX0 yX0_tear wsX0_tear) := goodIn_app (goodIn_of _ (by decide +kernel)) ggX3_saveNextOrSleep_X0_tear
set_option maxRecDepth 20000 in
theorem ggX3_saveNextOrSleep_X3_enter : GoodIn wsX3_saveNextOrSleep wsX3_enter := goodIn_r _ [21, 22, 23, 36, 37, 38, 39, 40, 41, 42, 43, 44, 45, 46, 47, 48, 49] (by decide +kernel) (by decide +kernel)
set_option maxRecDepth 20000 in
theorem gX3_saveNextOrSleep_X3_enter : GoodIn wsX3_saveNextOrSleep (wsV RX3 92 RX3 yX3_enter wsX3_enter) := goodIn_app (goodIn_of _ (by decide +kernel)) ggX3_saveNextOrSleep_X3_enter
theorem dX3_saveNextOrSleep_0 : decode cX3_saveNextOrSleep 0 = .ok (.aload_n 0, 1) := by decide +kernel
theorem dX3_saveNextOrSleep_1 : decode cX3_saveNextOrSleep 1 = .ok (.aload_n 0, 1) := by decide +kernel
theorem dX3_saveNextOrSleep_2 : decode cX3_saveNextOrSleep 2 = .ok (.getfield 19, 3) := by decide +kernel
theorem dX3_saveNextOrSleep_5 : decode cX3_saveNextOrSleep 5 = .ok (.invokevirtual 161, 3) := by decide +kernel
theorem dX3_saveNextOrSleep_8 : decode cX3_saveNextOrSleep 8 = .ok (.putfield 40, 3) := by decide +kernel
theorem dX3_saveNextOrSleep_11 : decode cX3_saveNextOrSleep 11 = .ok (.aload_n 0, 1) := by decide +kernel
theorem dX3_saveNextOrSleep_12 : decode cX3_saveNextOrSleep 12 = .ok (.getfield 40, 3) := by decide +kernel
theorem dX3_saveNextOrSleep_15 : decode cX3_saveNextOrSleep 15 = .ok (.iconst (-1), 1) := by decide +kernel
theorem dX3_saveNextOrSleep_16 : decode cX3_saveNextOrSleep 16 = .ok (.if_icmp .ne 10, 3) := by decide +kernel
theorem dX3_saveNextOrSleep_19 : decode cX3_saveNextOrSleep 19 = .ok (.aload_n 0, 1) := by decide +kernel
theorem dX3_saveNextOrSleep_20 : decode cX3_saveNextOrSleep 20 = .ok (.invokevirtual 158, 3) := by decide +kernel
theorem dX3_saveNextOrSleep_23 : decode cX3_saveNextOrSleep 23 = .ok (.goto 27, 3) := by decide +kernel
theorem dX3_saveNextOrSleep_26 : decode cX3_saveNextOrSleep 26 = .ok (.aload_n 0, 1) := by decide +kernel
theorem dX3_saveNextOrSleep_27 : decode cX3_saveNextOrSleep 27 = .ok (.getfield 19, 3) := by decide +kernel
theorem dX3_saveNextOrSleep_30 : decode cX3_saveNextOrSleep 30 = .ok (.aload_n 0, 1) := by decide +kernel
theorem dX3_saveNextOrSleep_31 : decode cX3_saveNextOrSleep 31 = .ok (.getfield 40, 3) := by decide +kernel
theorem dX3_saveNextOrSleep_34 : decode cX3_saveNextOrSleep 34 = .ok (.invokevirtual 164, 3) := by decide +kernel
theorem dX3_saveNextOrSleep_37 : decode cX3_saveNextOrSleep 37 = .ok (.aload_n 0, 1) := by decide +kernel
theorem dX3_saveNextOrSleep_38 : decode cX3_saveNextOrSleep 38 = .ok (.iconst 2, 1) := by decide +kernel
theorem dX3_saveNextOrSleep_39 : decode cX3_saveNextOrSleep 39 = .ok (.aload_n 0, 1) := by decide +kernel
theorem dX3_saveNextOrSleep_40 : decode cX3_saveNextOrSleep 40 = .ok (.getfield 102, 3) := by decide +kernel
theorem dX3_saveNextOrSleep_43 : decode cX3_saveNextOrSleep 43 = .ok (.ldc2_w 168, 3) := by decide +kernel
theorem dX3_saveNextOrSleep_46 : decode cX3_saveNextOrSleep 46 = .ok (.ladd, 1) := by decide +kernel
theorem dX3_saveNextOrSleep_47 : decode cX3_saveNextOrSleep 47 = .ok (.invokevirtual 92, 3) := by decide +kernel
theorem dX3_saveNextOrSleep_50 : decode cX3_saveNextOrSleep 50 = .ok (.return_, 1) := by decide +kernel
set_option maxRecDepth 20000 in
theorem ggX3_endSaving_X0_save : GoodIn wsX3_endSaving wsX0_save := goodIn_ca (goodIn_r _ [8, 9, 10, 11, 12, 13, 14, 15, 16, 17, 18, 7, 19, 20, 21, 22, 23, 80, 81, 82, 83] (by decide +kernel) (by decide +kernel)) (goodIn_sub (fun _ h => List.mem_cons_of_mem _ (List.mem_append_right _ h)) (by decide +kernel))
set_option maxRecDepth 20000 in
theorem gX3_endSaving_X0_save : GoodIn wsX3_endSaving (wsV RX3 170 RX0 yX0_save wsX0_save) := goodIn_app (goodIn_of _ (by decide +kernel)) ggX3_endSaving_X0_save
set_option maxRecDepth 20000 in
theorem ggX3_endSaving_X2_howMany : GoodIn wsX3_endSaving wsX2_howMany := goodIn_r _ [28, 29, 84, 85] (by decide +kernel) (by decide +kernel)
set_option maxRecDepth 20000 in
theorem gX3_endSaving_X2_howMany : GoodIn wsX3_endSaving (wsV RX3 43 RX2 yX2_howMany wsX2_howMany) := goodIn_app (goodIn_of _ (by decide +kernel)) ggX3_endSaving_X2_howMany
set_option maxRecDepth 20000 in
theorem ggX3_endSaving_X3_run : GoodIn wsX3_endSaving wsX3_run := goodIn_r _ [34, 35, 36, 37, 38, 33, 39, 3, 40, 41, 42, 43, 24, 25, 26, 27, 28, 29, 66, 67, 68, 69, 70, 71, 72, 73, 74, 75, 76, 77, 78, 79, 84, 85] (by decide +kernel) (by decide +kernel)
set_option maxRecDepth 20000 in
theorem gX3_endSaving_X3_run : GoodIn wsX3_endSaving (wsV RX3 58 RX3 yX3_run wsX3_run) := goodIn_app (goodIn_of _ (by decide +kernel)) ggX3_endSaving_X3_run
set_option maxRecDepth 20000 in
theorem ggX3_endSaving_X3_saveNextOrSleep : GoodIn wsX3_endSaving wsX3_saveNextOrSleep := goodIn_ca (goodIn_r _ [47, 1, 2, 40, 48, 49, 50, 51, 7, 52, 16, 53, 54, 55, 33, 56, 57, 42, 58, 59, 60, 61, 35, 43, 62, 63, 64, 65, 15, 17, 18, 19, 20, 21, 22, 23, 66, 67, 68, 69, 70, 71, 72, 73, 74, 75, 76, 77, 78, 79, 80, 81, 82, 83] (by decide +kernel) (by decide +kernel)) (goodIn_sub (fun _ h => List.mem_cons_of_mem _ (List.mem_append_right _ h)) (by decide +kernel))
set_option maxRecDepth 20000 in
theorem gX3_endSaving_X3_saveNextOrSleep : GoodIn wsX3_endSaving (wsV RX3 152 RX3 yX3_saveNextOrSleep wsX3_saveNextOrSleep) := goodIn_app (goodIn_of _ (by decide +kernel)) ggX3_endSaving_X3_saveNextOrSleep
theorem dX3_endSaving_0 : decode cX3_endSaving 0 = .ok (.aload_n 0, 1) := by decide +kernel
theorem dX3_endSaving_1 : decode cX3_endSaving 1 = .ok (.getfield 19, 3) := by decide +kernel
theorem dX3_endSaving_4 : decode cX3_endSaving 4 = .ok (.aload_n 0, 1) := by decide +kernel
theorem dX3_endSaving_5 : decode cX3_endSaving 5 = .ok (.getfield 40, 3) := by decide +kernel
theorem dX3_endSaving_8 : decode cX3_endSaving 8 = .ok (.invokevirtual 170, 3) := by decide +kernel
theorem dX3_endSaving_11 : decode cX3_endSaving 11 = .ok (.aload_n 0, 1) := by decide +kernel
theorem dX3_endSaving_12 : decode cX3_endSaving 12 = .ok (.iconst (-1), 1) := by decide +kernel
theorem dX3_endSaving_13 : decode cX3_endSaving 13 = .ok (.putfield 40, 3) := by decide +kernel
theorem dX3_endSaving_16 : decode cX3_endSaving 16 = .ok (.aload_n 0, 1) := by decide +kernel
theorem dX3_endSaving_17 : decode cX3_endSaving 17 = .ok (.getfield 10, 3) := by decide +kernel
theorem dX3_endSaving_20 : decode cX3_endSaving 20 = .ok (.invokevirtual 43, 3) := by decide +kernel
theorem dX3_endSaving_23 : decode cX3_endSaving 23 = .ok (.ifCond .le 10, 3) := by decide +kernel
theorem dX3_endSaving_26 : decode cX3_endSaving 26 = .ok (.aload_n 0, 1) := by decide +kernel
theorem dX3_endSaving_27 : decode cX3_endSaving 27 = .ok (.invokevirtual 58, 3) := by decide +kernel
theorem dX3_endSaving_30 : decode cX3_endSaving 30 = .ok (.goto 7, 3) := by decide +kernel
theorem dX3_endSaving_33 : decode cX3_endSaving 33 = .ok (.aload_n 0, 1) := by decide +kernel
theorem dX3_endSaving_34 : decode cX3_endSaving 34 = .ok (.invokevirtual 152, 3) := by decide +kernel
theorem dX3_endSaving_37 : decode cX3_endSaving 37 = .ok (.return_, 1) := by decide +kernel
set_option maxRecDepth 20000 in
theorem ggX3_run_X3_awaitIdleness : GoodIn wsX3_run wsX3_awaitIdleness := goodIn_r _ [6, 7, 8, 9, 10, 11, 12, 13, 14, 15, 16, 17, 18, 19, 20, 21, 22, 23, 24, 25, 26, 27, 28, 29, 30, 31, 32, 33] (by decide +kernel) (by decide +kernel)
set_option maxRecDepth 20000 in
theorem gX3_run_X3_awaitIdleness : GoodIn wsX3_run (wsV RX3 55 RX3 yX3_awaitIdleness wsX3_awaitIdleness) := goodIn_app (goodIn_of _ (by decide +kernel)) ggX3_run_X3_awaitIdleness
theorem dX3_run_0 : decode cX3_run 0 = .ok (.aload_n 0, 1) := by decide +kernel
theorem dX3_run_1 : decode cX3_run 1 = .ok (.iconst 1, 1) := by decide +kernel
theorem dX3_run_2 : decode cX3_run 2 = .ok (.putfield 30, 3) := by decide +kernel
theorem dX3_run_5 : decode cX3_run 5 = .ok (.aload_n 0, 1) := by decide +kernel
theorem dX3_run_6 : decode cX3_run 6 = .ok (.invokevirtual 55, 3) := by decide +kernel
theorem dX3_run_9 : decode cX3_run 9 = .ok (.return_, 1) := by decide +kernel
set_option maxRecDepth 20000 in
theorem ggX3_awaitIdleness_X2_howMany : GoodIn wsX3_awaitIdleness wsX2_howMany := goodIn_r _ [10, 11, 26, 27] (by decide +kernel) (by decide +kernel)
set_option maxRecDepth 20000 in
theorem gX3_awaitIdleness_X2_howMany : GoodIn wsX3_awaitIdleness (wsV RX3 43 RX2 yX2_howMany wsX2_howMany) := goodIn_app (goodIn_of _ (by decide +kernel)) ggX3_awaitIdleness_X2_howMany
theorem dX3_awaitIdleness_0 : decode cX3_awaitIdleness 0 = .ok (.aload_n 0, 1) := by decide +kernel
theorem dX3_awaitIdleness_1 : decode cX3_awaitIdleness 1 = .ok (.aload_n 0, 1) := by decide +kernel
theorem dX3_awaitIdleness_2 : decode cX3_awaitIdleness 2 = .ok (.getfield 10, 3) := by decide +kernel
theorem dX3_awaitIdleness_5 : decode cX3_awaitIdleness 5 = .ok (.invokevirtual 43, 3) := by decide +kernel
theorem dX3_awaitIdleness_8 : decode cX3_awaitIdleness 8 = .ok (.ifCond .ne 14, 3) := by decide +kernel
theorem dX3_awaitIdleness_11 : decode cX3_awaitIdleness 11 = .ok (.aload_n 0, 1) := by decide +kernel
theorem dX3_awaitIdleness_12 : decode cX3_awaitIdleness 12 = .ok (.getfield 102, 3) := by decide +kernel
theorem dX3_awaitIdleness_15 : decode cX3_awaitIdleness 15 = .ok (.ldc2_w 173, 3) := by decide +kernel
theorem dX3_awaitIdleness_18 : decode cX3_awaitIdleness 18 = .ok (.ladd, 1) := by decide +kernel
theorem dX3_awaitIdleness_19 : decode cX3_awaitIdleness 19 = .ok (.goto 6, 3) := by decide +kernel
theorem dX3_awaitIdleness_22 : decode cX3_awaitIdleness 22 = .ok (.ldc2_w 34, 3) := by decide +kernel
theorem dX3_awaitIdleness_25 : decode cX3_awaitIdleness 25 = .ok (.putfield 36, 3) := by decide +kernel
theorem dX3_awaitIdleness_28 : decode cX3_awaitIdleness 28 = .ok (.return_, 1) := by decide +kernel
set_option maxRecDepth 20000 in
theorem ggX3_sleep_X3_enter : GoodIn wsX3_sleep wsX3_enter := goodIn_r _ [7, 8, 9, 10, 11, 12, 13, 14, 15, 16, 17, 18, 19, 20, 21, 22, 23] (by decide +kernel) (by decide +kernel)
set_option maxRecDepth 20000 in
theorem gX3_sleep_X3_enter : GoodIn wsX3_sleep (wsV RX3 92 RX3 yX3_enter wsX3_enter) := goodIn_app (goodIn_of _ (by decide +kernel)) ggX3_sleep_X3_enter
theorem dX3_sleep_0 : decode cX3_sleep 0 = .ok (.aload_n 0, 1) := by decide +kernel
theorem dX3_sleep_1 : decode cX3_sleep 1 = .ok (.dup, 1) := by decide +kernel
theorem dX3_sleep_2 : decode cX3_sleep 2 = .ok (.getfield 135, 3) := by decide +kernel
theorem dX3_sleep_5 : decode cX3_sleep 5 = .ok (.lconst 1, 1) := by decide +kernel
theorem dX3_sleep_6 : decode cX3_sleep 6 = .ok (.ladd, 1) := by decide +kernel
theorem dX3_sleep_7 : decode cX3_sleep 7 = .ok (.putfield 135, 3) := by decide +kernel
theorem dX3_sleep_10 : decode cX3_sleep 10 = .ok (.aload_n 0, 1) := by decide +kernel
theorem dX3_sleep_11 : decode cX3_sleep 11 = .ok (.iconst 3, 1) := by decide +kernel
theorem dX3_sleep_12 : decode cX3_sleep 12 = .ok (.ldc2_w 34, 3) := by decide +kernel
theorem dX3_sleep_15 : decode cX3_sleep 15 = .ok (.invokevirtual 92, 3) := by decide +kernel
theorem dX3_sleep_18 : decode cX3_sleep 18 = .ok (.return_, 1) := by decide +kernel
set_option maxRecDepth 20000 in
theorem ggX3_check_X3_enter : GoodIn wsX3_check wsX3_enter := goodIn_r _ [8, 9, 10, 11, 12, 13, 14, 15, 16, 17, 18, 19, 20, 21, 22, 23, 24] (by decide +kernel) (by decide +kernel)
set_option maxRecDepth 20000 in
theorem gX3_check_X3_enter : GoodIn wsX3_check (wsV RX3 92 RX3 yX3_enter wsX3_enter) := goodIn_app (goodIn_of _ (by decide +kernel)) ggX3_check_X3_enter
theorem dX3_check_0 : decode cX3_check 0 = .ok (.aload_n 0, 1) := by decide +kernel
theorem dX3_check_1 : decode cX3_check 1 = .ok (.dup, 1) := by decide +kernel
theorem dX3_check_2 : decode cX3_check 2 = .ok (.getfield 138, 3) := by decide +kernel
theorem dX3_check_5 : decode cX3_check 5 = .ok (.lconst 1, 1) := by decide +kernel
theorem dX3_check_6 : decode cX3_check 6 = .ok (.ladd, 1) := by decide +kernel
theorem dX3_check_7 : decode cX3_check 7 = .ok (.putfield 138, 3) := by decide +kernel
theorem dX3_check_10 : decode cX3_check 10 = .ok (.aload_n 0, 1) := by decide +kernel
theorem dX3_check_11 : decode cX3_check 11 = .ok (.iconst 4, 1) := by decide +kernel
theorem dX3_check_12 : decode cX3_check 12 = .ok (.aload_n 0, 1) := by decide +kernel
theorem dX3_check_13 : decode cX3_check 13 = .ok (.getfield 102, 3) := by decide +kernel
theorem dX3_check_16 : decode cX3_check 16 = .ok (.ldc2_w 175, 3) := by decide +kernel
theorem dX3_check_19 : decode cX3_check 19 = .ok (.ladd, 1) := by decide +kernel
theorem dX3_check_20 : decode cX3_check 20 = .ok (.invokevirtual 92, 3) := by decide +kernel
theorem dX3_check_23 : decode cX3_check 23 = .ok (.return_, 1) := by decide +kernel
theorem dX3_enter_0 : decode cX3_enter 0 = .ok (.aload_n 0, 1) := by decide +kernel
theorem dX3_enter_1 : decode cX3_enter 1 = .ok (.iload_n 1, 1) := by decide +kernel
theorem dX3_enter_2 : decode cX3_enter 2 = .ok (.putfield 30, 3) := by decide +kernel
theorem dX3_enter_5 : decode cX3_enter 5 = .ok (.aload_n 0, 1) := by decide +kernel
theorem dX3_enter_6 : decode cX3_enter 6 = .ok (.lload_n 2, 1) := by decide +kernel
theorem dX3_enter_7 : decode cX3_enter 7 = .ok (.putfield 36, 3) := by decide +kernel
theorem dX3_enter_10 : decode cX3_enter 10 = .ok (.return_, 1) := by decide +kernel
theorem dX4_init_0 : decode cX4_init 0 = .ok (.aload_n 0, 1) := by decide +kernel
theorem dX4_init_1 : decode cX4_init 1 = .ok (.invokespecial 1, 3) := by decide +kernel
theorem dX4_init_4 : decode cX4_init 4 = .ok (.aload_n 0, 1) := by decide +kernel
theorem dX4_init_5 : decode cX4_init 5 = .ok (.sipush 128, 3) := by decide +kernel
theorem dX4_init_8 : decode cX4_init 8 = .ok (.newarray .byte, 2) := by decide +kernel
theorem dX4_init_10 : decode cX4_init 10 = .ok (.putfield 7, 3) := by decide +kernel
theorem dX4_init_13 : decode cX4_init 13 = .ok (.aload_n 0, 1) := by decide +kernel
theorem dX4_init_14 : decode cX4_init 14 = .ok (.sipush 256, 3) := by decide +kernel
theorem dX4_init_17 : decode cX4_init 17 = .ok (.newarray .byte, 2) := by decide +kernel
theorem dX4_init_19 : decode cX4_init 19 = .ok (.putfield 13, 3) := by decide +kernel
theorem dX4_init_22 : decode cX4_init 22 = .ok (.aload_n 0, 1) := by decide +kernel
theorem dX4_init_23 : decode cX4_init 23 = .ok (.bipush 16, 2) := by decide +kernel
theorem dX4_init_25 : decode cX4_init 25 = .ok (.newarray .int, 2) := by decide +kernel
theorem dX4_init_27 : decode cX4_init 27 = .ok (.putfield 16, 3) := by decide +kernel
theorem dX4_init_30 : decode cX4_init 30 = .ok (.aload_n 0, 1) := by decide +kernel
theorem dX4_init_31 : decode cX4_init 31 = .ok (.bipush 8, 2) := by decide +kernel
theorem dX4_init_33 : decode cX4_init 33 = .ok (.newarray .boolean, 2) := by decide +kernel
theorem dX4_init_35 : decode cX4_init 35 = .ok (.putfield 20, 3) := by decide +kernel
theorem dX4_init_38 : decode cX4_init 38 = .ok (.aload_n 0, 1) := by decide +kernel
theorem dX4_init_39 : decode cX4_init 39 = .ok (.bipush 17, 2) := by decide +kernel
theorem dX4_init_41 : decode cX4_init 41 = .ok (.newarray .boolean, 2) := by decide +kernel
theorem dX4_init_43 : decode cX4_init 43 = .ok (.putfield 24, 3) := by decide +kernel
theorem dX4_init_46 : decode cX4_init 46 = .ok (.aload_n 0, 1) := by decide +kernel
theorem dX4_init_47 : decode cX4_init 47 = .ok (.bipush 21, 2) := by decide +kernel
theorem dX4_init_49 : decode cX4_init 49 = .ok (.newarray .boolean, 2) := by decide +kernel
theorem dX4_init_51 : decode cX4_init 51 = .ok (.putfield 27, 3) := by decide +kernel
theorem dX4_init_54 : decode cX4_init 54 = .ok (.aload_n 0, 1) := by decide +kernel
theorem dX4_init_55 : decode cX4_init 55 = .ok (.bipush 21, 2) := by decide +kernel
theorem dX4_init_57 : decode cX4_init 57 = .ok (.newarray .int, 2) := by decide +kernel
theorem dX4_init_59 : decode cX4_init 59 = .ok (.putfield 30, 3) := by decide +kernel
theorem dX4_init_62 : decode cX4_init 62 = .ok (.aload_n 0, 1) := by decide +kernel
theorem dX4_init_63 : decode cX4_init 63 = .ok (.bipush 21, 2) := by decide +kernel
theorem dX4_init_65 : decode cX4_init 65 = .ok (.newarray .boolean, 2) := by decide +kernel
theorem dX4_init_67 : decode cX4_init 67 = .ok (.putfield 33, 3) := by decide +kernel
theorem dX4_init_70 : decode cX4_init 70 = .ok (.aload_n 0, 1) := by decide +kernel
theorem dX4_init_71 : decode cX4_init 71 = .ok (.bipush 40, 2) := by decide +kernel
theorem dX4_init_73 : decode cX4_init 73 = .ok (.newarray .int, 2) := by decide +kernel
theorem dX4_init_75 : decode cX4_init 75 = .ok (.putfield 36, 3) := by decide +kernel
theorem dX4_init_78 : decode cX4_init 78 = .ok (.return_, 1) := by decide +kernel
theorem dX4_thrown_0 : decode cX4_thrown 0 = .ok (.aload_n 0, 1) := by decide +kernel
theorem dX4_thrown_1 : decode cX4_thrown 1 = .ok (.getfield 39, 3) := by decide +kernel
theorem dX4_thrown_4 : decode cX4_thrown 4 = .ok (.ireturn, 1) := by decide +kernel
theorem dX4_user_0 : decode cX4_user 0 = .ok (.aload_n 0, 1) := by decide +kernel
theorem dX4_user_1 : decode cX4_user 1 = .ok (.iconst 0, 1) := by decide +kernel
theorem dX4_user_2 : decode cX4_user 2 = .ok (.putfield 39, 3) := by decide +kernel
theorem dX4_user_5 : decode cX4_user 5 = .ok (.iconst 0, 1) := by decide +kernel
theorem dX4_user_6 : decode cX4_user 6 = .ok (.istore_n 1, 1) := by decide +kernel
theorem dX4_user_7 : decode cX4_user 7 = .ok (.iconst 1, 1) := by decide +kernel
theorem dX4_user_8 : decode cX4_user 8 = .ok (.istore_n 2, 1) := by decide +kernel
theorem dX4_user_9 : decode cX4_user 9 = .ok (.iload_n 2, 1) := by decide +kernel
theorem dX4_user_10 : decode cX4_user 10 = .ok (.bipush 16, 2) := by decide +kernel
theorem dX4_user_12 : decode cX4_user 12 = .ok (.if_icmp .gt 26, 3) := by decide +kernel
theorem dX4_user_15 : decode cX4_user 15 = .ok (.aload_n 0, 1) := by decide +kernel
theorem dX4_user_16 : decode cX4_user 16 = .ok (.getfield 24, 3) := by decide +kernel
theorem dX4_user_19 : decode cX4_user 19 = .ok (.iload_n 2, 1) := by decide +kernel
theorem dX4_user_20 : decode cX4_user 20 = .ok (.baload, 1) := by decide +kernel
theorem dX4_user_21 : decode cX4_user 21 = .ok (.ifCond .eq 9, 3) := by decide +kernel
theorem dX4_user_24 : decode cX4_user 24 = .ok (.iload_n 1, 1) := by decide +kernel
theorem dX4_user_25 : decode cX4_user 25 = .ok (.iconst 1, 1) := by decide +kernel
theorem dX4_user_26 : decode cX4_user 26 = .ok (.iadd, 1) := by decide +kernel
theorem dX4_user_27 : decode cX4_user 27 = .ok (.goto 4, 3) := by decide +kernel
theorem dX4_user_30 : decode cX4_user 30 = .ok (.iload_n 1, 1) := by decide +kernel
theorem dX4_user_31 : decode cX4_user 31 = .ok (.istore_n 1, 1) := by decide +kernel
theorem dX4_user_32 : decode cX4_user 32 = .ok (.iinc 2 1, 3) := by decide +kernel
theorem dX4_user_35 : decode cX4_user 35 = .ok (.goto (-26), 3) := by decide +kernel
theorem dX4_user_38 : decode cX4_user 38 = .ok (.iload_n 1, 1) := by decide +kernel
theorem dX4_user_39 : decode cX4_user 39 = .ok (.ireturn, 1) := by decide +kernel
set_option maxRecDepth 20000 in
theorem ggX4_request_X4_user : GoodIn wsX4_request wsX4_user := goodIn_ca (goodIn_r _ [10, 1, 3, 11, 12, 13, 14, 15, 16, 17, 18, 19, 20, 21, 22, 23, 24, 25, 26, 27, 28, 29, 30, 31, 32, 33] (by decide +kernel) (by decide +kernel)) (goodIn_sub (fun _ h => List.mem_cons_of_mem _ (List.mem_append_right _ h)) (by decide +kernel))
set_option maxRecDepth 20000 in
theorem gX4_request_X4_user : GoodIn wsX4_request (wsV RX4 46 RX4 yX4_user wsX4_user) := goodIn_app (goodIn_of _ (by decide +kernel)) ggX4_request_X4_user
theorem dX4_request_0 : decode cX4_request 0 = .ok (.aload_n 0, 1) := by decide +kernel
theorem dX4_request_1 : decode cX4_request 1 = .ok (.iconst 0, 1) := by decide +kernel
theorem dX4_request_2 : decode cX4_request 2 = .ok (.putfield 39, 3) := by decide +kernel
theorem dX4_request_5 : decode cX4_request 5 = .ok (.iload_n 1, 1) := by decide +kernel
theorem dX4_request_6 : decode cX4_request 6 = .ok (.iconst 1, 1) := by decide +kernel
theorem dX4_request_7 : decode cX4_request 7 = .ok (.if_icmp .lt 9, 3) := by decide +kernel
theorem dX4_request_10 : decode cX4_request 10 = .ok (.iload_n 1, 1) := by decide +kernel
theorem dX4_request_11 : decode cX4_request 11 = .ok (.bipush 16, 2) := by decide +kernel
theorem dX4_request_13 : decode cX4_request 13 = .ok (.if_icmp .le 5, 3) := by decide +kernel
theorem dX4_request_16 : decode cX4_request 16 = .ok (.iconst (-1), 1) := by decide +kernel
theorem dX4_request_17 : decode cX4_request 17 = .ok (.ireturn, 1) := by decide +kernel
theorem dX4_request_18 : decode cX4_request 18 = .ok (.aload_n 0, 1) := by decide +kernel
theorem dX4_request_19 : decode cX4_request 19 = .ok (.getfield 43, 3) := by decide +kernel
theorem dX4_request_22 : decode cX4_request 22 = .ok (.ifCond .eq 19, 3) := by decide +kernel
theorem dX4_request_25 : decode cX4_request 25 = .ok (.aload_n 0, 1) := by decide +kernel
theorem dX4_request_26 : decode cX4_request 26 = .ok (.getfield 43, 3) := by decide +kernel
theorem dX4_request_29 : decode cX4_request 29 = .ok (.iconst 3, 1) := by decide +kernel
theorem dX4_request_30 : decode cX4_request 30 = .ok (.if_icmp .eq 11, 3) := by decide +kernel
theorem dX4_request_33 : decode cX4_request 33 = .ok (.aload_n 0, 1) := by decide +kernel
theorem dX4_request_34 : decode cX4_request 34 = .ok (.getfield 43, 3) := by decide +kernel
theorem dX4_request_37 : decode cX4_request 37 = .ok (.iconst 5, 1) := by decide +kernel
theorem dX4_request_38 : decode cX4_request 38 = .ok (.if_icmp .ne 6, 3) := by decide +kernel
theorem dX4_request_41 : decode cX4_request 41 = .ok (.bipush (-3), 2) := by decide +kernel
theorem dX4_request_43 : decode cX4_request 43 = .ok (.ireturn, 1) := by decide +kernel
theorem dX4_request_44 : decode cX4_request 44 = .ok (.aload_n 0, 1) := by decide +kernel
theorem dX4_request_45 : decode cX4_request 45 = .ok (.getfield 24, 3) := by decide +kernel
theorem dX4_request_48 : decode cX4_request 48 = .ok (.iload_n 1, 1) := by decide +kernel
theorem dX4_request_49 : decode cX4_request 49 = .ok (.baload, 1) := by decide +kernel
theorem dX4_request_50 : decode cX4_request 50 = .ok (.istore_n 3, 1) := by decide +kernel
theorem dX4_request_51 : decode cX4_request 51 = .ok (.aload_n 0, 1) := by decide +kernel
theorem dX4_request_52 : decode cX4_request 52 = .ok (.getfield 24, 3) := by decide +kernel
end
section
theorem dX4_request_55 : decode cX4_request 55 = .ok (.iload_n 1, 1) := by decide +kernel
theorem dX4_request_56 : decode cX4_request 56 = .ok (.iload_n 2, 1) := by decide +kernel
theorem dX4_request_57 : decode cX4_request 57 = .ok (.bastore, 1) := by decide +kernel
theorem dX4_request_58 : decode cX4_request 58 = .ok (.aload_n 0, 1) := by decide +kernel
theorem dX4_request_59 : decode cX4_request 59 = .ok (.invokevirtual 46, 3) := by decide +kernel
theorem dX4_request_62 : decode cX4_request 62 = .ok (.istore 4, 2) := by decide +kernel
theorem dX4_request_64 : decode cX4_request 64 = .ok (.iload_n 3, 1) := by decide +kernel
theorem dX4_request_65 : decode cX4_request 65 = .ok (.ifCond .eq 20, 3) := by decide +kernel
theorem dX4_request_68 : decode cX4_request 68 = .ok (.iload_n 2, 1) := by decide +kernel
theorem dX4_request_69 : decode cX4_request 69 = .ok (.ifCond .ne 16, 3) := by decide +kernel
theorem dX4_request_72 : decode cX4_request 72 = .ok (.iload 4, 2) := by decide +kernel
theorem dX4_request_74 : decode cX4_request 74 = .ok (.ifCond .ne 11, 3) := by decide +kernel
theorem dX4_request_77 : decode cX4_request 77 = .ok (.aload_n 0, 1) := by decide +kernel
theorem dX4_request_78 : decode cX4_request 78 = .ok (.aload_n 0, 1) := by decide +kernel
theorem dX4_request_79 : decode cX4_request 79 = .ok (.getfield 50, 3) := by decide +kernel
theorem dX4_request_82 : decode cX4_request 82 = .ok (.putfield 54, 3) := by decide +kernel
theorem dX4_request_85 : decode cX4_request 85 = .ok (.iload 4, 2) := by decide +kernel
theorem dX4_request_87 : decode cX4_request 87 = .ok (.ireturn, 1) := by decide +kernel
theorem dX4_run_0 : decode cX4_run 0 = .ok (.aload_n 0, 1) := by decide +kernel
theorem dX4_run_1 : decode cX4_run 1 = .ok (.iconst 1, 1) := by decide +kernel
theorem dX4_run_2 : decode cX4_run 2 = .ok (.putfield 43, 3) := by decide +kernel
theorem dX4_run_5 : decode cX4_run 5 = .ok (.aload_n 0, 1) := by decide +kernel
theorem dX4_run_6 : decode cX4_run 6 = .ok (.aload_n 0, 1) := by decide +kernel
theorem dX4_run_7 : decode cX4_run 7 = .ok (.getfield 50, 3) := by decide +kernel
theorem dX4_run_10 : decode cX4_run 10 = .ok (.putfield 54, 3) := by decide +kernel
theorem dX4_run_13 : decode cX4_run 13 = .ok (.return_, 1) := by decide +kernel
theorem dX4_sleep_0 : decode cX4_sleep 0 = .ok (.aload_n 0, 1) := by decide +kernel
theorem dX4_sleep_1 : decode cX4_sleep 1 = .ok (.iconst 3, 1) := by decide +kernel
theorem dX4_sleep_2 : decode cX4_sleep 2 = .ok (.putfield 43, 3) := by decide +kernel
theorem dX4_sleep_5 : decode cX4_sleep 5 = .ok (.aload_n 0, 1) := by decide +kernel
theorem dX4_sleep_6 : decode cX4_sleep 6 = .ok (.dup, 1) := by decide +kernel
theorem dX4_sleep_7 : decode cX4_sleep 7 = .ok (.getfield 57, 3) := by decide +kernel
theorem dX4_sleep_10 : decode cX4_sleep 10 = .ok (.lconst 1, 1) := by decide +kernel
theorem dX4_sleep_11 : decode cX4_sleep 11 = .ok (.ladd, 1) := by decide +kernel
theorem dX4_sleep_12 : decode cX4_sleep 12 = .ok (.putfield 57, 3) := by decide +kernel
theorem dX4_sleep_15 : decode cX4_sleep 15 = .ok (.return_, 1) := by decide +kernel
set_option maxRecDepth 20000 in
theorem ggX4_wake_X4_run : GoodIn wsX4_wake wsX4_run := goodIn_r _ [10, 2, 3, 11, 12, 13, 14, 15, 16, 17, 18, 19, 20, 21, 22, 23, 24, 25, 26, 27, 28, 29, 30, 31, 32, 33, 34] (by decide +kernel) (by decide +kernel)
set_option maxRecDepth 20000 in
theorem gX4_wake_X4_run : GoodIn wsX4_wake (wsV RX4 60 RX4 yX4_run wsX4_run) := goodIn_app (goodIn_of _ (by decide +kernel)) ggX4_wake_X4_run
theorem dX4_wake_0 : decode cX4_wake 0 = .ok (.aload_n 0, 1) := by decide +kernel
theorem dX4_wake_1 : decode cX4_wake 1 = .ok (.iconst 0, 1) := by decide +kernel
theorem dX4_wake_2 : decode cX4_wake 2 = .ok (.putfield 39, 3) := by decide +kernel
theorem dX4_wake_5 : decode cX4_wake 5 = .ok (.iload_n 1, 1) := by decide +kernel
theorem dX4_wake_6 : decode cX4_wake 6 = .ok (.iconst 1, 1) := by decide +kernel
theorem dX4_wake_7 : decode cX4_wake 7 = .ok (.if_icmp .lt 9, 3) := by decide +kernel
theorem dX4_wake_10 : decode cX4_wake 10 = .ok (.iload_n 1, 1) := by decide +kernel
theorem dX4_wake_11 : decode cX4_wake 11 = .ok (.bipush 8, 2) := by decide +kernel
theorem dX4_wake_13 : decode cX4_wake 13 = .ok (.if_icmp .le 5, 3) := by decide +kernel
theorem dX4_wake_16 : decode cX4_wake 16 = .ok (.iconst (-1), 1) := by decide +kernel
theorem dX4_wake_17 : decode cX4_wake 17 = .ok (.ireturn, 1) := by decide +kernel
theorem dX4_wake_18 : decode cX4_wake 18 = .ok (.aload_n 0, 1) := by decide +kernel
theorem dX4_wake_19 : decode cX4_wake 19 = .ok (.getfield 43, 3) := by decide +kernel
theorem dX4_wake_22 : decode cX4_wake 22 = .ok (.iconst 3, 1) := by decide +kernel
theorem dX4_wake_23 : decode cX4_wake 23 = .ok (.if_icmp .eq 11, 3) := by decide +kernel
theorem dX4_wake_26 : decode cX4_wake 26 = .ok (.aload_n 0, 1) := by decide +kernel
theorem dX4_wake_27 : decode cX4_wake 27 = .ok (.getfield 43, 3) := by decide +kernel
theorem dX4_wake_30 : decode cX4_wake 30 = .ok (.iconst 4, 1) := by decide +kernel
theorem dX4_wake_31 : decode cX4_wake 31 = .ok (.if_icmp .ne 14, 3) := by decide +kernel
theorem dX4_wake_34 : decode cX4_wake 34 = .ok (.iload_n 2, 1) := by decide +kernel
theorem dX4_wake_35 : decode cX4_wake 35 = .ok (.ifCond .eq 10, 3) := by decide +kernel
theorem dX4_wake_38 : decode cX4_wake 38 = .ok (.aload_n 0, 1) := by decide +kernel
theorem dX4_wake_39 : decode cX4_wake 39 = .ok (.invokevirtual 60, 3) := by decide +kernel
theorem dX4_wake_42 : decode cX4_wake 42 = .ok (.goto 34, 3) := by decide +kernel
theorem dX4_wake_45 : decode cX4_wake 45 = .ok (.aload_n 0, 1) := by decide +kernel
theorem dX4_wake_46 : decode cX4_wake 46 = .ok (.getfield 43, 3) := by decide +kernel
theorem dX4_wake_49 : decode cX4_wake 49 = .ok (.iconst 3, 1) := by decide +kernel
theorem dX4_wake_50 : decode cX4_wake 50 = .ok (.if_icmp .ne 26, 3) := by decide +kernel
theorem dX4_wake_53 : decode cX4_wake 53 = .ok (.aload_n 0, 1) := by decide +kernel
theorem dX4_wake_54 : decode cX4_wake 54 = .ok (.iconst 4, 1) := by decide +kernel
theorem dX4_wake_55 : decode cX4_wake 55 = .ok (.putfield 43, 3) := by decide +kernel
theorem dX4_wake_58 : decode cX4_wake 58 = .ok (.aload_n 0, 1) := by decide +kernel
theorem dX4_wake_59 : decode cX4_wake 59 = .ok (.aload_n 0, 1) := by decide +kernel
theorem dX4_wake_60 : decode cX4_wake 60 = .ok (.getfield 50, 3) := by decide +kernel
theorem dX4_wake_63 : decode cX4_wake 63 = .ok (.putfield 63, 3) := by decide +kernel
theorem dX4_wake_66 : decode cX4_wake 66 = .ok (.aload_n 0, 1) := by decide +kernel
theorem dX4_wake_67 : decode cX4_wake 67 = .ok (.dup, 1) := by decide +kernel
theorem dX4_wake_68 : decode cX4_wake 68 = .ok (.getfield 66, 3) := by decide +kernel
theorem dX4_wake_71 : decode cX4_wake 71 = .ok (.lconst 1, 1) := by decide +kernel
theorem dX4_wake_72 : decode cX4_wake 72 = .ok (.ladd, 1) := by decide +kernel
theorem dX4_wake_73 : decode cX4_wake 73 = .ok (.putfield 66, 3) := by decide +kernel
theorem dX4_wake_76 : decode cX4_wake 76 = .ok (.aload_n 0, 1) := by decide +kernel
theorem dX4_wake_77 : decode cX4_wake 77 = .ok (.getfield 43, 3) := by decide +kernel
theorem dX4_wake_80 : decode cX4_wake 80 = .ok (.ireturn, 1) := by decide +kernel
theorem dX4_keptCopy_0 : decode cX4_keptCopy 0 = .ok (.aload_n 0, 1) := by decide +kernel
theorem dX4_keptCopy_1 : decode cX4_keptCopy 1 = .ok (.getfield 16, 3) := by decide +kernel
theorem dX4_keptCopy_4 : decode cX4_keptCopy 4 = .ok (.iconst 2, 1) := by decide +kernel
theorem dX4_keptCopy_5 : decode cX4_keptCopy 5 = .ok (.iload_n 1, 1) := by decide +kernel
theorem dX4_keptCopy_6 : decode cX4_keptCopy 6 = .ok (.imul, 1) := by decide +kernel
theorem dX4_keptCopy_7 : decode cX4_keptCopy 7 = .ok (.iconst 1, 1) := by decide +kernel
theorem dX4_keptCopy_8 : decode cX4_keptCopy 8 = .ok (.iadd, 1) := by decide +kernel
theorem dX4_keptCopy_9 : decode cX4_keptCopy 9 = .ok (.iaload, 1) := by decide +kernel
theorem dX4_keptCopy_10 : decode cX4_keptCopy 10 = .ok (.aload_n 0, 1) := by decide +kernel
theorem dX4_keptCopy_11 : decode cX4_keptCopy 11 = .ok (.getfield 16, 3) := by decide +kernel
theorem dX4_keptCopy_14 : decode cX4_keptCopy 14 = .ok (.iconst 2, 1) := by decide +kernel
theorem dX4_keptCopy_15 : decode cX4_keptCopy 15 = .ok (.iload_n 1, 1) := by decide +kernel
theorem dX4_keptCopy_16 : decode cX4_keptCopy 16 = .ok (.imul, 1) := by decide +kernel
theorem dX4_keptCopy_17 : decode cX4_keptCopy 17 = .ok (.iaload, 1) := by decide +kernel
theorem dX4_keptCopy_18 : decode cX4_keptCopy 18 = .ok (.if_icmp .le 7, 3) := by decide +kernel
theorem dX4_keptCopy_21 : decode cX4_keptCopy 21 = .ok (.iconst 1, 1) := by decide +kernel
theorem dX4_keptCopy_22 : decode cX4_keptCopy 22 = .ok (.goto 4, 3) := by decide +kernel
theorem dX4_keptCopy_25 : decode cX4_keptCopy 25 = .ok (.iconst 0, 1) := by decide +kernel
theorem dX4_keptCopy_26 : decode cX4_keptCopy 26 = .ok (.ireturn, 1) := by decide +kernel
theorem dX4_firstChanged_0 : decode cX4_firstChanged 0 = .ok (.iconst 0, 1) := by decide +kernel
theorem dX4_firstChanged_1 : decode cX4_firstChanged 1 = .ok (.istore_n 1, 1) := by decide +kernel
theorem dX4_firstChanged_2 : decode cX4_firstChanged 2 = .ok (.iload_n 1, 1) := by decide +kernel
theorem dX4_firstChanged_3 : decode cX4_firstChanged 3 = .ok (.bipush 8, 2) := by decide +kernel
theorem dX4_firstChanged_5 : decode cX4_firstChanged 5 = .ok (.if_icmp .ge 18, 3) := by decide +kernel
theorem dX4_firstChanged_8 : decode cX4_firstChanged 8 = .ok (.aload_n 0, 1) := by decide +kernel
theorem dX4_firstChanged_9 : decode cX4_firstChanged 9 = .ok (.getfield 20, 3) := by decide +kernel
theorem dX4_firstChanged_12 : decode cX4_firstChanged 12 = .ok (.iload_n 1, 1) := by decide +kernel
theorem dX4_firstChanged_13 : decode cX4_firstChanged 13 = .ok (.baload, 1) := by decide +kernel
theorem dX4_firstChanged_14 : decode cX4_firstChanged 14 = .ok (.ifCond .ne 9, 3) := by decide +kernel
theorem dX4_firstChanged_17 : decode cX4_firstChanged 17 = .ok (.iinc 1 1, 3) := by decide +kernel
theorem dX4_firstChanged_20 : decode cX4_firstChanged 20 = .ok (.goto (-18), 3) := by decide +kernel
theorem dX4_firstChanged_23 : decode cX4_firstChanged 23 = .ok (.iload_n 1, 1) := by decide +kernel
theorem dX4_firstChanged_24 : decode cX4_firstChanged 24 = .ok (.ireturn, 1) := by decide +kernel
set_option maxRecDepth 20000 in
theorem ggX4_save_X4_firstChanged : GoodIn wsX4_save wsX4_firstChanged := goodIn_ca (goodIn_r _ [10, 11, 16, 17, 18, 19, 20, 21, 22, 23, 24, 25, 26, 27, 28, 29, 30, 31, 32, 33, 34, 35, 36, 37, 38] (by decide +kernel) (by decide +kernel)) (goodIn_sub (fun _ h => List.mem_cons_of_mem _ (List.mem_append_right _ h)) (by decide +kernel))
set_option maxRecDepth 20000 in
theorem gX4_save_X4_firstChanged : GoodIn wsX4_save (wsV RX4 69 RX4 yX4_firstChanged wsX4_firstChanged) := goodIn_app (goodIn_of _ (by decide +kernel)) ggX4_save_X4_firstChanged
set_option maxRecDepth 20000 in
theorem ggX4_save_X4_keptCopy : GoodIn wsX4_save wsX4_keptCopy := goodIn_ca (goodIn_r _ [15, 5, 16, 17, 18, 19, 20, 21, 22, 23, 24, 25, 26, 27, 28, 29, 30, 31, 32, 33, 34, 35, 36, 37, 38] (by decide +kernel) (by decide +kernel)) (goodIn_sub (fun _ h => List.mem_cons_of_mem _ (List.mem_append_right _ h)) (by decide +kernel))
set_option maxRecDepth 20000 in
theorem gX4_save_X4_keptCopy : GoodIn wsX4_save (wsV RX4 75 RX4 yX4_keptCopy wsX4_keptCopy) := goodIn_app (goodIn_of _ (by decide +kernel)) ggX4_save_X4_keptCopy
theorem dX4_save_0 : decode cX4_save 0 = .ok (.aload_n 0, 1) := by decide +kernel
theorem dX4_save_1 : decode cX4_save 1 = .ok (.iconst 2, 1) := by decide +kernel
theorem dX4_save_2 : decode cX4_save 2 = .ok (.putfield 43, 3) := by decide +kernel
theorem dX4_save_5 : decode cX4_save 5 = .ok (.aload_n 0, 1) := by decide +kernel
theorem dX4_save_6 : decode cX4_save 6 = .ok (.aload_n 0, 1) := by decide +kernel
theorem dX4_save_7 : decode cX4_save 7 = .ok (.getfield 50, 3) := by decide +kernel
theorem dX4_save_10 : decode cX4_save 10 = .ok (.putfield 63, 3) := by decide +kernel
theorem dX4_save_13 : decode cX4_save 13 = .ok (.aload_n 0, 1) := by decide +kernel
theorem dX4_save_14 : decode cX4_save 14 = .ok (.aload_n 0, 1) := by decide +kernel
theorem dX4_save_15 : decode cX4_save 15 = .ok (.invokevirtual 69, 3) := by decide +kernel
theorem dX4_save_18 : decode cX4_save 18 = .ok (.putfield 72, 3) := by decide +kernel
theorem dX4_save_21 : decode cX4_save 21 = .ok (.aload_n 0, 1) := by decide +kernel
theorem dX4_save_22 : decode cX4_save 22 = .ok (.getfield 16, 3) := by decide +kernel
theorem dX4_save_25 : decode cX4_save 25 = .ok (.iconst 2, 1) := by decide +kernel
theorem dX4_save_26 : decode cX4_save 26 = .ok (.aload_n 0, 1) := by decide +kernel
theorem dX4_save_27 : decode cX4_save 27 = .ok (.getfield 72, 3) := by decide +kernel
theorem dX4_save_30 : decode cX4_save 30 = .ok (.imul, 1) := by decide +kernel
theorem dX4_save_31 : decode cX4_save 31 = .ok (.iconst 1, 1) := by decide +kernel
theorem dX4_save_32 : decode cX4_save 32 = .ok (.iadd, 1) := by decide +kernel
theorem dX4_save_33 : decode cX4_save 33 = .ok (.aload_n 0, 1) := by decide +kernel
theorem dX4_save_34 : decode cX4_save 34 = .ok (.aload_n 0, 1) := by decide +kernel
theorem dX4_save_35 : decode cX4_save 35 = .ok (.getfield 72, 3) := by decide +kernel
theorem dX4_save_38 : decode cX4_save 38 = .ok (.invokevirtual 75, 3) := by decide +kernel
theorem dX4_save_41 : decode cX4_save 41 = .ok (.isub, 1) := by decide +kernel
theorem dX4_save_42 : decode cX4_save 42 = .ok (.iconst 0, 1) := by decide +kernel
theorem dX4_save_43 : decode cX4_save 43 = .ok (.iastore, 1) := by decide +kernel
theorem dX4_save_44 : decode cX4_save 44 = .ok (.return_, 1) := by decide +kernel
set_option maxRecDepth 20000 in
theorem ggX4_isSaved_X4_keptCopy : GoodIn wsX4_isSaved wsX4_keptCopy := goodIn_ca (goodIn_r _ [10, 4, 38, 39, 40, 41, 42, 43, 44, 45, 46, 47, 48, 49, 50, 51, 52, 53, 54, 55, 56, 57, 58, 59, 60] (by decide +kernel) (by decide +kernel)) (goodIn_sub (fun _ h => List.mem_cons_of_mem _ (List.mem_append_right _ h)) (by decide +kernel))
set_option maxRecDepth 20000 in
theorem gX4_isSaved_X4_keptCopy : GoodIn wsX4_isSaved (wsV RX4 75 RX4 yX4_keptCopy wsX4_keptCopy) := goodIn_app (goodIn_of _ (by decide +kernel)) ggX4_isSaved_X4_keptCopy
set_option maxRecDepth 20000 in
theorem ggX4_isSaved_X4_user : GoodIn wsX4_isSaved wsX4_user := goodIn_ca (goodIn_r _ [14, 15, 16, 38, 39, 40, 41, 42, 43, 44, 45, 46, 47, 48, 49, 50, 51, 52, 53, 54, 55, 56, 57, 58, 59, 60] (by decide +kernel) (by decide +kernel)) (goodIn_sub (fun _ h => List.mem_cons_of_mem _ (List.mem_append_right _ h)) (by decide +kernel))
set_option maxRecDepth 20000 in
theorem gX4_isSaved_X4_user : GoodIn wsX4_isSaved (wsV RX4 46 RX4 yX4_user wsX4_user) := goodIn_app (goodIn_of _ (by decide +kernel)) ggX4_isSaved_X4_user
set_option maxRecDepth 20000 in
theorem ggX4_isSaved_X4_run : GoodIn wsX4_isSaved wsX4_run := goodIn_r _ [20, 21, 22, 23, 38, 39, 40, 41, 42, 43, 44, 45, 46, 47, 48, 49, 50, 51, 52, 53, 54, 55, 56, 57, 58, 59, 60] (by decide +kernel) (by decide +kernel)
set_option maxRecDepth 20000 in
theorem gX4_isSaved_X4_run : GoodIn wsX4_isSaved (wsV RX4 60 RX4 yX4_run wsX4_run) := goodIn_app (goodIn_of _ (by decide +kernel)) ggX4_isSaved_X4_run
set_option maxRecDepth 20000 in
theorem ggX4_isSaved_X4_firstChanged : GoodIn wsX4_isSaved wsX4_firstChanged := goodIn_ca (goodIn_r _ [27, 5, 38, 39, 40, 41, 42, 43, 44, 45, 46, 47, 48, 49, 50, 51, 52, 53, 54, 55, 56, 57, 58, 59, 60] (by decide +kernel) (by decide +kernel)) (goodIn_sub (fun _ h => List.mem_cons_of_mem _ (List.mem_append_right _ h)) (by decide +kernel))
set_option maxRecDepth 20000 in
theorem gX4_isSaved_X4_firstChanged : GoodIn wsX4_isSaved (wsV RX4 69 RX4 yX4_firstChanged wsX4_firstChanged) := goodIn_app (goodIn_of _ (by decide +kernel)) ggX4_isSaved_X4_firstChanged
set_option maxRecDepth 20000 in
theorem ggX4_isSaved_X4_sleep : GoodIn wsX4_isSaved wsX4_sleep := goodIn_r _ [31, 21, 32, 38, 39, 40, 41, 42, 43, 44, 45, 46, 47, 48, 49, 50, 51, 52, 53, 54, 55, 56, 57, 58, 59, 60] (by decide +kernel) (by decide +kernel)
set_option maxRecDepth 20000 in
theorem gX4_isSaved_X4_sleep : GoodIn wsX4_isSaved (wsV RX4 79 RX4 yX4_sleep wsX4_sleep) := goodIn_app (goodIn_of _ (by decide +kernel)) ggX4_isSaved_X4_sleep
set_option maxRecDepth 20000 in
theorem ggX4_isSaved_X4_save : GoodIn wsX4_isSaved wsX4_save := goodIn_ca (goodIn_r _ [36, 21, 22, 37, 1, 4, 24, 25, 26, 9, 27, 5, 6, 7, 8, 10, 38, 39, 40, 41, 42, 43, 44, 45, 46, 47, 48, 49, 50, 51, 52, 53, 54, 55, 56, 57, 58, 59, 60] (by decide +kernel) (by decide +kernel)) (goodIn_sub (fun _ h => List.mem_cons_of_mem _ (List.mem_append_right _ h)) (by decide +kernel))
set_option maxRecDepth 20000 in
theorem gX4_isSaved_X4_save : GoodIn wsX4_isSaved (wsV RX4 82 RX4 yX4_save wsX4_save) := goodIn_app (goodIn_of _ (by decide +kernel)) ggX4_isSaved_X4_save
theorem dX4_isSaved_0 : decode cX4_isSaved 0 = .ok (.aload_n 0, 1) := by decide +kernel
theorem dX4_isSaved_1 : decode cX4_isSaved 1 = .ok (.aload_n 0, 1) := by decide +kernel
theorem dX4_isSaved_2 : decode cX4_isSaved 2 = .ok (.getfield 72, 3) := by decide +kernel
theorem dX4_isSaved_5 : decode cX4_isSaved 5 = .ok (.invokevirtual 75, 3) := by decide +kernel
theorem dX4_isSaved_8 : decode cX4_isSaved 8 = .ok (.istore_n 1, 1) := by decide +kernel
theorem dX4_isSaved_9 : decode cX4_isSaved 9 = .ok (.iconst 1, 1) := by decide +kernel
theorem dX4_isSaved_10 : decode cX4_isSaved 10 = .ok (.iload_n 1, 1) := by decide +kernel
theorem dX4_isSaved_11 : decode cX4_isSaved 11 = .ok (.isub, 1) := by decide +kernel
theorem dX4_isSaved_12 : decode cX4_isSaved 12 = .ok (.istore_n 2, 1) := by decide +kernel
theorem dX4_isSaved_13 : decode cX4_isSaved 13 = .ok (.iconst 0, 1) := by decide +kernel
theorem dX4_isSaved_14 : decode cX4_isSaved 14 = .ok (.istore_n 3, 1) := by decide +kernel
theorem dX4_isSaved_15 : decode cX4_isSaved 15 = .ok (.iload_n 3, 1) := by decide +kernel
theorem dX4_isSaved_16 : decode cX4_isSaved 16 = .ok (.bipush 16, 2) := by decide +kernel
theorem dX4_isSaved_18 : decode cX4_isSaved 18 = .ok (.if_icmp .ge 41, 3) := by decide +kernel
theorem dX4_isSaved_21 : decode cX4_isSaved 21 = .ok (.aload_n 0, 1) := by decide +kernel
theorem dX4_isSaved_22 : decode cX4_isSaved 22 = .ok (.getfield 13, 3) := by decide +kernel
theorem dX4_isSaved_25 : decode cX4_isSaved 25 = .ok (.bipush 16, 2) := by decide +kernel
theorem dX4_isSaved_27 : decode cX4_isSaved 27 = .ok (.iconst 2, 1) := by decide +kernel
theorem dX4_isSaved_28 : decode cX4_isSaved 28 = .ok (.aload_n 0, 1) := by decide +kernel
theorem dX4_isSaved_29 : decode cX4_isSaved 29 = .ok (.getfield 72, 3) := by decide +kernel
theorem dX4_isSaved_32 : decode cX4_isSaved 32 = .ok (.imul, 1) := by decide +kernel
theorem dX4_isSaved_33 : decode cX4_isSaved 33 = .ok (.iload_n 2, 1) := by decide +kernel
theorem dX4_isSaved_34 : decode cX4_isSaved 34 = .ok (.iadd, 1) := by decide +kernel
theorem dX4_isSaved_35 : decode cX4_isSaved 35 = .ok (.imul, 1) := by decide +kernel
theorem dX4_isSaved_36 : decode cX4_isSaved 36 = .ok (.iload_n 3, 1) := by decide +kernel
theorem dX4_isSaved_37 : decode cX4_isSaved 37 = .ok (.iadd, 1) := by decide +kernel
theorem dX4_isSaved_38 : decode cX4_isSaved 38 = .ok (.aload_n 0, 1) := by decide +kernel
theorem dX4_isSaved_39 : decode cX4_isSaved 39 = .ok (.getfield 7, 3) := by decide +kernel
theorem dX4_isSaved_42 : decode cX4_isSaved 42 = .ok (.bipush 16, 2) := by decide +kernel
theorem dX4_isSaved_44 : decode cX4_isSaved 44 = .ok (.aload_n 0, 1) := by decide +kernel
theorem dX4_isSaved_45 : decode cX4_isSaved 45 = .ok (.getfield 72, 3) := by decide +kernel
theorem dX4_isSaved_48 : decode cX4_isSaved 48 = .ok (.imul, 1) := by decide +kernel
theorem dX4_isSaved_49 : decode cX4_isSaved 49 = .ok (.iload_n 3, 1) := by decide +kernel
theorem dX4_isSaved_50 : decode cX4_isSaved 50 = .ok (.iadd, 1) := by decide +kernel
theorem dX4_isSaved_51 : decode cX4_isSaved 51 = .ok (.baload, 1) := by decide +kernel
theorem dX4_isSaved_52 : decode cX4_isSaved 52 = .ok (.bastore, 1) := by decide +kernel
theorem dX4_isSaved_53 : decode cX4_isSaved 53 = .ok (.iinc 3 1, 3) := by decide +kernel
theorem dX4_isSaved_56 : decode cX4_isSaved 56 = .ok (.goto (-41), 3) := by decide +kernel
theorem dX4_isSaved_59 : decode cX4_isSaved 59 = .ok (.aload_n 0, 1) := by decide +kernel
theorem dX4_isSaved_60 : decode cX4_isSaved 60 = .ok (.getfield 16, 3) := by decide +kernel
theorem dX4_isSaved_63 : decode cX4_isSaved 63 = .ok (.iconst 2, 1) := by decide +kernel
theorem dX4_isSaved_64 : decode cX4_isSaved 64 = .ok (.aload_n 0, 1) := by decide +kernel
theorem dX4_isSaved_65 : decode cX4_isSaved 65 = .ok (.getfield 72, 3) := by decide +kernel
theorem dX4_isSaved_68 : decode cX4_isSaved 68 = .ok (.imul, 1) := by decide +kernel
theorem dX4_isSaved_69 : decode cX4_isSaved 69 = .ok (.iload_n 2, 1) := by decide +kernel
theorem dX4_isSaved_70 : decode cX4_isSaved 70 = .ok (.iadd, 1) := by decide +kernel
theorem dX4_isSaved_71 : decode cX4_isSaved 71 = .ok (.aload_n 0, 1) := by decide +kernel
theorem dX4_isSaved_72 : decode cX4_isSaved 72 = .ok (.getfield 16, 3) := by decide +kernel
theorem dX4_isSaved_75 : decode cX4_isSaved 75 = .ok (.iconst 2, 1) := by decide +kernel
theorem dX4_isSaved_76 : decode cX4_isSaved 76 = .ok (.aload_n 0, 1) := by decide +kernel
theorem dX4_isSaved_77 : decode cX4_isSaved 77 = .ok (.getfield 72, 3) := by decide +kernel
theorem dX4_isSaved_80 : decode cX4_isSaved 80 = .ok (.imul, 1) := by decide +kernel
theorem dX4_isSaved_81 : decode cX4_isSaved 81 = .ok (.iload_n 1, 1) := by decide +kernel
theorem dX4_isSaved_82 : decode cX4_isSaved 82 = .ok (.iadd, 1) := by decide +kernel
theorem dX4_isSaved_83 : decode cX4_isSaved 83 = .ok (.iaload, 1) := by decide +kernel
theorem dX4_isSaved_84 : decode cX4_isSaved 84 = .ok (.iconst 1, 1) := by decide +kernel
theorem dX4_isSaved_85 : decode cX4_isSaved 85 = .ok (.iadd, 1) := by decide +kernel
theorem dX4_isSaved_86 : decode cX4_isSaved 86 = .ok (.iastore, 1) := by decide +kernel
theorem dX4_isSaved_87 : decode cX4_isSaved 87 = .ok (.aload_n 0, 1) := by decide +kernel
theorem dX4_isSaved_88 : decode cX4_isSaved 88 = .ok (.getfield 20, 3) := by decide +kernel
theorem dX4_isSaved_91 : decode cX4_isSaved 91 = .ok (.aload_n 0, 1) := by decide +kernel
theorem dX4_isSaved_92 : decode cX4_isSaved 92 = .ok (.getfield 72, 3) := by decide +kernel
theorem dX4_isSaved_95 : decode cX4_isSaved 95 = .ok (.iconst 0, 1) := by decide +kernel
theorem dX4_isSaved_96 : decode cX4_isSaved 96 = .ok (.bastore, 1) := by decide +kernel
theorem dX4_isSaved_97 : decode cX4_isSaved 97 = .ok (.aload_n 0, 1) := by decide +kernel
theorem dX4_isSaved_98 : decode cX4_isSaved 98 = .ok (.invokevirtual 46, 3) := by decide +kernel
theorem dX4_isSaved_101 : decode cX4_isSaved 101 = .ok (.ifCond .le 10, 3) := by decide +kernel
theorem dX4_isSaved_104 : decode cX4_isSaved 104 = .ok (.aload_n 0, 1) := by decide +kernel
theorem dX4_isSaved_105 : decode cX4_isSaved 105 = .ok (.invokevirtual 60, 3) := by decide +kernel
theorem dX4_isSaved_108 : decode cX4_isSaved 108 = .ok (.goto 23, 3) := by decide +kernel
theorem dX4_isSaved_111 : decode cX4_isSaved 111 = .ok (.aload_n 0, 1) := by decide +kernel
theorem dX4_isSaved_112 : decode cX4_isSaved 112 = .ok (.invokevirtual 69, 3) := by decide +kernel
theorem dX4_isSaved_115 : decode cX4_isSaved 115 = .ok (.bipush 8, 2) := by decide +kernel
theorem dX4_isSaved_117 : decode cX4_isSaved 117 = .ok (.if_icmp .ne 10, 3) := by decide +kernel
theorem dX4_isSaved_120 : decode cX4_isSaved 120 = .ok (.aload_n 0, 1) := by decide +kernel
theorem dX4_isSaved_121 : decode cX4_isSaved 121 = .ok (.invokevirtual 79, 3) := by decide +kernel
theorem dX4_isSaved_124 : decode cX4_isSaved 124 = .ok (.goto 7, 3) := by decide +kernel
theorem dX4_isSaved_127 : decode cX4_isSaved 127 = .ok (.aload_n 0, 1) := by decide +kernel
theorem dX4_isSaved_128 : decode cX4_isSaved 128 = .ok (.invokevirtual 82, 3) := by decide +kernel
theorem dX4_isSaved_131 : decode cX4_isSaved 131 = .ok (.return_, 1) := by decide +kernel
set_option maxRecDepth 20000 in
theorem ggX4_due_X4_user : GoodIn wsX4_due wsX4_user := goodIn_ca (goodIn_r _ [12, 13, 14, 15, 16, 17, 18, 19, 20, 21, 22, 23, 24, 25, 26, 27, 28, 29, 30, 31, 32, 33, 34, 35, 36, 37] (by decide +kernel) (by decide +kernel)) (goodIn_sub (fun _ h => List.mem_cons_of_mem _ (List.mem_append_right _ h)) (by decide +kernel))
set_option maxRecDepth 20000 in
theorem gX4_due_X4_user : GoodIn wsX4_due (wsV RX4 46 RX4 yX4_user wsX4_user) := goodIn_app (goodIn_of _ (by decide +kernel)) ggX4_due_X4_user
theorem dX4_due_0 : decode cX4_due 0 = .ok (.aload_n 0, 1) := by decide +kernel
theorem dX4_due_1 : decode cX4_due 1 = .ok (.getfield 43, 3) := by decide +kernel
theorem dX4_due_4 : decode cX4_due 4 = .ok (.iconst 1, 1) := by decide +kernel
theorem dX4_due_5 : decode cX4_due 5 = .ok (.if_icmp .ne 25, 3) := by decide +kernel
theorem dX4_due_8 : decode cX4_due 8 = .ok (.aload_n 0, 1) := by decide +kernel
theorem dX4_due_9 : decode cX4_due 9 = .ok (.invokevirtual 46, 3) := by decide +kernel
theorem dX4_due_12 : decode cX4_due 12 = .ok (.ifCond .ne 14, 3) := by decide +kernel
theorem dX4_due_15 : decode cX4_due 15 = .ok (.aload_n 0, 1) := by decide +kernel
theorem dX4_due_16 : decode cX4_due 16 = .ok (.getfield 54, 3) := by decide +kernel
theorem dX4_due_19 : decode cX4_due 19 = .ok (.ldc2_w 85, 3) := by decide +kernel
theorem dX4_due_22 : decode cX4_due 22 = .ok (.ladd, 1) := by decide +kernel
theorem dX4_due_23 : decode cX4_due 23 = .ok (.goto 6, 3) := by decide +kernel
theorem dX4_due_26 : decode cX4_due 26 = .ok (.ldc2_w 87, 3) := by decide +kernel
theorem dX4_due_29 : decode cX4_due 29 = .ok (.lreturn, 1) := by decide +kernel
theorem dX4_due_30 : decode cX4_due 30 = .ok (.aload_n 0, 1) := by decide +kernel
theorem dX4_due_31 : decode cX4_due 31 = .ok (.getfield 43, 3) := by decide +kernel
theorem dX4_due_34 : decode cX4_due 34 = .ok (.iconst 2, 1) := by decide +kernel
theorem dX4_due_35 : decode cX4_due 35 = .ok (.if_icmp .ne 14, 3) := by decide +kernel
theorem dX4_due_38 : decode cX4_due 38 = .ok (.aload_n 0, 1) := by decide +kernel
theorem dX4_due_39 : decode cX4_due 39 = .ok (.getfield 63, 3) := by decide +kernel
theorem dX4_due_42 : decode cX4_due 42 = .ok (.ldc2_w 89, 3) := by decide +kernel
theorem dX4_due_45 : decode cX4_due 45 = .ok (.ladd, 1) := by decide +kernel
theorem dX4_due_46 : decode cX4_due 46 = .ok (.goto 25, 3) := by decide +kernel
theorem dX4_due_49 : decode cX4_due 49 = .ok (.aload_n 0, 1) := by decide +kernel
theorem dX4_due_50 : decode cX4_due 50 = .ok (.getfield 43, 3) := by decide +kernel
theorem dX4_due_53 : decode cX4_due 53 = .ok (.iconst 4, 1) := by decide +kernel
theorem dX4_due_54 : decode cX4_due 54 = .ok (.if_icmp .ne 14, 3) := by decide +kernel
theorem dX4_due_57 : decode cX4_due 57 = .ok (.aload_n 0, 1) := by decide +kernel
theorem dX4_due_58 : decode cX4_due 58 = .ok (.getfield 63, 3) := by decide +kernel
theorem dX4_due_61 : decode cX4_due 61 = .ok (.ldc2_w 91, 3) := by decide +kernel
theorem dX4_due_64 : decode cX4_due 64 = .ok (.ladd, 1) := by decide +kernel
theorem dX4_due_65 : decode cX4_due 65 = .ok (.goto 6, 3) := by decide +kernel
theorem dX4_due_68 : decode cX4_due 68 = .ok (.ldc2_w 87, 3) := by decide +kernel
theorem dX4_due_71 : decode cX4_due 71 = .ok (.lreturn, 1) := by decide +kernel
set_option maxRecDepth 20000 in
theorem ggX4_goOn_X4_due : GoodIn wsX4_goOn wsX4_due := goodIn_ca (goodIn_r _ [7, 2, 8, 9, 10, 11, 12, 13, 14, 15, 16, 6, 17, 18, 19, 50, 51, 52, 53, 54, 55, 56, 57, 58, 59, 60, 61, 62, 63, 64, 65, 66, 67, 68, 69, 70, 71, 72] (by decide +kernel) (by decide +kernel)) (goodIn_sub (fun _ h => List.mem_cons_of_mem _ (List.mem_append_right _ h)) (by decide +kernel))
set_option maxRecDepth 20000 in
theorem gX4_goOn_X4_due : GoodIn wsX4_goOn (wsV RX4 93 RX4 yX4_due wsX4_due) := goodIn_app (goodIn_of _ (by decide +kernel)) ggX4_goOn_X4_due
set_option maxRecDepth 20000 in
theorem ggX4_goOn_X4_firstChanged : GoodIn wsX4_goOn wsX4_firstChanged := goodIn_ca (goodIn_r _ [23, 24, 50, 51, 52, 53, 54, 55, 56, 57, 58, 59, 60, 61, 62, 63, 64, 65, 66, 67, 68, 69, 70, 71, 72] (by decide +kernel) (by decide +kernel)) (goodIn_sub (fun _ h => List.mem_cons_of_mem _ (List.mem_append_right _ h)) (by decide +kernel))
set_option maxRecDepth 20000 in
theorem gX4_goOn_X4_firstChanged : GoodIn wsX4_goOn (wsV RX4 69 RX4 yX4_firstChanged wsX4_firstChanged) := goodIn_app (goodIn_of _ (by decide +kernel)) ggX4_goOn_X4_firstChanged
set_option maxRecDepth 20000 in
theorem ggX4_goOn_X4_save : GoodIn wsX4_goOn wsX4_save := goodIn_ca (goodIn_r _ [28, 2, 1, 11, 29, 30, 20, 21, 22, 6, 23, 24, 31, 32, 33, 34, 50, 51, 52, 53, 54, 55, 56, 57, 58, 59, 60, 61, 62, 63, 64, 65, 66, 67, 68, 69, 70, 71, 72] (by decide +kernel) (by decide +kernel)) (goodIn_sub (fun _ h => List.mem_cons_of_mem _ (List.mem_append_right _ h)) (by decide +kernel))
set_option maxRecDepth 20000 in
theorem gX4_goOn_X4_save : GoodIn wsX4_goOn (wsV RX4 82 RX4 yX4_save wsX4_save) := goodIn_app (goodIn_of _ (by decide +kernel)) ggX4_goOn_X4_save
set_option maxRecDepth 20000 in
theorem ggX4_goOn_X4_isSaved : GoodIn wsX4_goOn wsX4_isSaved := goodIn_ca (goodIn_r _ [38, 29, 39, 40, 30, 24, 31, 32, 33, 6, 34, 14, 15, 16, 17, 18, 19, 41, 42, 43, 44, 2, 1, 8, 20, 21, 22, 23, 45, 46, 47, 48, 49, 25, 26, 27, 28, 11, 50, 51, 52, 53, 54, 55, 56, 57, 58, 59, 60, 61, 62, 63, 64, 65, 66, 67, 68, 69, 70, 71, 72] (by decide +kernel) (by decide +kernel)) (goodIn_sub (fun _ h => List.mem_cons_of_mem _ (List.mem_append_right _ h)) (by decide +kernel))
set_option maxRecDepth 20000 in
theorem gX4_goOn_X4_isSaved : GoodIn wsX4_goOn (wsV RX4 97 RX4 yX4_isSaved wsX4_isSaved) := goodIn_app (goodIn_of _ (by decide +kernel)) ggX4_goOn_X4_isSaved
set_option maxRecDepth 20000 in
theorem ggX4_goOn_X4_sleep : GoodIn wsX4_goOn wsX4_sleep := goodIn_r _ [48, 2, 49, 50, 51, 52, 53, 54, 55, 56, 57, 58, 59, 60, 61, 62, 63, 64, 65, 66, 67, 68, 69, 70, 71, 72] (by decide +kernel) (by decide +kernel)
set_option maxRecDepth 20000 in
theorem gX4_goOn_X4_sleep : GoodIn wsX4_goOn (wsV RX4 79 RX4 yX4_sleep wsX4_sleep) := goodIn_app (goodIn_of _ (by decide +kernel)) ggX4_goOn_X4_sleep
theorem dX4_goOn_0 : decode cX4_goOn 0 = .ok (.aload_n 0, 1) := by decide +kernel
theorem dX4_goOn_1 : decode cX4_goOn 1 = .ok (.invokevirtual 93, 3) := by decide +kernel
theorem dX4_goOn_4 : decode cX4_goOn 4 = .ok (.lstore_n 3, 1) := by decide +kernel
theorem dX4_goOn_5 : decode cX4_goOn 5 = .ok (.lload_n 3, 1) := by decide +kernel
theorem dX4_goOn_6 : decode cX4_goOn 6 = .ok (.lconst 0, 1) := by decide +kernel
theorem dX4_goOn_7 : decode cX4_goOn 7 = .ok (.lcmp, 1) := by decide +kernel
theorem dX4_goOn_8 : decode cX4_goOn 8 = .ok (.ifCond .lt 65, 3) := by decide +kernel
theorem dX4_goOn_11 : decode cX4_goOn 11 = .ok (.lload_n 3, 1) := by decide +kernel
theorem dX4_goOn_12 : decode cX4_goOn 12 = .ok (.lload_n 1, 1) := by decide +kernel
theorem dX4_goOn_13 : decode cX4_goOn 13 = .ok (.lcmp, 1) := by decide +kernel
theorem dX4_goOn_14 : decode cX4_goOn 14 = .ok (.ifCond .gt 59, 3) := by decide +kernel
theorem dX4_goOn_17 : decode cX4_goOn 17 = .ok (.aload_n 0, 1) := by decide +kernel
theorem dX4_goOn_18 : decode cX4_goOn 18 = .ok (.lload_n 3, 1) := by decide +kernel
theorem dX4_goOn_19 : decode cX4_goOn 19 = .ok (.putfield 50, 3) := by decide +kernel
theorem dX4_goOn_22 : decode cX4_goOn 22 = .ok (.aload_n 0, 1) := by decide +kernel
theorem dX4_goOn_23 : decode cX4_goOn 23 = .ok (.getfield 43, 3) := by decide +kernel
theorem dX4_goOn_26 : decode cX4_goOn 26 = .ok (.iconst 1, 1) := by decide +kernel
theorem dX4_goOn_27 : decode cX4_goOn 27 = .ok (.if_icmp .ne 19, 3) := by decide +kernel
theorem dX4_goOn_30 : decode cX4_goOn 30 = .ok (.aload_n 0, 1) := by decide +kernel
theorem dX4_goOn_31 : decode cX4_goOn 31 = .ok (.invokevirtual 69, 3) := by decide +kernel
theorem dX4_goOn_34 : decode cX4_goOn 34 = .ok (.bipush 8, 2) := by decide +kernel
theorem dX4_goOn_36 : decode cX4_goOn 36 = .ok (.if_icmp .ge 10, 3) := by decide +kernel
theorem dX4_goOn_39 : decode cX4_goOn 39 = .ok (.aload_n 0, 1) := by decide +kernel
theorem dX4_goOn_40 : decode cX4_goOn 40 = .ok (.invokevirtual 82, 3) := by decide +kernel
theorem dX4_goOn_43 : decode cX4_goOn 43 = .ok (.goto 22, 3) := by decide +kernel
theorem dX4_goOn_46 : decode cX4_goOn 46 = .ok (.aload_n 0, 1) := by decide +kernel
theorem dX4_goOn_47 : decode cX4_goOn 47 = .ok (.getfield 43, 3) := by decide +kernel
theorem dX4_goOn_50 : decode cX4_goOn 50 = .ok (.iconst 2, 1) := by decide +kernel
theorem dX4_goOn_51 : decode cX4_goOn 51 = .ok (.if_icmp .ne 10, 3) := by decide +kernel
theorem dX4_goOn_54 : decode cX4_goOn 54 = .ok (.aload_n 0, 1) := by decide +kernel
theorem dX4_goOn_55 : decode cX4_goOn 55 = .ok (.invokevirtual 97, 3) := by decide +kernel
theorem dX4_goOn_58 : decode cX4_goOn 58 = .ok (.goto 7, 3) := by decide +kernel
theorem dX4_goOn_61 : decode cX4_goOn 61 = .ok (.aload_n 0, 1) := by decide +kernel
theorem dX4_goOn_62 : decode cX4_goOn 62 = .ok (.invokevirtual 79, 3) := by decide +kernel
theorem dX4_goOn_65 : decode cX4_goOn 65 = .ok (.aload_n 0, 1) := by decide +kernel
theorem dX4_goOn_66 : decode cX4_goOn 66 = .ok (.invokevirtual 93, 3) := by decide +kernel
theorem dX4_goOn_69 : decode cX4_goOn 69 = .ok (.lstore_n 3, 1) := by decide +kernel
theorem dX4_goOn_70 : decode cX4_goOn 70 = .ok (.goto (-65), 3) := by decide +kernel
theorem dX4_goOn_73 : decode cX4_goOn 73 = .ok (.aload_n 0, 1) := by decide +kernel
theorem dX4_goOn_74 : decode cX4_goOn 74 = .ok (.lload_n 1, 1) := by decide +kernel
theorem dX4_goOn_75 : decode cX4_goOn 75 = .ok (.putfield 50, 3) := by decide +kernel
theorem dX4_goOn_78 : decode cX4_goOn 78 = .ok (.return_, 1) := by decide +kernel
set_option maxRecDepth 20000 in
theorem ggX4_step_X4_goOn : GoodIn wsX4_step wsX4_goOn := goodIn_ca (goodIn_r _ [9, 2, 4, 10, 11, 12, 8, 13, 14, 15, 16, 17, 18, 19, 20, 21, 22, 23, 1, 24, 25, 26, 27, 28, 29, 30, 31, 32, 33, 34, 35, 36, 37, 38, 39, 40, 41, 42, 43, 44, 45, 46, 47, 48, 49, 50, 51, 52, 53, 54, 55, 56, 57, 58, 59, 60, 61, 62, 63, 64, 65, 66, 67, 68, 69, 70, 71, 72, 73, 74, 75, 76, 77] (by decide +kernel) (by decide +kernel)) (goodIn_sub (fun _ h => List.mem_cons_of_mem _ (List.mem_append_right _ h)) (by decide +kernel))
set_option maxRecDepth 20000 in
theorem gX4_step_X4_goOn : GoodIn wsX4_step (wsV RX4 102 RX4 yX4_goOn wsX4_goOn) := goodIn_app (goodIn_of _ (by decide +kernel)) ggX4_step_X4_goOn
theorem dX4_step_0 : decode cX4_step 0 = .ok (.aload_n 0, 1) := by decide +kernel
theorem dX4_step_1 : decode cX4_step 1 = .ok (.iconst 0, 1) := by decide +kernel
theorem dX4_step_2 : decode cX4_step 2 = .ok (.putfield 39, 3) := by decide +kernel
theorem dX4_step_5 : decode cX4_step 5 = .ok (.lload_n 1, 1) := by decide +kernel
theorem dX4_step_6 : decode cX4_step 6 = .ok (.aload_n 0, 1) := by decide +kernel
theorem dX4_step_7 : decode cX4_step 7 = .ok (.getfield 50, 3) := by decide +kernel
theorem dX4_step_10 : decode cX4_step 10 = .ok (.lcmp, 1) := by decide +kernel
theorem dX4_step_11 : decode cX4_step 11 = .ok (.ifCond .lt 16, 3) := by decide +kernel
theorem dX4_step_14 : decode cX4_step 14 = .ok (.lload_n 1, 1) := by decide +kernel
theorem dX4_step_15 : decode cX4_step 15 = .ok (.aload_n 0, 1) := by decide +kernel
theorem dX4_step_16 : decode cX4_step 16 = .ok (.getfield 50, 3) := by decide +kernel
theorem dX4_step_19 : decode cX4_step 19 = .ok (.lsub, 1) := by decide +kernel
theorem dX4_step_20 : decode cX4_step 20 = .ok (.ldc2_w 100, 3) := by decide +kernel
theorem dX4_step_23 : decode cX4_step 23 = .ok (.lcmp, 1) := by decide +kernel
theorem dX4_step_24 : decode cX4_step 24 = .ok (.ifCond .le 6, 3) := by decide +kernel
theorem dX4_step_27 : decode cX4_step 27 = .ok (.bipush (-2), 2) := by decide +kernel
theorem dX4_step_29 : decode cX4_step 29 = .ok (.ireturn, 1) := by decide +kernel
theorem dX4_step_30 : decode cX4_step 30 = .ok (.aload_n 0, 1) := by decide +kernel
theorem dX4_step_31 : decode cX4_step 31 = .ok (.lload_n 1, 1) := by decide +kernel
theorem dX4_step_32 : decode cX4_step 32 = .ok (.invokevirtual 102, 3) := by decide +kernel
theorem dX4_step_35 : decode cX4_step 35 = .ok (.aload_n 0, 1) := by decide +kernel
theorem dX4_step_36 : decode cX4_step 36 = .ok (.getfield 43, 3) := by decide +kernel
theorem dX4_step_39 : decode cX4_step 39 = .ok (.ireturn, 1) := by decide +kernel
theorem dX4_init__0 : decode cX4_init_ 0 = .ok (.aload_n 0, 1) := by decide +kernel
theorem dX4_init__1 : decode cX4_init_ 1 = .ok (.iconst 0, 1) := by decide +kernel
theorem dX4_init__2 : decode cX4_init_ 2 = .ok (.putfield 39, 3) := by decide +kernel
theorem dX4_init__5 : decode cX4_init_ 5 = .ok (.iload_n 1, 1) := by decide +kernel
theorem dX4_init__6 : decode cX4_init_ 6 = .ok (.iconst 1, 1) := by decide +kernel
theorem dX4_init__7 : decode cX4_init_ 7 = .ok (.if_icmp .lt 9, 3) := by decide +kernel
theorem dX4_init__10 : decode cX4_init_ 10 = .ok (.iload_n 1, 1) := by decide +kernel
theorem dX4_init__11 : decode cX4_init_ 11 = .ok (.bipush 20, 2) := by decide +kernel
theorem dX4_init__13 : decode cX4_init_ 13 = .ok (.if_icmp .le 5, 3) := by decide +kernel
theorem dX4_init__16 : decode cX4_init_ 16 = .ok (.iconst (-1), 1) := by decide +kernel
theorem dX4_init__17 : decode cX4_init_ 17 = .ok (.ireturn, 1) := by decide +kernel
theorem dX4_init__18 : decode cX4_init_ 18 = .ok (.iload_n 2, 1) := by decide +kernel
theorem dX4_init__19 : decode cX4_init_ 19 = .ok (.ifCond .lt 9, 3) := by decide +kernel
theorem dX4_init__22 : decode cX4_init_ 22 = .ok (.iload_n 2, 1) := by decide +kernel
theorem dX4_init__23 : decode cX4_init_ 23 = .ok (.bipush 100, 2) := by decide +kernel
theorem dX4_init__25 : decode cX4_init_ 25 = .ok (.if_icmp .le 6, 3) := by decide +kernel
theorem dX4_init__28 : decode cX4_init_ 28 = .ok (.bipush (-2), 2) := by decide +kernel
theorem dX4_init__30 : decode cX4_init_ 30 = .ok (.ireturn, 1) := by decide +kernel
theorem dX4_init__31 : decode cX4_init_ 31 = .ok (.aload_n 0, 1) := by decide +kernel
theorem dX4_init__32 : decode cX4_init_ 32 = .ok (.getfield 43, 3) := by decide +kernel
theorem dX4_init__35 : decode cX4_init_ 35 = .ok (.ifCond .eq 6, 3) := by decide +kernel
theorem dX4_init__38 : decode cX4_init_ 38 = .ok (.bipush (-3), 2) := by decide +kernel
theorem dX4_init__40 : decode cX4_init_ 40 = .ok (.ireturn, 1) := by decide +kernel
theorem dX4_init__41 : decode cX4_init_ 41 = .ok (.aload_n 0, 1) := by decide +kernel
theorem dX4_init__42 : decode cX4_init_ 42 = .ok (.getfield 27, 3) := by decide +kernel
theorem dX4_init__45 : decode cX4_init_ 45 = .ok (.iload_n 1, 1) := by decide +kernel
theorem dX4_init__46 : decode cX4_init_ 46 = .ok (.iconst 1, 1) := by decide +kernel
theorem dX4_init__47 : decode cX4_init_ 47 = .ok (.bastore, 1) := by decide +kernel
theorem dX4_init__48 : decode cX4_init_ 48 = .ok (.aload_n 0, 1) := by decide +kernel
theorem dX4_init__49 : decode cX4_init_ 49 = .ok (.getfield 30, 3) := by decide +kernel
theorem dX4_init__52 : decode cX4_init_ 52 = .ok (.iload_n 1, 1) := by decide +kernel
theorem dX4_init__53 : decode cX4_init_ 53 = .ok (.iload_n 2, 1) := by decide +kernel
theorem dX4_init__54 : decode cX4_init_ 54 = .ok (.iastore, 1) := by decide +kernel
theorem dX4_init__55 : decode cX4_init_ 55 = .ok (.aload_n 0, 1) := by decide +kernel
theorem dX4_init__56 : decode cX4_init_ 56 = .ok (.getfield 33, 3) := by decide +kernel
theorem dX4_init__59 : decode cX4_init_ 59 = .ok (.iload_n 1, 1) := by decide +kernel
theorem dX4_init__60 : decode cX4_init_ 60 = .ok (.iload_n 3, 1) := by decide +kernel
theorem dX4_init__61 : decode cX4_init_ 61 = .ok (.bastore, 1) := by decide +kernel
theorem dX4_init__62 : decode cX4_init_ 62 = .ok (.iconst 0, 1) := by decide +kernel
theorem dX4_init__63 : decode cX4_init_ 63 = .ok (.istore 4, 2) := by decide +kernel
theorem dX4_init__65 : decode cX4_init_ 65 = .ok (.iconst 1, 1) := by decide +kernel
theorem dX4_init__66 : decode cX4_init_ 66 = .ok (.istore 5, 2) := by decide +kernel
theorem dX4_init__68 : decode cX4_init_ 68 = .ok (.iload 5, 2) := by decide +kernel
theorem dX4_init__70 : decode cX4_init_ 70 = .ok (.bipush 20, 2) := by decide +kernel
theorem dX4_init__72 : decode cX4_init_ 72 = .ok (.if_icmp .gt 30, 3) := by decide +kernel
theorem dX4_init__75 : decode cX4_init_ 75 = .ok (.aload_n 0, 1) := by decide +kernel
theorem dX4_init__76 : decode cX4_init_ 76 = .ok (.getfield 27, 3) := by decide +kernel
theorem dX4_init__79 : decode cX4_init_ 79 = .ok (.iload 5, 2) := by decide +kernel
theorem dX4_init__81 : decode cX4_init_ 81 = .ok (.baload, 1) := by decide +kernel
theorem dX4_init__82 : decode cX4_init_ 82 = .ok (.ifCond .eq 10, 3) := by decide +kernel
theorem dX4_init__85 : decode cX4_init_ 85 = .ok (.iload 4, 2) := by decide +kernel
theorem dX4_init__87 : decode cX4_init_ 87 = .ok (.iconst 1, 1) := by decide +kernel
theorem dX4_init__88 : decode cX4_init_ 88 = .ok (.iadd, 1) := by decide +kernel
theorem dX4_init__89 : decode cX4_init_ 89 = .ok (.goto 5, 3) := by decide +kernel
theorem dX4_init__92 : decode cX4_init_ 92 = .ok (.iload 4, 2) := by decide +kernel
theorem dX4_init__94 : decode cX4_init_ 94 = .ok (.istore 4, 2) := by decide +kernel
theorem dX4_init__96 : decode cX4_init_ 96 = .ok (.iinc 5 1, 3) := by decide +kernel
theorem dX4_init__99 : decode cX4_init_ 99 = .ok (.goto (-31), 3) := by decide +kernel
theorem dX4_init__102 : decode cX4_init_ 102 = .ok (.iload 4, 2) := by decide +kernel
theorem dX4_init__104 : decode cX4_init_ 104 = .ok (.ireturn, 1) := by decide +kernel
theorem dX4_block_0 : decode cX4_block 0 = .ok (.aload_n 0, 1) := by decide +kernel
theorem dX4_block_1 : decode cX4_block 1 = .ok (.iconst 0, 1) := by decide +kernel
theorem dX4_block_2 : decode cX4_block 2 = .ok (.putfield 39, 3) := by decide +kernel
theorem dX4_block_5 : decode cX4_block 5 = .ok (.iload_n 1, 1) := by decide +kernel
theorem dX4_block_6 : decode cX4_block 6 = .ok (.ifCond .lt 9, 3) := by decide +kernel
theorem dX4_block_9 : decode cX4_block 9 = .ok (.iload_n 1, 1) := by decide +kernel
theorem dX4_block_10 : decode cX4_block 10 = .ok (.bipush 8, 2) := by decide +kernel
end
section
theorem dX4_block_12 : decode cX4_block 12 = .ok (.if_icmp .lt 7, 3) := by decide +kernel
theorem dX4_block_15 : decode cX4_block 15 = .ok (.iconst (-1), 1) := by decide +kernel
theorem dX4_block_16 : decode cX4_block 16 = .ok (.goto 17, 3) := by decide +kernel
theorem dX4_block_19 : decode cX4_block 19 = .ok (.aload_n 0, 1) := by decide +kernel
theorem dX4_block_20 : decode cX4_block 20 = .ok (.getfield 20, 3) := by decide +kernel
theorem dX4_block_23 : decode cX4_block 23 = .ok (.iload_n 1, 1) := by decide +kernel
theorem dX4_block_24 : decode cX4_block 24 = .ok (.baload, 1) := by decide +kernel
theorem dX4_block_25 : decode cX4_block 25 = .ok (.ifCond .eq 7, 3) := by decide +kernel
theorem dX4_block_28 : decode cX4_block 28 = .ok (.iconst 1, 1) := by decide +kernel
theorem dX4_block_29 : decode cX4_block 29 = .ok (.goto 4, 3) := by decide +kernel
theorem dX4_block_32 : decode cX4_block 32 = .ok (.iconst 0, 1) := by decide +kernel
theorem dX4_block_33 : decode cX4_block 33 = .ok (.ireturn, 1) := by decide +kernel
theorem dX4_write_0 : decode cX4_write 0 = .ok (.aload_n 0, 1) := by decide +kernel
theorem dX4_write_1 : decode cX4_write 1 = .ok (.iconst 0, 1) := by decide +kernel
theorem dX4_write_2 : decode cX4_write 2 = .ok (.putfield 39, 3) := by decide +kernel
theorem dX4_write_5 : decode cX4_write 5 = .ok (.iload_n 1, 1) := by decide +kernel
theorem dX4_write_6 : decode cX4_write 6 = .ok (.ifCond .lt 9, 3) := by decide +kernel
theorem dX4_write_9 : decode cX4_write 9 = .ok (.iload_n 1, 1) := by decide +kernel
theorem dX4_write_10 : decode cX4_write 10 = .ok (.bipush 8, 2) := by decide +kernel
theorem dX4_write_12 : decode cX4_write 12 = .ok (.if_icmp .lt 5, 3) := by decide +kernel
theorem dX4_write_15 : decode cX4_write 15 = .ok (.iconst (-1), 1) := by decide +kernel
theorem dX4_write_16 : decode cX4_write 16 = .ok (.ireturn, 1) := by decide +kernel
theorem dX4_write_17 : decode cX4_write 17 = .ok (.iload_n 2, 1) := by decide +kernel
theorem dX4_write_18 : decode cX4_write 18 = .ok (.ifCond .lt 9, 3) := by decide +kernel
theorem dX4_write_21 : decode cX4_write 21 = .ok (.iload_n 2, 1) := by decide +kernel
theorem dX4_write_22 : decode cX4_write 22 = .ok (.bipush 16, 2) := by decide +kernel
theorem dX4_write_24 : decode cX4_write 24 = .ok (.if_icmp .lt 6, 3) := by decide +kernel
theorem dX4_write_27 : decode cX4_write 27 = .ok (.bipush (-2), 2) := by decide +kernel
theorem dX4_write_29 : decode cX4_write 29 = .ok (.ireturn, 1) := by decide +kernel
theorem dX4_write_30 : decode cX4_write 30 = .ok (.aload_n 0, 1) := by decide +kernel
theorem dX4_write_31 : decode cX4_write 31 = .ok (.getfield 43, 3) := by decide +kernel
theorem dX4_write_34 : decode cX4_write 34 = .ok (.iconst 1, 1) := by decide +kernel
theorem dX4_write_35 : decode cX4_write 35 = .ok (.if_icmp .eq 14, 3) := by decide +kernel
theorem dX4_write_38 : decode cX4_write 38 = .ok (.aload_n 0, 1) := by decide +kernel
theorem dX4_write_39 : decode cX4_write 39 = .ok (.getfield 43, 3) := by decide +kernel
theorem dX4_write_42 : decode cX4_write 42 = .ok (.iconst 5, 1) := by decide +kernel
theorem dX4_write_43 : decode cX4_write 43 = .ok (.if_icmp .eq 6, 3) := by decide +kernel
theorem dX4_write_46 : decode cX4_write 46 = .ok (.bipush (-3), 2) := by decide +kernel
theorem dX4_write_48 : decode cX4_write 48 = .ok (.ireturn, 1) := by decide +kernel
theorem dX4_write_49 : decode cX4_write 49 = .ok (.aload_n 0, 1) := by decide +kernel
theorem dX4_write_50 : decode cX4_write 50 = .ok (.getfield 7, 3) := by decide +kernel
theorem dX4_write_53 : decode cX4_write 53 = .ok (.bipush 16, 2) := by decide +kernel
theorem dX4_write_55 : decode cX4_write 55 = .ok (.iload_n 1, 1) := by decide +kernel
theorem dX4_write_56 : decode cX4_write 56 = .ok (.imul, 1) := by decide +kernel
theorem dX4_write_57 : decode cX4_write 57 = .ok (.iload_n 2, 1) := by decide +kernel
theorem dX4_write_58 : decode cX4_write 58 = .ok (.iadd, 1) := by decide +kernel
theorem dX4_write_59 : decode cX4_write 59 = .ok (.iload_n 3, 1) := by decide +kernel
theorem dX4_write_60 : decode cX4_write 60 = .ok (.bastore, 1) := by decide +kernel
theorem dX4_write_61 : decode cX4_write 61 = .ok (.aload_n 0, 1) := by decide +kernel
theorem dX4_write_62 : decode cX4_write 62 = .ok (.getfield 20, 3) := by decide +kernel
theorem dX4_write_65 : decode cX4_write 65 = .ok (.iload_n 1, 1) := by decide +kernel
theorem dX4_write_66 : decode cX4_write 66 = .ok (.iconst 1, 1) := by decide +kernel
theorem dX4_write_67 : decode cX4_write 67 = .ok (.bastore, 1) := by decide +kernel
theorem dX4_write_68 : decode cX4_write 68 = .ok (.iconst 1, 1) := by decide +kernel
theorem dX4_write_69 : decode cX4_write 69 = .ok (.ireturn, 1) := by decide +kernel
set_option maxRecDepth 20000 in
theorem ggX4_cut_X4_goOn : GoodIn wsX4_cut wsX4_goOn := goodIn_ca (goodIn_r _ [11, 2, 4, 12, 13, 14, 10, 15, 16, 17, 18, 19, 20, 21, 22, 23, 24, 25, 1, 26, 27, 28, 29, 30, 6, 31, 32, 33, 34, 35, 36, 37, 38, 39, 40, 41, 42, 43, 44, 45, 46, 47, 48, 49, 50, 51, 52, 53, 54, 55, 56, 57, 58, 59, 60, 61, 62, 63, 64, 65, 66, 67, 68, 69, 70, 71, 72, 73, 74, 75, 76, 77, 78] (by decide +kernel) (by decide +kernel)) (goodIn_sub (fun _ h => List.mem_cons_of_mem _ (List.mem_append_right _ h)) (by decide +kernel))
set_option maxRecDepth 20000 in
theorem gX4_cut_X4_goOn : GoodIn wsX4_cut (wsV RX4 102 RX4 yX4_goOn wsX4_goOn) := goodIn_app (goodIn_of _ (by decide +kernel)) ggX4_cut_X4_goOn
theorem dX4_cut_0 : decode cX4_cut 0 = .ok (.aload_n 0, 1) := by decide +kernel
theorem dX4_cut_1 : decode cX4_cut 1 = .ok (.iconst 0, 1) := by decide +kernel
theorem dX4_cut_2 : decode cX4_cut 2 = .ok (.putfield 39, 3) := by decide +kernel
theorem dX4_cut_5 : decode cX4_cut 5 = .ok (.lload_n 1, 1) := by decide +kernel
theorem dX4_cut_6 : decode cX4_cut 6 = .ok (.aload_n 0, 1) := by decide +kernel
theorem dX4_cut_7 : decode cX4_cut 7 = .ok (.getfield 50, 3) := by decide +kernel
theorem dX4_cut_10 : decode cX4_cut 10 = .ok (.lcmp, 1) := by decide +kernel
theorem dX4_cut_11 : decode cX4_cut 11 = .ok (.ifCond .lt 16, 3) := by decide +kernel
theorem dX4_cut_14 : decode cX4_cut 14 = .ok (.lload_n 1, 1) := by decide +kernel
theorem dX4_cut_15 : decode cX4_cut 15 = .ok (.aload_n 0, 1) := by decide +kernel
theorem dX4_cut_16 : decode cX4_cut 16 = .ok (.getfield 50, 3) := by decide +kernel
theorem dX4_cut_19 : decode cX4_cut 19 = .ok (.lsub, 1) := by decide +kernel
theorem dX4_cut_20 : decode cX4_cut 20 = .ok (.ldc2_w 100, 3) := by decide +kernel
theorem dX4_cut_23 : decode cX4_cut 23 = .ok (.lcmp, 1) := by decide +kernel
theorem dX4_cut_24 : decode cX4_cut 24 = .ok (.ifCond .le 6, 3) := by decide +kernel
theorem dX4_cut_27 : decode cX4_cut 27 = .ok (.bipush (-2), 2) := by decide +kernel
theorem dX4_cut_29 : decode cX4_cut 29 = .ok (.ireturn, 1) := by decide +kernel
theorem dX4_cut_30 : decode cX4_cut 30 = .ok (.aload_n 0, 1) := by decide +kernel
theorem dX4_cut_31 : decode cX4_cut 31 = .ok (.getfield 43, 3) := by decide +kernel
theorem dX4_cut_34 : decode cX4_cut 34 = .ok (.ifCond .ne 6, 3) := by decide +kernel
theorem dX4_cut_37 : decode cX4_cut 37 = .ok (.bipush (-3), 2) := by decide +kernel
theorem dX4_cut_39 : decode cX4_cut 39 = .ok (.ireturn, 1) := by decide +kernel
theorem dX4_cut_40 : decode cX4_cut 40 = .ok (.aload_n 0, 1) := by decide +kernel
theorem dX4_cut_41 : decode cX4_cut 41 = .ok (.lload_n 1, 1) := by decide +kernel
theorem dX4_cut_42 : decode cX4_cut 42 = .ok (.invokevirtual 102, 3) := by decide +kernel
theorem dX4_cut_45 : decode cX4_cut 45 = .ok (.aload_n 0, 1) := by decide +kernel
theorem dX4_cut_46 : decode cX4_cut 46 = .ok (.iconst 0, 1) := by decide +kernel
theorem dX4_cut_47 : decode cX4_cut 47 = .ok (.putfield 43, 3) := by decide +kernel
theorem dX4_cut_50 : decode cX4_cut 50 = .ok (.aload_n 0, 1) := by decide +kernel
theorem dX4_cut_51 : decode cX4_cut 51 = .ok (.dup, 1) := by decide +kernel
theorem dX4_cut_52 : decode cX4_cut 52 = .ok (.getfield 106, 3) := by decide +kernel
theorem dX4_cut_55 : decode cX4_cut 55 = .ok (.lconst 1, 1) := by decide +kernel
theorem dX4_cut_56 : decode cX4_cut 56 = .ok (.ladd, 1) := by decide +kernel
theorem dX4_cut_57 : decode cX4_cut 57 = .ok (.putfield 106, 3) := by decide +kernel
theorem dX4_cut_60 : decode cX4_cut 60 = .ok (.iconst 0, 1) := by decide +kernel
theorem dX4_cut_61 : decode cX4_cut 61 = .ok (.istore_n 3, 1) := by decide +kernel
theorem dX4_cut_62 : decode cX4_cut 62 = .ok (.iconst 0, 1) := by decide +kernel
theorem dX4_cut_63 : decode cX4_cut 63 = .ok (.istore 4, 2) := by decide +kernel
theorem dX4_cut_65 : decode cX4_cut 65 = .ok (.iload 4, 2) := by decide +kernel
theorem dX4_cut_67 : decode cX4_cut 67 = .ok (.bipush 8, 2) := by decide +kernel
theorem dX4_cut_69 : decode cX4_cut 69 = .ok (.if_icmp .ge 27, 3) := by decide +kernel
theorem dX4_cut_72 : decode cX4_cut 72 = .ok (.aload_n 0, 1) := by decide +kernel
theorem dX4_cut_73 : decode cX4_cut 73 = .ok (.getfield 20, 3) := by decide +kernel
theorem dX4_cut_76 : decode cX4_cut 76 = .ok (.iload 4, 2) := by decide +kernel
theorem dX4_cut_78 : decode cX4_cut 78 = .ok (.baload, 1) := by decide +kernel
theorem dX4_cut_79 : decode cX4_cut 79 = .ok (.ifCond .eq 9, 3) := by decide +kernel
theorem dX4_cut_82 : decode cX4_cut 82 = .ok (.iload_n 3, 1) := by decide +kernel
theorem dX4_cut_83 : decode cX4_cut 83 = .ok (.iconst 1, 1) := by decide +kernel
theorem dX4_cut_84 : decode cX4_cut 84 = .ok (.iadd, 1) := by decide +kernel
theorem dX4_cut_85 : decode cX4_cut 85 = .ok (.goto 4, 3) := by decide +kernel
theorem dX4_cut_88 : decode cX4_cut 88 = .ok (.iload_n 3, 1) := by decide +kernel
theorem dX4_cut_89 : decode cX4_cut 89 = .ok (.istore_n 3, 1) := by decide +kernel
theorem dX4_cut_90 : decode cX4_cut 90 = .ok (.iinc 4 1, 3) := by decide +kernel
theorem dX4_cut_93 : decode cX4_cut 93 = .ok (.goto (-28), 3) := by decide +kernel
theorem dX4_cut_96 : decode cX4_cut 96 = .ok (.iload_n 3, 1) := by decide +kernel
theorem dX4_cut_97 : decode cX4_cut 97 = .ok (.ireturn, 1) := by decide +kernel
theorem dX4_nextPart_0 : decode cX4_nextPart 0 = .ok (.iconst 0, 1) := by decide +kernel
theorem dX4_nextPart_1 : decode cX4_nextPart 1 = .ok (.istore_n 3, 1) := by decide +kernel
theorem dX4_nextPart_2 : decode cX4_nextPart 2 = .ok (.iconst 1, 1) := by decide +kernel
theorem dX4_nextPart_3 : decode cX4_nextPart 3 = .ok (.istore 4, 2) := by decide +kernel
theorem dX4_nextPart_5 : decode cX4_nextPart 5 = .ok (.iload 4, 2) := by decide +kernel
theorem dX4_nextPart_7 : decode cX4_nextPart 7 = .ok (.bipush 20, 2) := by decide +kernel
theorem dX4_nextPart_9 : decode cX4_nextPart 9 = .ok (.if_icmp .gt 82, 3) := by decide +kernel
theorem dX4_nextPart_12 : decode cX4_nextPart 12 = .ok (.aload_n 0, 1) := by decide +kernel
theorem dX4_nextPart_13 : decode cX4_nextPart 13 = .ok (.getfield 27, 3) := by decide +kernel
theorem dX4_nextPart_16 : decode cX4_nextPart 16 = .ok (.iload 4, 2) := by decide +kernel
theorem dX4_nextPart_18 : decode cX4_nextPart 18 = .ok (.baload, 1) := by decide +kernel
theorem dX4_nextPart_19 : decode cX4_nextPart 19 = .ok (.ifCond .eq 35, 3) := by decide +kernel
theorem dX4_nextPart_22 : decode cX4_nextPart 22 = .ok (.aload_n 0, 1) := by decide +kernel
theorem dX4_nextPart_23 : decode cX4_nextPart 23 = .ok (.getfield 30, 3) := by decide +kernel
theorem dX4_nextPart_26 : decode cX4_nextPart 26 = .ok (.iload 4, 2) := by decide +kernel
theorem dX4_nextPart_28 : decode cX4_nextPart 28 = .ok (.iaload, 1) := by decide +kernel
theorem dX4_nextPart_29 : decode cX4_nextPart 29 = .ok (.iload_n 1, 1) := by decide +kernel
theorem dX4_nextPart_30 : decode cX4_nextPart 30 = .ok (.if_icmp .gt 20, 3) := by decide +kernel
theorem dX4_nextPart_33 : decode cX4_nextPart 33 = .ok (.aload_n 0, 1) := by decide +kernel
theorem dX4_nextPart_34 : decode cX4_nextPart 34 = .ok (.getfield 30, 3) := by decide +kernel
theorem dX4_nextPart_37 : decode cX4_nextPart 37 = .ok (.iload 4, 2) := by decide +kernel
theorem dX4_nextPart_39 : decode cX4_nextPart 39 = .ok (.iaload, 1) := by decide +kernel
theorem dX4_nextPart_40 : decode cX4_nextPart 40 = .ok (.iload_n 1, 1) := by decide +kernel
theorem dX4_nextPart_41 : decode cX4_nextPart 41 = .ok (.if_icmp .ne 13, 3) := by decide +kernel
theorem dX4_nextPart_44 : decode cX4_nextPart 44 = .ok (.iload 4, 2) := by decide +kernel
theorem dX4_nextPart_46 : decode cX4_nextPart 46 = .ok (.iload_n 2, 1) := by decide +kernel
theorem dX4_nextPart_47 : decode cX4_nextPart 47 = .ok (.if_icmp .le 7, 3) := by decide +kernel
theorem dX4_nextPart_50 : decode cX4_nextPart 50 = .ok (.iconst 1, 1) := by decide +kernel
theorem dX4_nextPart_51 : decode cX4_nextPart 51 = .ok (.goto 4, 3) := by decide +kernel
theorem dX4_nextPart_54 : decode cX4_nextPart 54 = .ok (.iconst 0, 1) := by decide +kernel
theorem dX4_nextPart_55 : decode cX4_nextPart 55 = .ok (.istore 5, 2) := by decide +kernel
theorem dX4_nextPart_57 : decode cX4_nextPart 57 = .ok (.iload 5, 2) := by decide +kernel
theorem dX4_nextPart_59 : decode cX4_nextPart 59 = .ok (.ifCond .eq 26, 3) := by decide +kernel
theorem dX4_nextPart_62 : decode cX4_nextPart 62 = .ok (.iload_n 3, 1) := by decide +kernel
theorem dX4_nextPart_63 : decode cX4_nextPart 63 = .ok (.ifCond .eq 19, 3) := by decide +kernel
theorem dX4_nextPart_66 : decode cX4_nextPart 66 = .ok (.aload_n 0, 1) := by decide +kernel
theorem dX4_nextPart_67 : decode cX4_nextPart 67 = .ok (.getfield 30, 3) := by decide +kernel
theorem dX4_nextPart_70 : decode cX4_nextPart 70 = .ok (.iload 4, 2) := by decide +kernel
theorem dX4_nextPart_72 : decode cX4_nextPart 72 = .ok (.iaload, 1) := by decide +kernel
theorem dX4_nextPart_73 : decode cX4_nextPart 73 = .ok (.aload_n 0, 1) := by decide +kernel
theorem dX4_nextPart_74 : decode cX4_nextPart 74 = .ok (.getfield 30, 3) := by decide +kernel
theorem dX4_nextPart_77 : decode cX4_nextPart 77 = .ok (.iload_n 3, 1) := by decide +kernel
theorem dX4_nextPart_78 : decode cX4_nextPart 78 = .ok (.iaload, 1) := by decide +kernel
theorem dX4_nextPart_79 : decode cX4_nextPart 79 = .ok (.if_icmp .ge 6, 3) := by decide +kernel
theorem dX4_nextPart_82 : decode cX4_nextPart 82 = .ok (.iload 4, 2) := by decide +kernel
theorem dX4_nextPart_84 : decode cX4_nextPart 84 = .ok (.istore_n 3, 1) := by decide +kernel
theorem dX4_nextPart_85 : decode cX4_nextPart 85 = .ok (.iinc 4 1, 3) := by decide +kernel
theorem dX4_nextPart_88 : decode cX4_nextPart 88 = .ok (.goto (-83), 3) := by decide +kernel
theorem dX4_nextPart_91 : decode cX4_nextPart 91 = .ok (.iload_n 3, 1) := by decide +kernel
theorem dX4_nextPart_92 : decode cX4_nextPart 92 = .ok (.ireturn, 1) := by decide +kernel
set_option maxRecDepth 20000 in
theorem ggX4_start_X4_keptCopy : GoodIn wsX4_start wsX4_keptCopy := goodIn_ca (goodIn_r _ [20, 21, 32, 33, 34, 35, 36, 37, 38, 39, 40, 41, 42, 43, 44, 45, 46, 47, 48, 49, 50, 51, 52, 53, 54] (by decide +kernel) (by decide +kernel)) (goodIn_sub (fun _ h => List.mem_cons_of_mem _ (List.mem_append_right _ h)) (by decide +kernel))
set_option maxRecDepth 20000 in
theorem gX4_start_X4_keptCopy : GoodIn wsX4_start (wsV RX4 75 RX4 yX4_keptCopy wsX4_keptCopy) := goodIn_app (goodIn_of _ (by decide +kernel)) ggX4_start_X4_keptCopy
set_option maxRecDepth 20000 in
theorem ggX4_start_X4_nextPart : GoodIn wsX4_start wsX4_nextPart := goodIn_ca (goodIn_r _ [25, 26, 15, 32, 33, 34, 35, 36, 37, 38, 39, 40, 41, 42, 43, 44, 45, 46, 47, 48, 49, 50, 51, 52, 53, 54] (by decide +kernel) (by decide +kernel)) (goodIn_sub (fun _ h => List.mem_cons_of_mem _ (List.mem_append_right _ h)) (by decide +kernel))
set_option maxRecDepth 20000 in
theorem gX4_start_X4_nextPart : GoodIn wsX4_start (wsV RX4 124 RX4 yX4_nextPart wsX4_nextPart) := goodIn_app (goodIn_of _ (by decide +kernel)) ggX4_start_X4_nextPart
set_option maxRecDepth 20000 in
theorem ggX4_start_X4_run : GoodIn wsX4_start wsX4_run := goodIn_r _ [30, 2, 6, 31, 32, 33, 34, 35, 36, 37, 38, 39, 40, 41, 42, 43, 44, 45, 46, 47, 48, 49, 50, 51, 52, 53, 54] (by decide +kernel) (by decide +kernel)
set_option maxRecDepth 20000 in
theorem gX4_start_X4_run : GoodIn wsX4_start (wsV RX4 60 RX4 yX4_run wsX4_run) := goodIn_app (goodIn_of _ (by decide +kernel)) ggX4_start_X4_run
theorem dX4_start_0 : decode cX4_start 0 = .ok (.aload_n 0, 1) := by decide +kernel
theorem dX4_start_1 : decode cX4_start 1 = .ok (.iconst 0, 1) := by decide +kernel
theorem dX4_start_2 : decode cX4_start 2 = .ok (.putfield 39, 3) := by decide +kernel
theorem dX4_start_5 : decode cX4_start 5 = .ok (.aload_n 0, 1) := by decide +kernel
theorem dX4_start_6 : decode cX4_start 6 = .ok (.getfield 43, 3) := by decide +kernel
theorem dX4_start_9 : decode cX4_start 9 = .ok (.ifCond .eq 6, 3) := by decide +kernel
theorem dX4_start_12 : decode cX4_start 12 = .ok (.bipush (-3), 2) := by decide +kernel
theorem dX4_start_14 : decode cX4_start 14 = .ok (.ireturn, 1) := by decide +kernel
theorem dX4_start_15 : decode cX4_start 15 = .ok (.aload_n 0, 1) := by decide +kernel
theorem dX4_start_16 : decode cX4_start 16 = .ok (.aload_n 0, 1) := by decide +kernel
theorem dX4_start_17 : decode cX4_start 17 = .ok (.getfield 109, 3) := by decide +kernel
theorem dX4_start_20 : decode cX4_start 20 = .ok (.putfield 112, 3) := by decide +kernel
theorem dX4_start_23 : decode cX4_start 23 = .ok (.aload_n 0, 1) := by decide +kernel
theorem dX4_start_24 : decode cX4_start 24 = .ok (.dup, 1) := by decide +kernel
theorem dX4_start_25 : decode cX4_start 25 = .ok (.getfield 115, 3) := by decide +kernel
theorem dX4_start_28 : decode cX4_start 28 = .ok (.lconst 1, 1) := by decide +kernel
theorem dX4_start_29 : decode cX4_start 29 = .ok (.ladd, 1) := by decide +kernel
theorem dX4_start_30 : decode cX4_start 30 = .ok (.putfield 115, 3) := by decide +kernel
theorem dX4_start_33 : decode cX4_start 33 = .ok (.aload_n 0, 1) := by decide +kernel
theorem dX4_start_34 : decode cX4_start 34 = .ok (.aload_n 0, 1) := by decide +kernel
theorem dX4_start_35 : decode cX4_start 35 = .ok (.getfield 50, 3) := by decide +kernel
theorem dX4_start_38 : decode cX4_start 38 = .ok (.putfield 118, 3) := by decide +kernel
theorem dX4_start_41 : decode cX4_start 41 = .ok (.iconst 0, 1) := by decide +kernel
theorem dX4_start_42 : decode cX4_start 42 = .ok (.istore_n 1, 1) := by decide +kernel
theorem dX4_start_43 : decode cX4_start 43 = .ok (.iload_n 1, 1) := by decide +kernel
theorem dX4_start_44 : decode cX4_start 44 = .ok (.bipush 8, 2) := by decide +kernel
theorem dX4_start_46 : decode cX4_start 46 = .ok (.if_icmp .ge 60, 3) := by decide +kernel
theorem dX4_start_49 : decode cX4_start 49 = .ok (.aload_n 0, 1) := by decide +kernel
theorem dX4_start_50 : decode cX4_start 50 = .ok (.getfield 20, 3) := by decide +kernel
theorem dX4_start_53 : decode cX4_start 53 = .ok (.iload_n 1, 1) := by decide +kernel
theorem dX4_start_54 : decode cX4_start 54 = .ok (.iconst 0, 1) := by decide +kernel
theorem dX4_start_55 : decode cX4_start 55 = .ok (.bastore, 1) := by decide +kernel
theorem dX4_start_56 : decode cX4_start 56 = .ok (.iconst 0, 1) := by decide +kernel
theorem dX4_start_57 : decode cX4_start 57 = .ok (.istore_n 2, 1) := by decide +kernel
theorem dX4_start_58 : decode cX4_start 58 = .ok (.iload_n 2, 1) := by decide +kernel
theorem dX4_start_59 : decode cX4_start 59 = .ok (.bipush 16, 2) := by decide +kernel
theorem dX4_start_61 : decode cX4_start 61 = .ok (.if_icmp .ge 39, 3) := by decide +kernel
theorem dX4_start_64 : decode cX4_start 64 = .ok (.aload_n 0, 1) := by decide +kernel
theorem dX4_start_65 : decode cX4_start 65 = .ok (.getfield 7, 3) := by decide +kernel
theorem dX4_start_68 : decode cX4_start 68 = .ok (.bipush 16, 2) := by decide +kernel
theorem dX4_start_70 : decode cX4_start 70 = .ok (.iload_n 1, 1) := by decide +kernel
theorem dX4_start_71 : decode cX4_start 71 = .ok (.imul, 1) := by decide +kernel
theorem dX4_start_72 : decode cX4_start 72 = .ok (.iload_n 2, 1) := by decide +kernel
theorem dX4_start_73 : decode cX4_start 73 = .ok (.iadd, 1) := by decide +kernel
theorem dX4_start_74 : decode cX4_start 74 = .ok (.aload_n 0, 1) := by decide +kernel
theorem dX4_start_75 : decode cX4_start 75 = .ok (.getfield 13, 3) := by decide +kernel
theorem dX4_start_78 : decode cX4_start 78 = .ok (.bipush 16, 2) := by decide +kernel
theorem dX4_start_80 : decode cX4_start 80 = .ok (.iconst 2, 1) := by decide +kernel
theorem dX4_start_81 : decode cX4_start 81 = .ok (.iload_n 1, 1) := by decide +kernel
theorem dX4_start_82 : decode cX4_start 82 = .ok (.imul, 1) := by decide +kernel
theorem dX4_start_83 : decode cX4_start 83 = .ok (.aload_n 0, 1) := by decide +kernel
theorem dX4_start_84 : decode cX4_start 84 = .ok (.iload_n 1, 1) := by decide +kernel
theorem dX4_start_85 : decode cX4_start 85 = .ok (.invokevirtual 75, 3) := by decide +kernel
theorem dX4_start_88 : decode cX4_start 88 = .ok (.iadd, 1) := by decide +kernel
theorem dX4_start_89 : decode cX4_start 89 = .ok (.imul, 1) := by decide +kernel
theorem dX4_start_90 : decode cX4_start 90 = .ok (.iload_n 2, 1) := by decide +kernel
theorem dX4_start_91 : decode cX4_start 91 = .ok (.iadd, 1) := by decide +kernel
theorem dX4_start_92 : decode cX4_start 92 = .ok (.baload, 1) := by decide +kernel
theorem dX4_start_93 : decode cX4_start 93 = .ok (.bastore, 1) := by decide +kernel
theorem dX4_start_94 : decode cX4_start 94 = .ok (.iinc 2 1, 3) := by decide +kernel
theorem dX4_start_97 : decode cX4_start 97 = .ok (.goto (-39), 3) := by decide +kernel
theorem dX4_start_100 : decode cX4_start 100 = .ok (.iinc 1 1, 3) := by decide +kernel
theorem dX4_start_103 : decode cX4_start 103 = .ok (.goto (-60), 3) := by decide +kernel
theorem dX4_start_106 : decode cX4_start 106 = .ok (.iconst 1, 1) := by decide +kernel
theorem dX4_start_107 : decode cX4_start 107 = .ok (.istore_n 1, 1) := by decide +kernel
theorem dX4_start_108 : decode cX4_start 108 = .ok (.iload_n 1, 1) := by decide +kernel
theorem dX4_start_109 : decode cX4_start 109 = .ok (.bipush 16, 2) := by decide +kernel
theorem dX4_start_111 : decode cX4_start 111 = .ok (.if_icmp .gt 16, 3) := by decide +kernel
theorem dX4_start_114 : decode cX4_start 114 = .ok (.aload_n 0, 1) := by decide +kernel
theorem dX4_start_115 : decode cX4_start 115 = .ok (.getfield 24, 3) := by decide +kernel
theorem dX4_start_118 : decode cX4_start 118 = .ok (.iload_n 1, 1) := by decide +kernel
theorem dX4_start_119 : decode cX4_start 119 = .ok (.iconst 0, 1) := by decide +kernel
theorem dX4_start_120 : decode cX4_start 120 = .ok (.bastore, 1) := by decide +kernel
theorem dX4_start_121 : decode cX4_start 121 = .ok (.iinc 1 1, 3) := by decide +kernel
theorem dX4_start_124 : decode cX4_start 124 = .ok (.goto (-16), 3) := by decide +kernel
theorem dX4_start_127 : decode cX4_start 127 = .ok (.aload_n 0, 1) := by decide +kernel
theorem dX4_start_128 : decode cX4_start 128 = .ok (.iconst 0, 1) := by decide +kernel
theorem dX4_start_129 : decode cX4_start 129 = .ok (.putfield 121, 3) := by decide +kernel
theorem dX4_start_132 : decode cX4_start 132 = .ok (.aload_n 0, 1) := by decide +kernel
theorem dX4_start_133 : decode cX4_start 133 = .ok (.iconst (-1), 1) := by decide +kernel
theorem dX4_start_134 : decode cX4_start 134 = .ok (.iconst 0, 1) := by decide +kernel
theorem dX4_start_135 : decode cX4_start 135 = .ok (.invokevirtual 124, 3) := by decide +kernel
theorem dX4_start_138 : decode cX4_start 138 = .ok (.istore_n 1, 1) := by decide +kernel
theorem dX4_start_139 : decode cX4_start 139 = .ok (.iconst 0, 1) := by decide +kernel
theorem dX4_start_140 : decode cX4_start 140 = .ok (.istore_n 2, 1) := by decide +kernel
theorem dX4_start_141 : decode cX4_start 141 = .ok (.iload_n 1, 1) := by decide +kernel
theorem dX4_start_142 : decode cX4_start 142 = .ok (.ifCond .le 49, 3) := by decide +kernel
theorem dX4_start_145 : decode cX4_start 145 = .ok (.iload_n 2, 1) := by decide +kernel
theorem dX4_start_146 : decode cX4_start 146 = .ok (.ifCond .ne 45, 3) := by decide +kernel
theorem dX4_start_149 : decode cX4_start 149 = .ok (.aload_n 0, 1) := by decide +kernel
theorem dX4_start_150 : decode cX4_start 150 = .ok (.getfield 36, 3) := by decide +kernel
theorem dX4_start_153 : decode cX4_start 153 = .ok (.aload_n 0, 1) := by decide +kernel
theorem dX4_start_154 : decode cX4_start 154 = .ok (.getfield 121, 3) := by decide +kernel
theorem dX4_start_157 : decode cX4_start 157 = .ok (.iload_n 1, 1) := by decide +kernel
theorem dX4_start_158 : decode cX4_start 158 = .ok (.iastore, 1) := by decide +kernel
theorem dX4_start_159 : decode cX4_start 159 = .ok (.aload_n 0, 1) := by decide +kernel
theorem dX4_start_160 : decode cX4_start 160 = .ok (.dup, 1) := by decide +kernel
theorem dX4_start_161 : decode cX4_start 161 = .ok (.getfield 121, 3) := by decide +kernel
theorem dX4_start_164 : decode cX4_start 164 = .ok (.iconst 1, 1) := by decide +kernel
theorem dX4_start_165 : decode cX4_start 165 = .ok (.iadd, 1) := by decide +kernel
theorem dX4_start_166 : decode cX4_start 166 = .ok (.putfield 121, 3) := by decide +kernel
theorem dX4_start_169 : decode cX4_start 169 = .ok (.aload_n 0, 1) := by decide +kernel
theorem dX4_start_170 : decode cX4_start 170 = .ok (.getfield 33, 3) := by decide +kernel
theorem dX4_start_173 : decode cX4_start 173 = .ok (.iload_n 1, 1) := by decide +kernel
theorem dX4_start_174 : decode cX4_start 174 = .ok (.baload, 1) := by decide +kernel
theorem dX4_start_175 : decode cX4_start 175 = .ok (.istore_n 2, 1) := by decide +kernel
theorem dX4_start_176 : decode cX4_start 176 = .ok (.aload_n 0, 1) := by decide +kernel
theorem dX4_start_177 : decode cX4_start 177 = .ok (.aload_n 0, 1) := by decide +kernel
theorem dX4_start_178 : decode cX4_start 178 = .ok (.getfield 30, 3) := by decide +kernel
theorem dX4_start_181 : decode cX4_start 181 = .ok (.iload_n 1, 1) := by decide +kernel
theorem dX4_start_182 : decode cX4_start 182 = .ok (.iaload, 1) := by decide +kernel
theorem dX4_start_183 : decode cX4_start 183 = .ok (.iload_n 1, 1) := by decide +kernel
theorem dX4_start_184 : decode cX4_start 184 = .ok (.invokevirtual 124, 3) := by decide +kernel
theorem dX4_start_187 : decode cX4_start 187 = .ok (.istore_n 1, 1) := by decide +kernel
theorem dX4_start_188 : decode cX4_start 188 = .ok (.goto (-47), 3) := by decide +kernel
theorem dX4_start_191 : decode cX4_start 191 = .ok (.iload_n 2, 1) := by decide +kernel
theorem dX4_start_192 : decode cX4_start 192 = .ok (.ifCond .ne 12, 3) := by decide +kernel
theorem dX4_start_195 : decode cX4_start 195 = .ok (.aload_n 0, 1) := by decide +kernel
theorem dX4_start_196 : decode cX4_start 196 = .ok (.invokevirtual 60, 3) := by decide +kernel
theorem dX4_start_199 : decode cX4_start 199 = .ok (.aload_n 0, 1) := by decide +kernel
theorem dX4_start_200 : decode cX4_start 200 = .ok (.getfield 43, 3) := by decide +kernel
theorem dX4_start_203 : decode cX4_start 203 = .ok (.ireturn, 1) := by decide +kernel
theorem dX4_start_204 : decode cX4_start 204 = .ok (.aload_n 0, 1) := by decide +kernel
theorem dX4_start_205 : decode cX4_start 205 = .ok (.iconst 5, 1) := by decide +kernel
theorem dX4_start_206 : decode cX4_start 206 = .ok (.putfield 43, 3) := by decide +kernel
theorem dX4_start_209 : decode cX4_start 209 = .ok (.aload_n 0, 1) := by decide +kernel
theorem dX4_start_210 : decode cX4_start 210 = .ok (.getfield 121, 3) := by decide +kernel
theorem dX4_start_213 : decode cX4_start 213 = .ok (.iconst 2, 1) := by decide +kernel
theorem dX4_start_214 : decode cX4_start 214 = .ok (.isub, 1) := by decide +kernel
theorem dX4_start_215 : decode cX4_start 215 = .ok (.istore_n 3, 1) := by decide +kernel
theorem dX4_start_216 : decode cX4_start 216 = .ok (.iload_n 3, 1) := by decide +kernel
theorem dX4_start_217 : decode cX4_start 217 = .ok (.ifCond .lt 35, 3) := by decide +kernel
theorem dX4_start_220 : decode cX4_start 220 = .ok (.aload_n 0, 1) := by decide +kernel
theorem dX4_start_221 : decode cX4_start 221 = .ok (.getfield 36, 3) := by decide +kernel
theorem dX4_start_224 : decode cX4_start 224 = .ok (.aload_n 0, 1) := by decide +kernel
theorem dX4_start_225 : decode cX4_start 225 = .ok (.getfield 121, 3) := by decide +kernel
theorem dX4_start_228 : decode cX4_start 228 = .ok (.aload_n 0, 1) := by decide +kernel
theorem dX4_start_229 : decode cX4_start 229 = .ok (.getfield 36, 3) := by decide +kernel
theorem dX4_start_232 : decode cX4_start 232 = .ok (.iload_n 3, 1) := by decide +kernel
theorem dX4_start_233 : decode cX4_start 233 = .ok (.iaload, 1) := by decide +kernel
theorem dX4_start_234 : decode cX4_start 234 = .ok (.ineg, 1) := by decide +kernel
theorem dX4_start_235 : decode cX4_start 235 = .ok (.iastore, 1) := by decide +kernel
theorem dX4_start_236 : decode cX4_start 236 = .ok (.aload_n 0, 1) := by decide +kernel
theorem dX4_start_237 : decode cX4_start 237 = .ok (.dup, 1) := by decide +kernel
theorem dX4_start_238 : decode cX4_start 238 = .ok (.getfield 121, 3) := by decide +kernel
theorem dX4_start_241 : decode cX4_start 241 = .ok (.iconst 1, 1) := by decide +kernel
theorem dX4_start_242 : decode cX4_start 242 = .ok (.iadd, 1) := by decide +kernel
theorem dX4_start_243 : decode cX4_start 243 = .ok (.putfield 121, 3) := by decide +kernel
theorem dX4_start_246 : decode cX4_start 246 = .ok (.iinc 3 (-1), 3) := by decide +kernel
theorem dX4_start_249 : decode cX4_start 249 = .ok (.goto (-33), 3) := by decide +kernel
theorem dX4_start_252 : decode cX4_start 252 = .ok (.aload_n 0, 1) := by decide +kernel
theorem dX4_start_253 : decode cX4_start 253 = .ok (.getfield 43, 3) := by decide +kernel
theorem dX4_start_256 : decode cX4_start 256 = .ok (.ireturn, 1) := by decide +kernel
set_option maxRecDepth 20000 in
theorem ggX4_kept_X4_keptCopy : GoodIn wsX4_kept wsX4_keptCopy := goodIn_ca (goodIn_r _ [7, 8, 9, 10, 11, 12, 13, 14, 15, 16, 17, 18, 19, 20, 21, 22, 23, 24, 25, 26, 27, 28, 29, 30, 31] (by decide +kernel) (by decide +kernel)) (goodIn_sub (fun _ h => List.mem_cons_of_mem _ (List.mem_append_right _ h)) (by decide +kernel))
set_option maxRecDepth 20000 in
theorem gX4_kept_X4_keptCopy : GoodIn wsX4_kept (wsV RX4 75 RX4 yX4_keptCopy wsX4_keptCopy) := goodIn_app (goodIn_of _ (by decide +kernel)) ggX4_kept_X4_keptCopy
theorem dX4_kept_0 : decode cX4_kept 0 = .ok (.aload_n 0, 1) := by decide +kernel
theorem dX4_kept_1 : decode cX4_kept 1 = .ok (.iload_n 1, 1) := by decide +kernel
theorem dX4_kept_2 : decode cX4_kept 2 = .ok (.ifCond .lt 19, 3) := by decide +kernel
theorem dX4_kept_5 : decode cX4_kept 5 = .ok (.iload_n 1, 1) := by decide +kernel
theorem dX4_kept_6 : decode cX4_kept 6 = .ok (.bipush 8, 2) := by decide +kernel
theorem dX4_kept_8 : decode cX4_kept 8 = .ok (.if_icmp .ge 13, 3) := by decide +kernel
theorem dX4_kept_11 : decode cX4_kept 11 = .ok (.iload_n 2, 1) := by decide +kernel
theorem dX4_kept_12 : decode cX4_kept 12 = .ok (.ifCond .lt 9, 3) := by decide +kernel
theorem dX4_kept_15 : decode cX4_kept 15 = .ok (.iload_n 2, 1) := by decide +kernel
theorem dX4_kept_16 : decode cX4_kept 16 = .ok (.bipush 16, 2) := by decide +kernel
theorem dX4_kept_18 : decode cX4_kept 18 = .ok (.if_icmp .lt 7, 3) := by decide +kernel
theorem dX4_kept_21 : decode cX4_kept 21 = .ok (.iconst 1, 1) := by decide +kernel
theorem dX4_kept_22 : decode cX4_kept 22 = .ok (.goto 4, 3) := by decide +kernel
theorem dX4_kept_25 : decode cX4_kept 25 = .ok (.iconst 0, 1) := by decide +kernel
theorem dX4_kept_26 : decode cX4_kept 26 = .ok (.putfield 39, 3) := by decide +kernel
theorem dX4_kept_29 : decode cX4_kept 29 = .ok (.aload_n 0, 1) := by decide +kernel
theorem dX4_kept_30 : decode cX4_kept 30 = .ok (.getfield 39, 3) := by decide +kernel
theorem dX4_kept_33 : decode cX4_kept 33 = .ok (.ifCond .le 7, 3) := by decide +kernel
theorem dX4_kept_36 : decode cX4_kept 36 = .ok (.iconst 0, 1) := by decide +kernel
theorem dX4_kept_37 : decode cX4_kept 37 = .ok (.goto 22, 3) := by decide +kernel
theorem dX4_kept_40 : decode cX4_kept 40 = .ok (.aload_n 0, 1) := by decide +kernel
theorem dX4_kept_41 : decode cX4_kept 41 = .ok (.getfield 13, 3) := by decide +kernel
theorem dX4_kept_44 : decode cX4_kept 44 = .ok (.bipush 16, 2) := by decide +kernel
theorem dX4_kept_46 : decode cX4_kept 46 = .ok (.iconst 2, 1) := by decide +kernel
theorem dX4_kept_47 : decode cX4_kept 47 = .ok (.iload_n 1, 1) := by decide +kernel
theorem dX4_kept_48 : decode cX4_kept 48 = .ok (.imul, 1) := by decide +kernel
theorem dX4_kept_49 : decode cX4_kept 49 = .ok (.aload_n 0, 1) := by decide +kernel
theorem dX4_kept_50 : decode cX4_kept 50 = .ok (.iload_n 1, 1) := by decide +kernel
theorem dX4_kept_51 : decode cX4_kept 51 = .ok (.invokevirtual 75, 3) := by decide +kernel
theorem dX4_kept_54 : decode cX4_kept 54 = .ok (.iadd, 1) := by decide +kernel
theorem dX4_kept_55 : decode cX4_kept 55 = .ok (.imul, 1) := by decide +kernel
theorem dX4_kept_56 : decode cX4_kept 56 = .ok (.iload_n 2, 1) := by decide +kernel
theorem dX4_kept_57 : decode cX4_kept 57 = .ok (.iadd, 1) := by decide +kernel
theorem dX4_kept_58 : decode cX4_kept 58 = .ok (.baload, 1) := by decide +kernel
theorem dX4_kept_59 : decode cX4_kept 59 = .ok (.ireturn, 1) := by decide +kernel
theorem dX4_bank_0 : decode cX4_bank 0 = .ok (.aload_n 0, 1) := by decide +kernel
theorem dX4_bank_1 : decode cX4_bank 1 = .ok (.iconst 0, 1) := by decide +kernel
theorem dX4_bank_2 : decode cX4_bank 2 = .ok (.putfield 39, 3) := by decide +kernel
theorem dX4_bank_5 : decode cX4_bank 5 = .ok (.aload_n 0, 1) := by decide +kernel
theorem dX4_bank_6 : decode cX4_bank 6 = .ok (.iload_n 1, 1) := by decide +kernel
theorem dX4_bank_7 : decode cX4_bank 7 = .ok (.ifCond .eq 10, 3) := by decide +kernel
theorem dX4_bank_10 : decode cX4_bank 10 = .ok (.aload_n 0, 1) := by decide +kernel
theorem dX4_bank_11 : decode cX4_bank 11 = .ok (.getfield 109, 3) := by decide +kernel
theorem dX4_bank_14 : decode cX4_bank 14 = .ok (.goto 9, 3) := by decide +kernel
theorem dX4_bank_17 : decode cX4_bank 17 = .ok (.iconst 1, 1) := by decide +kernel
theorem dX4_bank_18 : decode cX4_bank 18 = .ok (.aload_n 0, 1) := by decide +kernel
theorem dX4_bank_19 : decode cX4_bank 19 = .ok (.getfield 109, 3) := by decide +kernel
theorem dX4_bank_22 : decode cX4_bank 22 = .ok (.isub, 1) := by decide +kernel
theorem dX4_bank_23 : decode cX4_bank 23 = .ok (.putfield 109, 3) := by decide +kernel
theorem dX4_bank_26 : decode cX4_bank 26 = .ok (.aload_n 0, 1) := by decide +kernel
theorem dX4_bank_27 : decode cX4_bank 27 = .ok (.getfield 109, 3) := by decide +kernel
theorem dX4_bank_30 : decode cX4_bank 30 = .ok (.ireturn, 1) := by decide +kernel
theorem dX4_time_0 : decode cX4_time 0 = .ok (.aload_n 0, 1) := by decide +kernel
theorem dX4_time_1 : decode cX4_time 1 = .ok (.iconst 0, 1) := by decide +kernel
theorem dX4_time_2 : decode cX4_time 2 = .ok (.putfield 39, 3) := by decide +kernel
theorem dX4_time_5 : decode cX4_time 5 = .ok (.iload_n 1, 1) := by decide +kernel
theorem dX4_time_6 : decode cX4_time 6 = .ok (.ifCond .lt 9, 3) := by decide +kernel
theorem dX4_time_9 : decode cX4_time 9 = .ok (.iload_n 1, 1) := by decide +kernel
theorem dX4_time_10 : decode cX4_time 10 = .ok (.bipush 6, 2) := by decide +kernel
theorem dX4_time_12 : decode cX4_time 12 = .ok (.if_icmp .le 7, 3) := by decide +kernel
theorem dX4_time_15 : decode cX4_time 15 = .ok (.ldc2_w 128, 3) := by decide +kernel
theorem dX4_time_18 : decode cX4_time 18 = .ok (.lreturn, 1) := by decide +kernel
theorem dX4_time_19 : decode cX4_time 19 = .ok (.iload_n 1, 1) := by decide +kernel
theorem dX4_time_20 : decode cX4_time 20 = .ok (.iconst 3, 1) := by decide +kernel
theorem dX4_time_21 : decode cX4_time 21 = .ok (.if_icmp .ge 31, 3) := by decide +kernel
theorem dX4_time_24 : decode cX4_time 24 = .ok (.iload_n 1, 1) := by decide +kernel
theorem dX4_time_25 : decode cX4_time 25 = .ok (.ifCond .ne 10, 3) := by decide +kernel
theorem dX4_time_28 : decode cX4_time 28 = .ok (.aload_n 0, 1) := by decide +kernel
theorem dX4_time_29 : decode cX4_time 29 = .ok (.getfield 50, 3) := by decide +kernel
theorem dX4_time_32 : decode cX4_time 32 = .ok (.goto 19, 3) := by decide +kernel
theorem dX4_time_35 : decode cX4_time 35 = .ok (.iload_n 1, 1) := by decide +kernel
theorem dX4_time_36 : decode cX4_time 36 = .ok (.iconst 1, 1) := by decide +kernel
theorem dX4_time_37 : decode cX4_time 37 = .ok (.if_icmp .ne 10, 3) := by decide +kernel
theorem dX4_time_40 : decode cX4_time 40 = .ok (.aload_n 0, 1) := by decide +kernel
theorem dX4_time_41 : decode cX4_time 41 = .ok (.getfield 115, 3) := by decide +kernel
theorem dX4_time_44 : decode cX4_time 44 = .ok (.goto 7, 3) := by decide +kernel
theorem dX4_time_47 : decode cX4_time 47 = .ok (.aload_n 0, 1) := by decide +kernel
theorem dX4_time_48 : decode cX4_time 48 = .ok (.getfield 57, 3) := by decide +kernel
theorem dX4_time_51 : decode cX4_time 51 = .ok (.lreturn, 1) := by decide +kernel
theorem dX4_time_52 : decode cX4_time 52 = .ok (.iload_n 1, 1) := by decide +kernel
theorem dX4_time_53 : decode cX4_time 53 = .ok (.iconst 3, 1) := by decide +kernel
theorem dX4_time_54 : decode cX4_time 54 = .ok (.if_icmp .ne 10, 3) := by decide +kernel
theorem dX4_time_57 : decode cX4_time 57 = .ok (.aload_n 0, 1) := by decide +kernel
theorem dX4_time_58 : decode cX4_time 58 = .ok (.getfield 66, 3) := by decide +kernel
theorem dX4_time_61 : decode cX4_time 61 = .ok (.goto 32, 3) := by decide +kernel
theorem dX4_time_64 : decode cX4_time 64 = .ok (.iload_n 1, 1) := by decide +kernel
theorem dX4_time_65 : decode cX4_time 65 = .ok (.iconst 4, 1) := by decide +kernel
theorem dX4_time_66 : decode cX4_time 66 = .ok (.if_icmp .ne 10, 3) := by decide +kernel
theorem dX4_time_69 : decode cX4_time 69 = .ok (.aload_n 0, 1) := by decide +kernel
theorem dX4_time_70 : decode cX4_time 70 = .ok (.getfield 106, 3) := by decide +kernel
theorem dX4_time_73 : decode cX4_time 73 = .ok (.goto 20, 3) := by decide +kernel
theorem dX4_time_76 : decode cX4_time 76 = .ok (.iload_n 1, 1) := by decide +kernel
theorem dX4_time_77 : decode cX4_time 77 = .ok (.iconst 5, 1) := by decide +kernel
theorem dX4_time_78 : decode cX4_time 78 = .ok (.if_icmp .ne 10, 3) := by decide +kernel
theorem dX4_time_81 : decode cX4_time 81 = .ok (.aload_n 0, 1) := by decide +kernel
theorem dX4_time_82 : decode cX4_time 82 = .ok (.getfield 118, 3) := by decide +kernel
theorem dX4_time_85 : decode cX4_time 85 = .ok (.goto 8, 3) := by decide +kernel
theorem dX4_time_88 : decode cX4_time 88 = .ok (.aload_n 0, 1) := by decide +kernel
theorem dX4_time_89 : decode cX4_time 89 = .ok (.getfield 112, 3) := by decide +kernel
theorem dX4_time_92 : decode cX4_time 92 = .ok (.i2l, 1) := by decide +kernel
theorem dX4_time_93 : decode cX4_time 93 = .ok (.lreturn, 1) := by decide +kernel
theorem dX4_order_0 : decode cX4_order 0 = .ok (.aload_n 0, 1) := by decide +kernel
theorem dX4_order_1 : decode cX4_order 1 = .ok (.iconst 0, 1) := by decide +kernel
theorem dX4_order_2 : decode cX4_order 2 = .ok (.putfield 39, 3) := by decide +kernel
theorem dX4_order_5 : decode cX4_order 5 = .ok (.iload_n 1, 1) := by decide +kernel
theorem dX4_order_6 : decode cX4_order 6 = .ok (.ifCond .lt 11, 3) := by decide +kernel
theorem dX4_order_9 : decode cX4_order 9 = .ok (.iload_n 1, 1) := by decide +kernel
theorem dX4_order_10 : decode cX4_order 10 = .ok (.aload_n 0, 1) := by decide +kernel
theorem dX4_order_11 : decode cX4_order 11 = .ok (.getfield 121, 3) := by decide +kernel
theorem dX4_order_14 : decode cX4_order 14 = .ok (.if_icmp .lt 7, 3) := by decide +kernel
theorem dX4_order_17 : decode cX4_order 17 = .ok (.iconst 0, 1) := by decide +kernel
theorem dX4_order_18 : decode cX4_order 18 = .ok (.goto 9, 3) := by decide +kernel
theorem dX4_order_21 : decode cX4_order 21 = .ok (.aload_n 0, 1) := by decide +kernel
theorem dX4_order_22 : decode cX4_order 22 = .ok (.getfield 36, 3) := by decide +kernel
theorem dX4_order_25 : decode cX4_order 25 = .ok (.iload_n 1, 1) := by decide +kernel
theorem dX4_order_26 : decode cX4_order 26 = .ok (.iaload, 1) := by decide +kernel
end
section
theorem dX4_order_27 : decode cX4_order 27 = .ok (.ireturn, 1) := by decide +kernel
theorem dJx00060_init_a7421_0 : decode cJx00060_init_a7421 0 = .ok (.aload_n 0, 1) := by decide +kernel
theorem dJx00060_init_a7421_1 : decode cJx00060_init_a7421 1 = .ok (.aload_n 1, 1) := by decide +kernel
theorem dJx00060_init_a7421_2 : decode cJx00060_init_a7421 2 = .ok (.invokespecial 7, 3) := by decide +kernel
theorem dJx00060_init_a7421_5 : decode cJx00060_init_a7421 5 = .ok (.return_, 1) := by decide +kernel
set_option maxRecDepth 20000 in
theorem ggL_kept_X3_kept : GoodIn wsL_kept wsX3_kept := goodIn_ca (goodIn_r _ [6, 7, 8, 9, 10, 11, 12, 13, 14, 15, 16, 17, 18, 19, 20, 21, 22, 23, 24, 25, 26, 27, 28, 29, 30, 31, 32, 33, 34, 35, 36, 37, 38, 39, 40, 41, 42, 43, 44, 45, 46, 47, 48, 49, 50, 51, 52, 53] (by decide +kernel) (by decide +kernel)) (goodIn_sub (fun _ h => List.mem_cons_of_mem _ (List.mem_append_right _ h)) (by decide +kernel))
set_option maxRecDepth 20000 in
theorem gL_kept_X3_kept : GoodIn wsL_kept (wsV RL 7 RX3 yX3_kept wsX3_kept) := goodIn_app (goodIn_of _ (by decide +kernel)) ggL_kept_X3_kept
theorem dL_kept_0 : decode cL_kept 0 = .ok (.aload_n 3, 1) := by decide +kernel
theorem dL_kept_1 : decode cL_kept 1 = .ok (.iconst 0, 1) := by decide +kernel
theorem dL_kept_2 : decode cL_kept 2 = .ok (.aload_n 0, 1) := by decide +kernel
theorem dL_kept_3 : decode cL_kept 3 = .ok (.iload_n 1, 1) := by decide +kernel
theorem dL_kept_4 : decode cL_kept 4 = .ok (.iload_n 2, 1) := by decide +kernel
theorem dL_kept_5 : decode cL_kept 5 = .ok (.invokevirtual 7, 3) := by decide +kernel
theorem dL_kept_8 : decode cL_kept 8 = .ok (.i2l, 1) := by decide +kernel
theorem dL_kept_9 : decode cL_kept 9 = .ok (.lastore, 1) := by decide +kernel
theorem dL_kept_10 : decode cL_kept 10 = .ok (.goto 7, 3) := by decide +kernel
theorem dL_kept_13 : decode cL_kept 13 = .ok (.astore 4, 2) := by decide +kernel
theorem dL_kept_15 : decode cL_kept 15 = .ok (.iconst 1, 1) := by decide +kernel
theorem dL_kept_16 : decode cL_kept 16 = .ok (.ireturn, 1) := by decide +kernel
theorem dL_kept_17 : decode cL_kept 17 = .ok (.iconst 0, 1) := by decide +kernel
theorem dL_kept_18 : decode cL_kept 18 = .ok (.ireturn, 1) := by decide +kernel
set_option maxRecDepth 20000 in
theorem ggL_law_X3_init : GoodIn wsL_law wsX3_init := goodIn_r _ [10, 11, 12, 13, 14, 15, 16, 17, 18, 19, 20, 21, 22, 23, 24, 25, 26, 27, 28, 29, 30, 31, 32, 33, 34, 35, 36, 37, 38, 39, 40, 41, 42, 43, 44, 45, 46, 47, 48, 49, 50, 51, 52, 53, 54, 55, 432, 433, 395, 396, 397, 398, 399, 400, 401, 402, 403, 404, 405, 406, 407, 408, 434, 435, 436, 437, 438, 439, 440, 441, 442, 443] (by decide +kernel) (by decide +kernel)
set_option maxRecDepth 20000 in
theorem gL_law_X3_init : GoodIn wsL_law (wsX3_init) := ggL_law_X3_init
set_option maxRecDepth 20000 in
theorem ggL_law_X4_init : GoodIn wsL_law wsX4_init := goodIn_r _ [58, 59, 12, 13, 40, 60, 61, 45, 62, 34, 63, 64, 65, 66, 67, 68, 409, 410, 411, 412, 413, 414, 415, 416, 417, 418, 419, 420, 421, 422, 423, 424, 425, 426, 427, 428, 429, 430, 431] (by decide +kernel) (by decide +kernel)
set_option maxRecDepth 20000 in
theorem gL_law_X4_init : GoodIn wsL_law (wsX4_init) := ggL_law_X4_init
set_option maxRecDepth 20000 in
theorem ggL_law_X3_user : GoodIn wsL_law wsX3_user := goodIn_r _ [72, 17, 73, 74, 75, 16, 76, 77, 395, 396, 397, 398, 399, 400, 401, 402, 403, 404, 405, 406, 407, 408, 432, 433] (by decide +kernel) (by decide +kernel)
set_option maxRecDepth 20000 in
theorem gL_law_X3_user : GoodIn wsL_law (wsV RL 19 RX3 yX3_user wsX3_user) := goodIn_app (goodIn_of _ (by decide +kernel)) ggL_law_X3_user
set_option maxRecDepth 20000 in
theorem ggL_law_X4_user : GoodIn wsL_law wsX4_user := goodIn_ca (goodIn_r _ [81, 82, 64, 409, 410, 411, 412, 413, 414, 415, 416, 417, 418, 419, 420, 421, 422, 423, 424, 425, 426, 427, 428, 429, 430, 431] (by decide +kernel) (by decide +kernel)) (goodIn_sub (fun _ h => List.mem_append_right _ h) (by decide +kernel))
set_option maxRecDepth 20000 in
theorem gL_law_X4_user : GoodIn wsL_law (wsV RL 23 RX4 yX4_user wsX4_user) := goodIn_app (goodIn_of _ (by decide +kernel)) ggL_law_X4_user
set_option maxRecDepth 20000 in
theorem ggL_law_X3_request : GoodIn wsL_law wsX3_request := goodIn_ca (goodIn_r _ [86, 26, 17, 87, 88, 16, 89, 90, 91, 92, 93, 35, 77, 94, 95, 96, 97, 2, 98, 99, 100, 27, 28, 73, 74, 75, 76, 395, 396, 397, 398, 399, 400, 401, 402, 403, 404, 405, 406, 407, 408, 432, 433] (by decide +kernel) (by decide +kernel)) (goodIn_sub (fun _ h => List.mem_append_right _ h) (by decide +kernel))
set_option maxRecDepth 20000 in
theorem gL_law_X3_request : GoodIn wsL_law (wsV RL 24 RX3 yX3_request wsX3_request) := goodIn_app (goodIn_of _ (by decide +kernel)) ggL_law_X3_request
set_option maxRecDepth 20000 in
theorem ggL_law_X4_request : GoodIn wsL_law wsX4_request := goodIn_ca (goodIn_r _ [104, 82, 105, 64, 106, 107, 108, 79, 80, 5, 81, 409, 410, 411, 412, 413, 414, 415, 416, 417, 418, 419, 420, 421, 422, 423, 424, 425, 426, 427, 428, 429, 430, 431] (by decide +kernel) (by decide +kernel)) (goodIn_sub (fun _ h => List.mem_append_right _ h) (by decide +kernel))
set_option maxRecDepth 20000 in
theorem gL_law_X4_request : GoodIn wsL_law (wsV RL 28 RX4 yX4_request wsX4_request) := goodIn_app (goodIn_of _ (by decide +kernel)) ggL_law_X4_request
set_option maxRecDepth 20000 in
theorem ggL_law_X3_wake : GoodIn wsL_law wsX3_wake := goodIn_r _ [112, 26, 113, 114, 115, 2, 116, 95, 96, 97, 98, 17, 99, 100, 27, 28, 73, 74, 75, 16, 76, 77, 117, 118, 119, 120, 121, 122, 123, 124, 125, 126, 395, 396, 397, 398, 399, 400, 401, 402, 403, 404, 405, 406, 407, 408, 432, 433] (by decide +kernel) (by decide +kernel)
set_option maxRecDepth 20000 in
theorem gL_law_X3_wake : GoodIn wsL_law (wsV RL 29 RX3 yX3_wake wsX3_wake) := goodIn_app (goodIn_of _ (by decide +kernel)) ggL_law_X3_wake
set_option maxRecDepth 20000 in
theorem ggL_law_X4_wake : GoodIn wsL_law wsX4_wake := goodIn_r _ [130, 82, 105, 106, 131, 132, 133, 134, 135, 5, 136, 107, 409, 410, 411, 412, 413, 414, 415, 416, 417, 418, 419, 420, 421, 422, 423, 424, 425, 426, 427, 428, 429, 430, 431] (by decide +kernel) (by decide +kernel)
set_option maxRecDepth 20000 in
theorem gL_law_X4_wake : GoodIn wsL_law (wsV RL 32 RX4 yX4_wake wsX4_wake) := goodIn_app (goodIn_of _ (by decide +kernel)) ggL_law_X4_wake
set_option maxRecDepth 20000 in
theorem ggL_law_X3_step : GoodIn wsL_law wsX3_step := goodIn_ca (goodIn_r _ [140, 26, 141, 142, 143, 2, 144, 99, 145, 146, 147, 148, 149, 28, 27, 150, 151, 152, 153, 154, 155, 156, 157, 21, 29, 158, 159, 160, 161, 20, 162, 47, 163, 164, 165, 166, 167, 123, 124, 125, 126, 168, 169, 170, 171, 46, 172, 173, 174, 175, 176, 177, 178, 179, 180, 181, 182, 17, 183, 184, 185, 186, 41, 43, 187, 188, 189, 190, 73, 74, 75, 16, 76, 77, 113, 114, 115, 116, 95, 96, 97, 98, 100, 395, 396, 397, 398, 399, 400, 401, 402, 403, 404, 405, 406, 407, 408, 434, 435, 436, 437, 432, 433] (by decide +kernel) (by decide +kernel)) (goodIn_sub (fun _ h => List.mem_append_right _ h) (by decide +kernel))
set_option maxRecDepth 20000 in
theorem gL_law_X3_step : GoodIn wsL_law (wsV RL 35 RX3 yX3_step wsX3_step) := goodIn_app (goodIn_of _ (by decide +kernel)) ggL_law_X3_step
set_option maxRecDepth 20000 in
theorem ggL_law_X4_step : GoodIn wsL_law wsX4_step := goodIn_ca (goodIn_r _ [194, 82, 106, 195, 105, 196, 197, 198, 5, 199, 200, 201, 202, 203, 107, 204, 205, 131, 206, 207, 108, 79, 80, 81, 64, 208, 209, 210, 211, 63, 212, 213, 214, 215, 216, 62, 217, 218, 219, 220, 221, 222, 223, 224, 61, 60, 133, 134, 135, 136, 225, 226, 227, 228, 229, 409, 410, 411, 412, 413, 414, 415, 416, 417, 418, 419, 420, 421, 422, 423, 424, 425, 426, 427, 428, 429, 430, 431] (by decide +kernel) (by decide +kernel)) (goodIn_sub (fun _ h => List.mem_append_right _ h) (by decide +kernel))
set_option maxRecDepth 20000 in
theorem gL_law_X4_step : GoodIn wsL_law (wsV RL 39 RX4 yX4_step wsX4_step) := goodIn_app (goodIn_of _ (by decide +kernel)) ggL_law_X4_step
set_option maxRecDepth 20000 in
theorem ggL_law_X3_init_ : GoodIn wsL_law wsX3_init_ := goodIn_ca (goodIn_r _ [233, 26, 25, 234, 235, 24, 236, 237, 238, 239, 240, 52, 241, 53, 54, 242, 243, 244, 245, 246, 395, 396, 397, 398, 399, 400, 401, 402, 403, 404, 405, 406, 407, 408, 438, 439, 440, 441, 442, 443] (by decide +kernel) (by decide +kernel)) (goodIn_sub (fun _ h => List.mem_append_right _ h) (by decide +kernel))
set_option maxRecDepth 20000 in
theorem gL_law_X3_init_ : GoodIn wsL_law (wsV RL 40 RX3 yX3_init_ wsX3_init_) := goodIn_app (goodIn_of _ (by decide +kernel)) ggL_law_X3_init_
set_option maxRecDepth 20000 in
theorem ggL_law_X4_init_ : GoodIn wsL_law wsX4_init_ := goodIn_ca (goodIn_r _ [250, 82, 105, 65, 66, 67, 409, 410, 411, 412, 413, 414, 415, 416, 417, 418, 419, 420, 421, 422, 423, 424, 425, 426, 427, 428, 429, 430, 431] (by decide +kernel) (by decide +kernel)) (goodIn_sub (fun _ h => List.mem_append_right _ h) (by decide +kernel))
set_option maxRecDepth 20000 in
theorem gL_law_X4_init_ : GoodIn wsL_law (wsV RL 44 RX4 yX4_init_ wsX4_init_) := goodIn_app (goodIn_of _ (by decide +kernel)) ggL_law_X4_init_
set_option maxRecDepth 20000 in
theorem ggL_law_X3_block : GoodIn wsL_law wsX3_block := goodIn_ca (goodIn_r _ [254, 21, 255, 173, 20, 174, 256, 257, 258, 259, 47, 172, 395, 396, 397, 398, 399, 400, 401, 402, 403, 404, 405, 406, 407, 408, 434, 435, 436, 437] (by decide +kernel) (by decide +kernel)) (goodIn_sub (fun _ h => List.mem_append_right _ h) (by decide +kernel))
set_option maxRecDepth 20000 in
theorem gL_law_X3_block : GoodIn wsL_law (wsV RL 45 RX3 yX3_block wsX3_block) := goodIn_app (goodIn_of _ (by decide +kernel)) ggL_law_X3_block
set_option maxRecDepth 20000 in
theorem ggL_law_X4_block : GoodIn wsL_law wsX4_block := goodIn_ca (goodIn_r _ [263, 82, 63, 409, 410, 411, 412, 413, 414, 415, 416, 417, 418, 419, 420, 421, 422, 423, 424, 425, 426, 427, 428, 429, 430, 431] (by decide +kernel) (by decide +kernel)) (goodIn_sub (fun _ h => List.mem_append_right _ h) (by decide +kernel))
set_option maxRecDepth 20000 in
theorem gL_law_X4_block : GoodIn wsL_law (wsV RL 49 RX4 yX4_block wsX4_block) := goodIn_app (goodIn_of _ (by decide +kernel)) ggL_law_X4_block
set_option maxRecDepth 20000 in
theorem ggL_law_X3_write : GoodIn wsL_law wsX3_write := goodIn_ca (goodIn_r _ [267, 26, 21, 255, 173, 20, 174, 268, 269, 270, 271, 272, 273, 274, 41, 47, 172, 275, 395, 396, 397, 398, 399, 400, 401, 402, 403, 404, 405, 406, 407, 408, 434, 435, 436, 437] (by decide +kernel) (by decide +kernel)) (goodIn_sub (fun _ h => List.mem_append_right _ h) (by decide +kernel))
set_option maxRecDepth 20000 in
theorem gL_law_X3_write : GoodIn wsL_law (wsV RL 50 RX3 yX3_write wsX3_write) := goodIn_app (goodIn_of _ (by decide +kernel)) ggL_law_X3_write
set_option maxRecDepth 20000 in
theorem ggL_law_X4_write : GoodIn wsL_law wsX4_write := goodIn_ca (goodIn_r _ [279, 82, 105, 60, 63, 409, 410, 411, 412, 413, 414, 415, 416, 417, 418, 419, 420, 421, 422, 423, 424, 425, 426, 427, 428, 429, 430, 431] (by decide +kernel) (by decide +kernel)) (goodIn_sub (fun _ h => List.mem_append_right _ h) (by decide +kernel))
set_option maxRecDepth 20000 in
theorem gL_law_X4_write : GoodIn wsL_law (wsV RL 54 RX4 yX4_write wsX4_write) := goodIn_app (goodIn_of _ (by decide +kernel)) ggL_law_X4_write
set_option maxRecDepth 20000 in
theorem ggL_law_X3_cut : GoodIn wsL_law wsX3_cut := goodIn_ca (goodIn_r _ [283, 26, 284, 29, 27, 21, 141, 142, 143, 2, 144, 99, 145, 146, 147, 148, 149, 28, 150, 151, 152, 153, 154, 155, 156, 157, 158, 159, 160, 161, 20, 162, 47, 163, 164, 165, 166, 167, 123, 124, 125, 126, 168, 169, 170, 171, 46, 172, 173, 174, 175, 176, 177, 178, 179, 180, 181, 182, 17, 183, 184, 185, 186, 41, 43, 187, 188, 189, 190, 73, 74, 75, 16, 76, 77, 113, 114, 115, 116, 95, 96, 97, 98, 100, 285, 286, 287, 288, 395, 396, 397, 398, 399, 400, 401, 402, 403, 404, 405, 406, 407, 408, 434, 435, 436, 437, 432, 433] (by decide +kernel) (by decide +kernel)) (goodIn_sub (fun _ h => List.mem_append_right _ h) (by decide +kernel))
set_option maxRecDepth 20000 in
theorem gL_law_X3_cut : GoodIn wsL_law (wsV RL 55 RX3 yX3_cut wsX3_cut) := goodIn_app (goodIn_of _ (by decide +kernel)) ggL_law_X3_cut
set_option maxRecDepth 20000 in
theorem ggL_law_X4_cut : GoodIn wsL_law wsX4_cut := goodIn_ca (goodIn_r _ [292, 82, 106, 195, 105, 293, 63, 196, 197, 198, 5, 199, 200, 201, 202, 203, 107, 204, 205, 131, 206, 207, 108, 79, 80, 81, 64, 208, 209, 210, 211, 212, 213, 214, 215, 216, 62, 217, 218, 219, 220, 221, 222, 223, 224, 61, 60, 133, 134, 135, 136, 225, 226, 227, 228, 229, 409, 410, 411, 412, 413, 414, 415, 416, 417, 418, 419, 420, 421, 422, 423, 424, 425, 426, 427, 428, 429, 430, 431] (by decide +kernel) (by decide +kernel)) (goodIn_sub (fun _ h => List.mem_append_right _ h) (by decide +kernel))
set_option maxRecDepth 20000 in
theorem gL_law_X4_cut : GoodIn wsL_law (wsV RL 58 RX4 yX4_cut wsX4_cut) := goodIn_app (goodIn_of _ (by decide +kernel)) ggL_law_X4_cut
set_option maxRecDepth 20000 in
theorem ggL_law_X3_start : GoodIn wsL_law wsX3_start := goodIn_ca (goodIn_r _ [297, 26, 298, 99, 299, 300, 301, 21, 17, 25, 27, 302, 303, 304, 20, 305, 43, 41, 187, 188, 189, 190, 47, 175, 176, 177, 178, 46, 306, 307, 308, 16, 309, 35, 77, 310, 311, 312, 24, 313, 314, 54, 315, 316, 317, 318, 52, 53, 319, 320, 321, 322, 55, 242, 235, 236, 323, 324, 325, 326, 327, 328, 329, 330, 113, 114, 115, 2, 116, 95, 96, 97, 98, 100, 28, 73, 74, 75, 76, 123, 124, 125, 126, 395, 396, 397, 398, 399, 400, 401, 402, 403, 404, 405, 406, 407, 408, 434, 435, 436, 437, 432, 433, 438, 439, 440, 441, 442, 443] (by decide +kernel) (by decide +kernel)) (goodIn_sub (fun _ h => List.mem_append_right _ h) (by decide +kernel))
set_option maxRecDepth 20000 in
theorem gL_law_X3_start : GoodIn wsL_law (wsV RL 59 RX3 yX3_start wsX3_start) := goodIn_app (goodIn_of _ (by decide +kernel)) ggL_law_X3_start
set_option maxRecDepth 20000 in
theorem ggL_law_X4_start : GoodIn wsL_law wsX4_start := goodIn_ca (goodIn_r _ [334, 82, 105, 335, 336, 337, 106, 338, 63, 60, 61, 64, 339, 68, 67, 66, 217, 218, 219, 5, 220, 62, 340, 341, 342, 343, 65, 133, 134, 135, 136, 107, 409, 410, 411, 412, 413, 414, 415, 416, 417, 418, 419, 420, 421, 422, 423, 424, 425, 426, 427, 428, 429, 430, 431] (by decide +kernel) (by decide +kernel)) (goodIn_sub (fun _ h => List.mem_append_right _ h) (by decide +kernel))
set_option maxRecDepth 20000 in
theorem gL_law_X4_start : GoodIn wsL_law (wsV RL 62 RX4 yX4_start wsX4_start) := goodIn_app (goodIn_of _ (by decide +kernel)) ggL_law_X4_start
set_option maxRecDepth 20000 in
theorem ggL_law_L_kept : GoodIn wsL_law wsL_kept := goodIn_ca (goodIn_r _ [347, 348, 349, 350, 351, 2, 352, 353, 354, 355, 21, 255, 173, 20, 174, 268, 269, 270, 356, 357, 358, 359, 43, 172, 275, 175, 176, 177, 178, 46, 444, 445, 446, 447, 448, 449, 395, 396, 397, 398, 399, 400, 401, 402, 403, 404, 405, 406, 407, 408, 434, 435, 436, 437] (by decide +kernel) (by decide +kernel)) (goodIn_sub (fun _ h => List.mem_append_right _ h) (by decide +kernel))
set_option maxRecDepth 20000 in
theorem gL_law_L_kept : GoodIn wsL_law (va_wsS RL 63 yL_kept wsL_kept) := goodIn_app (goodIn_of _ (by decide +kernel)) ggL_law_L_kept
set_option maxRecDepth 20000 in
theorem ggL_law_X4_kept : GoodIn wsL_law wsX4_kept := goodIn_ca (goodIn_r _ [363, 82, 61, 217, 218, 219, 5, 220, 62, 409, 410, 411, 412, 413, 414, 415, 416, 417, 418, 419, 420, 421, 422, 423, 424, 425, 426, 427, 428, 429, 430, 431] (by decide +kernel) (by decide +kernel)) (goodIn_sub (fun _ h => List.mem_append_right _ h) (by decide +kernel))
set_option maxRecDepth 20000 in
theorem gL_law_X4_kept : GoodIn wsL_law (wsV RL 68 RX4 yX4_kept wsX4_kept) := goodIn_app (goodIn_of _ (by decide +kernel)) ggL_law_X4_kept
set_option maxRecDepth 20000 in
theorem ggL_law_X4_thrown : GoodIn wsL_law wsX4_thrown := goodIn_r _ [367, 82, 409, 410, 411, 412, 413, 414, 415, 416, 417, 418, 419, 420, 421, 422, 423, 424, 425, 426, 427, 428, 429, 430, 431] (by decide +kernel) (by decide +kernel)
set_option maxRecDepth 20000 in
theorem gL_law_X4_thrown : GoodIn wsL_law (wsV RL 69 RX4 yX4_thrown wsX4_thrown) := goodIn_app (goodIn_of _ (by decide +kernel)) ggL_law_X4_thrown
set_option maxRecDepth 20000 in
theorem ggL_law_X3_bank : GoodIn wsL_law wsX3_bank := goodIn_r _ [371, 300, 395, 396, 397, 398, 399, 400, 401, 402, 403, 404, 405, 406, 407, 408] (by decide +kernel) (by decide +kernel)
set_option maxRecDepth 20000 in
theorem gL_law_X3_bank : GoodIn wsL_law (wsV RL 72 RX3 yX3_bank wsX3_bank) := goodIn_app (goodIn_of _ (by decide +kernel)) ggL_law_X3_bank
set_option maxRecDepth 20000 in
theorem ggL_law_X4_bank : GoodIn wsL_law wsX4_bank := goodIn_r _ [375, 82, 335, 409, 410, 411, 412, 413, 414, 415, 416, 417, 418, 419, 420, 421, 422, 423, 424, 425, 426, 427, 428, 429, 430, 431] (by decide +kernel) (by decide +kernel)
set_option maxRecDepth 20000 in
theorem gL_law_X4_bank : GoodIn wsL_law (wsV RL 76 RX4 yX4_bank wsX4_bank) := goodIn_app (goodIn_of _ (by decide +kernel)) ggL_law_X4_bank
set_option maxRecDepth 20000 in
theorem ggL_law_X3_time : GoodIn wsL_law wsX3_time := goodIn_r _ [379, 99, 298, 167, 121, 284, 299, 301, 380, 395, 396, 397, 398, 399, 400, 401, 402, 403, 404, 405, 406, 407, 408] (by decide +kernel) (by decide +kernel)
set_option maxRecDepth 20000 in
theorem gL_law_X3_time : GoodIn wsL_law (wsV RL 77 RX3 yX3_time wsX3_time) := goodIn_app (goodIn_of _ (by decide +kernel)) ggL_law_X3_time
set_option maxRecDepth 20000 in
theorem ggL_law_X4_time : GoodIn wsL_law wsX4_time := goodIn_r _ [384, 82, 385, 106, 337, 229, 132, 293, 338, 336, 409, 410, 411, 412, 413, 414, 415, 416, 417, 418, 419, 420, 421, 422, 423, 424, 425, 426, 427, 428, 429, 430, 431] (by decide +kernel) (by decide +kernel)
set_option maxRecDepth 20000 in
theorem gL_law_X4_time : GoodIn wsL_law (wsV RL 81 RX4 yX4_time wsX4_time) := goodIn_app (goodIn_of _ (by decide +kernel)) ggL_law_X4_time
set_option maxRecDepth 20000 in
theorem ggL_law_X3_order : GoodIn wsL_law wsX3_order := goodIn_ca (goodIn_r _ [389, 25, 390, 328, 329, 24, 330, 314, 55, 395, 396, 397, 398, 399, 400, 401, 402, 403, 404, 405, 406, 407, 408, 438, 439, 440, 441, 442, 443] (by decide +kernel) (by decide +kernel)) (goodIn_sub (fun _ h => List.mem_append_right _ h) (by decide +kernel))
set_option maxRecDepth 20000 in
theorem gL_law_X3_order : GoodIn wsL_law (wsV RL 82 RX3 yX3_order wsX3_order) := goodIn_app (goodIn_of _ (by decide +kernel)) ggL_law_X3_order
set_option maxRecDepth 20000 in
theorem ggL_law_X4_order : GoodIn wsL_law wsX4_order := goodIn_ca (goodIn_r _ [394, 82, 339, 68, 409, 410, 411, 412, 413, 414, 415, 416, 417, 418, 419, 420, 421, 422, 423, 424, 425, 426, 427, 428, 429, 430, 431] (by decide +kernel) (by decide +kernel)) (goodIn_sub (fun _ h => List.mem_append_right _ h) (by decide +kernel))
set_option maxRecDepth 20000 in
theorem gL_law_X4_order : GoodIn wsL_law (wsV RL 85 RX4 yX4_order wsX4_order) := goodIn_app (goodIn_of _ (by decide +kernel)) ggL_law_X4_order
theorem dL_law_0 : decode cL_law 0 = .ok (.new 8, 3) := by decide +kernel
theorem dL_law_3 : decode cL_law 3 = .ok (.dup, 1) := by decide +kernel
theorem dL_law_4 : decode cL_law 4 = .ok (.invokespecial 15, 3) := by decide +kernel
theorem dL_law_7 : decode cL_law 7 = .ok (.astore_n 1, 1) := by decide +kernel
theorem dL_law_8 : decode cL_law 8 = .ok (.new 16, 3) := by decide +kernel
theorem dL_law_11 : decode cL_law 11 = .ok (.dup, 1) := by decide +kernel
theorem dL_law_12 : decode cL_law 12 = .ok (.invokespecial 18, 3) := by decide +kernel
theorem dL_law_15 : decode cL_law 15 = .ok (.astore_n 2, 1) := by decide +kernel
theorem dL_law_16 : decode cL_law 16 = .ok (.iconst 1, 1) := by decide +kernel
theorem dL_law_17 : decode cL_law 17 = .ok (.newarray .long, 2) := by decide +kernel
theorem dL_law_19 : decode cL_law 19 = .ok (.astore_n 3, 1) := by decide +kernel
theorem dL_law_20 : decode cL_law 20 = .ok (.iconst 0, 1) := by decide +kernel
theorem dL_law_21 : decode cL_law 21 = .ok (.istore 4, 2) := by decide +kernel
theorem dL_law_23 : decode cL_law 23 = .ok (.iload 4, 2) := by decide +kernel
theorem dL_law_25 : decode cL_law 25 = .ok (.aload_n 0, 1) := by decide +kernel
theorem dL_law_26 : decode cL_law 26 = .ok (.arraylength, 1) := by decide +kernel
theorem dL_law_27 : decode cL_law 27 = .ok (.iconst 4, 1) := by decide +kernel
theorem dL_law_28 : decode cL_law 28 = .ok (.isub, 1) := by decide +kernel
theorem dL_law_29 : decode cL_law 29 = .ok (.if_icmp .gt 628, 3) := by decide +kernel
theorem dL_law_32 : decode cL_law 32 = .ok (.aload_n 0, 1) := by decide +kernel
theorem dL_law_33 : decode cL_law 33 = .ok (.iload 4, 2) := by decide +kernel
theorem dL_law_35 : decode cL_law 35 = .ok (.iaload, 1) := by decide +kernel
theorem dL_law_36 : decode cL_law 36 = .ok (.bipush 15, 2) := by decide +kernel
theorem dL_law_38 : decode cL_law 38 = .ok (.iand, 1) := by decide +kernel
theorem dL_law_39 : decode cL_law 39 = .ok (.tableswitch 612 0 12 #[65, 78, 131, 184, 241, 306, 331, 382, 439, 452, 520, 561, 587], 65) := by decide +kernel
theorem dL_law_104 : decode cL_law 104 = .ok (.aload_n 1, 1) := by decide +kernel
theorem dL_law_105 : decode cL_law 105 = .ok (.invokevirtual 19, 3) := by decide +kernel
theorem dL_law_108 : decode cL_law 108 = .ok (.aload_n 2, 1) := by decide +kernel
theorem dL_law_109 : decode cL_law 109 = .ok (.invokevirtual 23, 3) := by decide +kernel
theorem dL_law_112 : decode cL_law 112 = .ok (.if_icmp .eq 539, 3) := by decide +kernel
theorem dL_law_115 : decode cL_law 115 = .ok (.iconst 0, 1) := by decide +kernel
theorem dL_law_116 : decode cL_law 116 = .ok (.ireturn, 1) := by decide +kernel
theorem dL_law_117 : decode cL_law 117 = .ok (.aload_n 1, 1) := by decide +kernel
theorem dL_law_118 : decode cL_law 118 = .ok (.aload_n 0, 1) := by decide +kernel
theorem dL_law_119 : decode cL_law 119 = .ok (.iload 4, 2) := by decide +kernel
theorem dL_law_121 : decode cL_law 121 = .ok (.iconst 1, 1) := by decide +kernel
theorem dL_law_122 : decode cL_law 122 = .ok (.iadd, 1) := by decide +kernel
theorem dL_law_123 : decode cL_law 123 = .ok (.iaload, 1) := by decide +kernel
theorem dL_law_124 : decode cL_law 124 = .ok (.aload_n 0, 1) := by decide +kernel
theorem dL_law_125 : decode cL_law 125 = .ok (.iload 4, 2) := by decide +kernel
theorem dL_law_127 : decode cL_law 127 = .ok (.iconst 2, 1) := by decide +kernel
theorem dL_law_128 : decode cL_law 128 = .ok (.iadd, 1) := by decide +kernel
theorem dL_law_129 : decode cL_law 129 = .ok (.iaload, 1) := by decide +kernel
theorem dL_law_130 : decode cL_law 130 = .ok (.ifCond .eq 7, 3) := by decide +kernel
theorem dL_law_133 : decode cL_law 133 = .ok (.iconst 1, 1) := by decide +kernel
theorem dL_law_134 : decode cL_law 134 = .ok (.goto 4, 3) := by decide +kernel
theorem dL_law_137 : decode cL_law 137 = .ok (.iconst 0, 1) := by decide +kernel
theorem dL_law_138 : decode cL_law 138 = .ok (.invokevirtual 24, 3) := by decide +kernel
theorem dL_law_141 : decode cL_law 141 = .ok (.aload_n 2, 1) := by decide +kernel
theorem dL_law_142 : decode cL_law 142 = .ok (.aload_n 0, 1) := by decide +kernel
theorem dL_law_143 : decode cL_law 143 = .ok (.iload 4, 2) := by decide +kernel
theorem dL_law_145 : decode cL_law 145 = .ok (.iconst 1, 1) := by decide +kernel
theorem dL_law_146 : decode cL_law 146 = .ok (.iadd, 1) := by decide +kernel
theorem dL_law_147 : decode cL_law 147 = .ok (.iaload, 1) := by decide +kernel
theorem dL_law_148 : decode cL_law 148 = .ok (.aload_n 0, 1) := by decide +kernel
theorem dL_law_149 : decode cL_law 149 = .ok (.iload 4, 2) := by decide +kernel
theorem dL_law_151 : decode cL_law 151 = .ok (.iconst 2, 1) := by decide +kernel
theorem dL_law_152 : decode cL_law 152 = .ok (.iadd, 1) := by decide +kernel
theorem dL_law_153 : decode cL_law 153 = .ok (.iaload, 1) := by decide +kernel
theorem dL_law_154 : decode cL_law 154 = .ok (.ifCond .eq 7, 3) := by decide +kernel
theorem dL_law_157 : decode cL_law 157 = .ok (.iconst 1, 1) := by decide +kernel
theorem dL_law_158 : decode cL_law 158 = .ok (.goto 4, 3) := by decide +kernel
theorem dL_law_161 : decode cL_law 161 = .ok (.iconst 0, 1) := by decide +kernel
theorem dL_law_162 : decode cL_law 162 = .ok (.invokevirtual 28, 3) := by decide +kernel
theorem dL_law_165 : decode cL_law 165 = .ok (.if_icmp .eq 486, 3) := by decide +kernel
theorem dL_law_168 : decode cL_law 168 = .ok (.iconst 0, 1) := by decide +kernel
theorem dL_law_169 : decode cL_law 169 = .ok (.ireturn, 1) := by decide +kernel
theorem dL_law_170 : decode cL_law 170 = .ok (.aload_n 1, 1) := by decide +kernel
theorem dL_law_171 : decode cL_law 171 = .ok (.aload_n 0, 1) := by decide +kernel
theorem dL_law_172 : decode cL_law 172 = .ok (.iload 4, 2) := by decide +kernel
theorem dL_law_174 : decode cL_law 174 = .ok (.iconst 1, 1) := by decide +kernel
theorem dL_law_175 : decode cL_law 175 = .ok (.iadd, 1) := by decide +kernel
theorem dL_law_176 : decode cL_law 176 = .ok (.iaload, 1) := by decide +kernel
theorem dL_law_177 : decode cL_law 177 = .ok (.aload_n 0, 1) := by decide +kernel
theorem dL_law_178 : decode cL_law 178 = .ok (.iload 4, 2) := by decide +kernel
theorem dL_law_180 : decode cL_law 180 = .ok (.iconst 2, 1) := by decide +kernel
theorem dL_law_181 : decode cL_law 181 = .ok (.iadd, 1) := by decide +kernel
theorem dL_law_182 : decode cL_law 182 = .ok (.iaload, 1) := by decide +kernel
theorem dL_law_183 : decode cL_law 183 = .ok (.ifCond .eq 7, 3) := by decide +kernel
theorem dL_law_186 : decode cL_law 186 = .ok (.iconst 1, 1) := by decide +kernel
theorem dL_law_187 : decode cL_law 187 = .ok (.goto 4, 3) := by decide +kernel
theorem dL_law_190 : decode cL_law 190 = .ok (.iconst 0, 1) := by decide +kernel
theorem dL_law_191 : decode cL_law 191 = .ok (.invokevirtual 29, 3) := by decide +kernel
theorem dL_law_194 : decode cL_law 194 = .ok (.aload_n 2, 1) := by decide +kernel
theorem dL_law_195 : decode cL_law 195 = .ok (.aload_n 0, 1) := by decide +kernel
theorem dL_law_196 : decode cL_law 196 = .ok (.iload 4, 2) := by decide +kernel
theorem dL_law_198 : decode cL_law 198 = .ok (.iconst 1, 1) := by decide +kernel
theorem dL_law_199 : decode cL_law 199 = .ok (.iadd, 1) := by decide +kernel
theorem dL_law_200 : decode cL_law 200 = .ok (.iaload, 1) := by decide +kernel
theorem dL_law_201 : decode cL_law 201 = .ok (.aload_n 0, 1) := by decide +kernel
theorem dL_law_202 : decode cL_law 202 = .ok (.iload 4, 2) := by decide +kernel
theorem dL_law_204 : decode cL_law 204 = .ok (.iconst 2, 1) := by decide +kernel
theorem dL_law_205 : decode cL_law 205 = .ok (.iadd, 1) := by decide +kernel
theorem dL_law_206 : decode cL_law 206 = .ok (.iaload, 1) := by decide +kernel
theorem dL_law_207 : decode cL_law 207 = .ok (.ifCond .eq 7, 3) := by decide +kernel
theorem dL_law_210 : decode cL_law 210 = .ok (.iconst 1, 1) := by decide +kernel
theorem dL_law_211 : decode cL_law 211 = .ok (.goto 4, 3) := by decide +kernel
theorem dL_law_214 : decode cL_law 214 = .ok (.iconst 0, 1) := by decide +kernel
theorem dL_law_215 : decode cL_law 215 = .ok (.invokevirtual 32, 3) := by decide +kernel
theorem dL_law_218 : decode cL_law 218 = .ok (.if_icmp .eq 433, 3) := by decide +kernel
theorem dL_law_221 : decode cL_law 221 = .ok (.iconst 0, 1) := by decide +kernel
theorem dL_law_222 : decode cL_law 222 = .ok (.ireturn, 1) := by decide +kernel
theorem dL_law_223 : decode cL_law 223 = .ok (.aload_n 1, 1) := by decide +kernel
theorem dL_law_224 : decode cL_law 224 = .ok (.aload_n 0, 1) := by decide +kernel
theorem dL_law_225 : decode cL_law 225 = .ok (.iload 4, 2) := by decide +kernel
theorem dL_law_227 : decode cL_law 227 = .ok (.iconst 1, 1) := by decide +kernel
theorem dL_law_228 : decode cL_law 228 = .ok (.iadd, 1) := by decide +kernel
theorem dL_law_229 : decode cL_law 229 = .ok (.iaload, 1) := by decide +kernel
theorem dL_law_230 : decode cL_law 230 = .ok (.i2l, 1) := by decide +kernel
theorem dL_law_231 : decode cL_law 231 = .ok (.bipush 32, 2) := by decide +kernel
theorem dL_law_233 : decode cL_law 233 = .ok (.lshl, 1) := by decide +kernel
theorem dL_law_234 : decode cL_law 234 = .ok (.aload_n 0, 1) := by decide +kernel
theorem dL_law_235 : decode cL_law 235 = .ok (.iload 4, 2) := by decide +kernel
theorem dL_law_237 : decode cL_law 237 = .ok (.iconst 2, 1) := by decide +kernel
theorem dL_law_238 : decode cL_law 238 = .ok (.iadd, 1) := by decide +kernel
theorem dL_law_239 : decode cL_law 239 = .ok (.iaload, 1) := by decide +kernel
theorem dL_law_240 : decode cL_law 240 = .ok (.i2l, 1) := by decide +kernel
theorem dL_law_241 : decode cL_law 241 = .ok (.ldc2_w 33, 3) := by decide +kernel
theorem dL_law_244 : decode cL_law 244 = .ok (.land, 1) := by decide +kernel
theorem dL_law_245 : decode cL_law 245 = .ok (.lor, 1) := by decide +kernel
theorem dL_law_246 : decode cL_law 246 = .ok (.invokevirtual 35, 3) := by decide +kernel
theorem dL_law_249 : decode cL_law 249 = .ok (.aload_n 2, 1) := by decide +kernel
theorem dL_law_250 : decode cL_law 250 = .ok (.aload_n 0, 1) := by decide +kernel
theorem dL_law_251 : decode cL_law 251 = .ok (.iload 4, 2) := by decide +kernel
theorem dL_law_253 : decode cL_law 253 = .ok (.iconst 1, 1) := by decide +kernel
theorem dL_law_254 : decode cL_law 254 = .ok (.iadd, 1) := by decide +kernel
theorem dL_law_255 : decode cL_law 255 = .ok (.iaload, 1) := by decide +kernel
theorem dL_law_256 : decode cL_law 256 = .ok (.i2l, 1) := by decide +kernel
theorem dL_law_257 : decode cL_law 257 = .ok (.bipush 32, 2) := by decide +kernel
theorem dL_law_259 : decode cL_law 259 = .ok (.lshl, 1) := by decide +kernel
theorem dL_law_260 : decode cL_law 260 = .ok (.aload_n 0, 1) := by decide +kernel
theorem dL_law_261 : decode cL_law 261 = .ok (.iload 4, 2) := by decide +kernel
theorem dL_law_263 : decode cL_law 263 = .ok (.iconst 2, 1) := by decide +kernel
theorem dL_law_264 : decode cL_law 264 = .ok (.iadd, 1) := by decide +kernel
theorem dL_law_265 : decode cL_law 265 = .ok (.iaload, 1) := by decide +kernel
theorem dL_law_266 : decode cL_law 266 = .ok (.i2l, 1) := by decide +kernel
theorem dL_law_267 : decode cL_law 267 = .ok (.ldc2_w 33, 3) := by decide +kernel
theorem dL_law_270 : decode cL_law 270 = .ok (.land, 1) := by decide +kernel
theorem dL_law_271 : decode cL_law 271 = .ok (.lor, 1) := by decide +kernel
theorem dL_law_272 : decode cL_law 272 = .ok (.invokevirtual 39, 3) := by decide +kernel
theorem dL_law_275 : decode cL_law 275 = .ok (.if_icmp .eq 376, 3) := by decide +kernel
theorem dL_law_278 : decode cL_law 278 = .ok (.iconst 0, 1) := by decide +kernel
theorem dL_law_279 : decode cL_law 279 = .ok (.ireturn, 1) := by decide +kernel
theorem dL_law_280 : decode cL_law 280 = .ok (.aload_n 1, 1) := by decide +kernel
theorem dL_law_281 : decode cL_law 281 = .ok (.aload_n 0, 1) := by decide +kernel
theorem dL_law_282 : decode cL_law 282 = .ok (.iload 4, 2) := by decide +kernel
theorem dL_law_284 : decode cL_law 284 = .ok (.iconst 1, 1) := by decide +kernel
theorem dL_law_285 : decode cL_law 285 = .ok (.iadd, 1) := by decide +kernel
theorem dL_law_286 : decode cL_law 286 = .ok (.iaload, 1) := by decide +kernel
theorem dL_law_287 : decode cL_law 287 = .ok (.aload_n 0, 1) := by decide +kernel
theorem dL_law_288 : decode cL_law 288 = .ok (.iload 4, 2) := by decide +kernel
theorem dL_law_290 : decode cL_law 290 = .ok (.iconst 2, 1) := by decide +kernel
theorem dL_law_291 : decode cL_law 291 = .ok (.iadd, 1) := by decide +kernel
theorem dL_law_292 : decode cL_law 292 = .ok (.iaload, 1) := by decide +kernel
theorem dL_law_293 : decode cL_law 293 = .ok (.aload_n 0, 1) := by decide +kernel
theorem dL_law_294 : decode cL_law 294 = .ok (.iload 4, 2) := by decide +kernel
theorem dL_law_296 : decode cL_law 296 = .ok (.iconst 3, 1) := by decide +kernel
theorem dL_law_297 : decode cL_law 297 = .ok (.iadd, 1) := by decide +kernel
theorem dL_law_298 : decode cL_law 298 = .ok (.iaload, 1) := by decide +kernel
theorem dL_law_299 : decode cL_law 299 = .ok (.ifCond .eq 7, 3) := by decide +kernel
theorem dL_law_302 : decode cL_law 302 = .ok (.iconst 1, 1) := by decide +kernel
theorem dL_law_303 : decode cL_law 303 = .ok (.goto 4, 3) := by decide +kernel
theorem dL_law_306 : decode cL_law 306 = .ok (.iconst 0, 1) := by decide +kernel
theorem dL_law_307 : decode cL_law 307 = .ok (.invokevirtual 40, 3) := by decide +kernel
theorem dL_law_310 : decode cL_law 310 = .ok (.aload_n 2, 1) := by decide +kernel
theorem dL_law_311 : decode cL_law 311 = .ok (.aload_n 0, 1) := by decide +kernel
theorem dL_law_312 : decode cL_law 312 = .ok (.iload 4, 2) := by decide +kernel
theorem dL_law_314 : decode cL_law 314 = .ok (.iconst 1, 1) := by decide +kernel
theorem dL_law_315 : decode cL_law 315 = .ok (.iadd, 1) := by decide +kernel
theorem dL_law_316 : decode cL_law 316 = .ok (.iaload, 1) := by decide +kernel
theorem dL_law_317 : decode cL_law 317 = .ok (.aload_n 0, 1) := by decide +kernel
theorem dL_law_318 : decode cL_law 318 = .ok (.iload 4, 2) := by decide +kernel
theorem dL_law_320 : decode cL_law 320 = .ok (.iconst 2, 1) := by decide +kernel
theorem dL_law_321 : decode cL_law 321 = .ok (.iadd, 1) := by decide +kernel
theorem dL_law_322 : decode cL_law 322 = .ok (.iaload, 1) := by decide +kernel
theorem dL_law_323 : decode cL_law 323 = .ok (.aload_n 0, 1) := by decide +kernel
theorem dL_law_324 : decode cL_law 324 = .ok (.iload 4, 2) := by decide +kernel
theorem dL_law_326 : decode cL_law 326 = .ok (.iconst 3, 1) := by decide +kernel
theorem dL_law_327 : decode cL_law 327 = .ok (.iadd, 1) := by decide +kernel
theorem dL_law_328 : decode cL_law 328 = .ok (.iaload, 1) := by decide +kernel
theorem dL_law_329 : decode cL_law 329 = .ok (.ifCond .eq 7, 3) := by decide +kernel
theorem dL_law_332 : decode cL_law 332 = .ok (.iconst 1, 1) := by decide +kernel
theorem dL_law_333 : decode cL_law 333 = .ok (.goto 4, 3) := by decide +kernel
theorem dL_law_336 : decode cL_law 336 = .ok (.iconst 0, 1) := by decide +kernel
theorem dL_law_337 : decode cL_law 337 = .ok (.invokevirtual 44, 3) := by decide +kernel
theorem dL_law_340 : decode cL_law 340 = .ok (.if_icmp .eq 311, 3) := by decide +kernel
theorem dL_law_343 : decode cL_law 343 = .ok (.iconst 0, 1) := by decide +kernel
theorem dL_law_344 : decode cL_law 344 = .ok (.ireturn, 1) := by decide +kernel
theorem dL_law_345 : decode cL_law 345 = .ok (.aload_n 1, 1) := by decide +kernel
theorem dL_law_346 : decode cL_law 346 = .ok (.aload_n 0, 1) := by decide +kernel
theorem dL_law_347 : decode cL_law 347 = .ok (.iload 4, 2) := by decide +kernel
theorem dL_law_349 : decode cL_law 349 = .ok (.iconst 1, 1) := by decide +kernel
theorem dL_law_350 : decode cL_law 350 = .ok (.iadd, 1) := by decide +kernel
theorem dL_law_351 : decode cL_law 351 = .ok (.iaload, 1) := by decide +kernel
theorem dL_law_352 : decode cL_law 352 = .ok (.invokevirtual 45, 3) := by decide +kernel
theorem dL_law_355 : decode cL_law 355 = .ok (.aload_n 2, 1) := by decide +kernel
theorem dL_law_356 : decode cL_law 356 = .ok (.aload_n 0, 1) := by decide +kernel
theorem dL_law_357 : decode cL_law 357 = .ok (.iload 4, 2) := by decide +kernel
theorem dL_law_359 : decode cL_law 359 = .ok (.iconst 1, 1) := by decide +kernel
theorem dL_law_360 : decode cL_law 360 = .ok (.iadd, 1) := by decide +kernel
theorem dL_law_361 : decode cL_law 361 = .ok (.iaload, 1) := by decide +kernel
theorem dL_law_362 : decode cL_law 362 = .ok (.invokevirtual 49, 3) := by decide +kernel
theorem dL_law_365 : decode cL_law 365 = .ok (.if_icmp .eq 286, 3) := by decide +kernel
theorem dL_law_368 : decode cL_law 368 = .ok (.iconst 0, 1) := by decide +kernel
theorem dL_law_369 : decode cL_law 369 = .ok (.ireturn, 1) := by decide +kernel
theorem dL_law_370 : decode cL_law 370 = .ok (.aload_n 1, 1) := by decide +kernel
theorem dL_law_371 : decode cL_law 371 = .ok (.aload_n 0, 1) := by decide +kernel
theorem dL_law_372 : decode cL_law 372 = .ok (.iload 4, 2) := by decide +kernel
theorem dL_law_374 : decode cL_law 374 = .ok (.iconst 1, 1) := by decide +kernel
theorem dL_law_375 : decode cL_law 375 = .ok (.iadd, 1) := by decide +kernel
theorem dL_law_376 : decode cL_law 376 = .ok (.iaload, 1) := by decide +kernel
theorem dL_law_377 : decode cL_law 377 = .ok (.aload_n 0, 1) := by decide +kernel
theorem dL_law_378 : decode cL_law 378 = .ok (.iload 4, 2) := by decide +kernel
theorem dL_law_380 : decode cL_law 380 = .ok (.iconst 2, 1) := by decide +kernel
theorem dL_law_381 : decode cL_law 381 = .ok (.iadd, 1) := by decide +kernel
theorem dL_law_382 : decode cL_law 382 = .ok (.iaload, 1) := by decide +kernel
theorem dL_law_383 : decode cL_law 383 = .ok (.aload_n 0, 1) := by decide +kernel
theorem dL_law_384 : decode cL_law 384 = .ok (.iload 4, 2) := by decide +kernel
theorem dL_law_386 : decode cL_law 386 = .ok (.iconst 3, 1) := by decide +kernel
theorem dL_law_387 : decode cL_law 387 = .ok (.iadd, 1) := by decide +kernel
theorem dL_law_388 : decode cL_law 388 = .ok (.iaload, 1) := by decide +kernel
theorem dL_law_389 : decode cL_law 389 = .ok (.i2b, 1) := by decide +kernel
theorem dL_law_390 : decode cL_law 390 = .ok (.invokevirtual 50, 3) := by decide +kernel
theorem dL_law_393 : decode cL_law 393 = .ok (.aload_n 2, 1) := by decide +kernel
theorem dL_law_394 : decode cL_law 394 = .ok (.aload_n 0, 1) := by decide +kernel
theorem dL_law_395 : decode cL_law 395 = .ok (.iload 4, 2) := by decide +kernel
theorem dL_law_397 : decode cL_law 397 = .ok (.iconst 1, 1) := by decide +kernel
theorem dL_law_398 : decode cL_law 398 = .ok (.iadd, 1) := by decide +kernel
theorem dL_law_399 : decode cL_law 399 = .ok (.iaload, 1) := by decide +kernel
theorem dL_law_400 : decode cL_law 400 = .ok (.aload_n 0, 1) := by decide +kernel
theorem dL_law_401 : decode cL_law 401 = .ok (.iload 4, 2) := by decide +kernel
theorem dL_law_403 : decode cL_law 403 = .ok (.iconst 2, 1) := by decide +kernel
theorem dL_law_404 : decode cL_law 404 = .ok (.iadd, 1) := by decide +kernel
theorem dL_law_405 : decode cL_law 405 = .ok (.iaload, 1) := by decide +kernel
theorem dL_law_406 : decode cL_law 406 = .ok (.aload_n 0, 1) := by decide +kernel
theorem dL_law_407 : decode cL_law 407 = .ok (.iload 4, 2) := by decide +kernel
theorem dL_law_409 : decode cL_law 409 = .ok (.iconst 3, 1) := by decide +kernel
theorem dL_law_410 : decode cL_law 410 = .ok (.iadd, 1) := by decide +kernel
theorem dL_law_411 : decode cL_law 411 = .ok (.iaload, 1) := by decide +kernel
theorem dL_law_412 : decode cL_law 412 = .ok (.i2b, 1) := by decide +kernel
theorem dL_law_413 : decode cL_law 413 = .ok (.invokevirtual 54, 3) := by decide +kernel
theorem dL_law_416 : decode cL_law 416 = .ok (.if_icmp .eq 235, 3) := by decide +kernel
theorem dL_law_419 : decode cL_law 419 = .ok (.iconst 0, 1) := by decide +kernel
theorem dL_law_420 : decode cL_law 420 = .ok (.ireturn, 1) := by decide +kernel
theorem dL_law_421 : decode cL_law 421 = .ok (.aload_n 1, 1) := by decide +kernel
theorem dL_law_422 : decode cL_law 422 = .ok (.aload_n 0, 1) := by decide +kernel
theorem dL_law_423 : decode cL_law 423 = .ok (.iload 4, 2) := by decide +kernel
theorem dL_law_425 : decode cL_law 425 = .ok (.iconst 1, 1) := by decide +kernel
theorem dL_law_426 : decode cL_law 426 = .ok (.iadd, 1) := by decide +kernel
theorem dL_law_427 : decode cL_law 427 = .ok (.iaload, 1) := by decide +kernel
theorem dL_law_428 : decode cL_law 428 = .ok (.i2l, 1) := by decide +kernel
theorem dL_law_429 : decode cL_law 429 = .ok (.bipush 32, 2) := by decide +kernel
theorem dL_law_431 : decode cL_law 431 = .ok (.lshl, 1) := by decide +kernel
theorem dL_law_432 : decode cL_law 432 = .ok (.aload_n 0, 1) := by decide +kernel
theorem dL_law_433 : decode cL_law 433 = .ok (.iload 4, 2) := by decide +kernel
theorem dL_law_435 : decode cL_law 435 = .ok (.iconst 2, 1) := by decide +kernel
theorem dL_law_436 : decode cL_law 436 = .ok (.iadd, 1) := by decide +kernel
theorem dL_law_437 : decode cL_law 437 = .ok (.iaload, 1) := by decide +kernel
theorem dL_law_438 : decode cL_law 438 = .ok (.i2l, 1) := by decide +kernel
theorem dL_law_439 : decode cL_law 439 = .ok (.ldc2_w 33, 3) := by decide +kernel
theorem dL_law_442 : decode cL_law 442 = .ok (.land, 1) := by decide +kernel
theorem dL_law_443 : decode cL_law 443 = .ok (.lor, 1) := by decide +kernel
theorem dL_law_444 : decode cL_law 444 = .ok (.invokevirtual 55, 3) := by decide +kernel
theorem dL_law_447 : decode cL_law 447 = .ok (.aload_n 2, 1) := by decide +kernel
theorem dL_law_448 : decode cL_law 448 = .ok (.aload_n 0, 1) := by decide +kernel
theorem dL_law_449 : decode cL_law 449 = .ok (.iload 4, 2) := by decide +kernel
theorem dL_law_451 : decode cL_law 451 = .ok (.iconst 1, 1) := by decide +kernel
theorem dL_law_452 : decode cL_law 452 = .ok (.iadd, 1) := by decide +kernel
theorem dL_law_453 : decode cL_law 453 = .ok (.iaload, 1) := by decide +kernel
theorem dL_law_454 : decode cL_law 454 = .ok (.i2l, 1) := by decide +kernel
theorem dL_law_455 : decode cL_law 455 = .ok (.bipush 32, 2) := by decide +kernel
theorem dL_law_457 : decode cL_law 457 = .ok (.lshl, 1) := by decide +kernel
theorem dL_law_458 : decode cL_law 458 = .ok (.aload_n 0, 1) := by decide +kernel
theorem dL_law_459 : decode cL_law 459 = .ok (.iload 4, 2) := by decide +kernel
theorem dL_law_461 : decode cL_law 461 = .ok (.iconst 2, 1) := by decide +kernel
theorem dL_law_462 : decode cL_law 462 = .ok (.iadd, 1) := by decide +kernel
theorem dL_law_463 : decode cL_law 463 = .ok (.iaload, 1) := by decide +kernel
theorem dL_law_464 : decode cL_law 464 = .ok (.i2l, 1) := by decide +kernel
theorem dL_law_465 : decode cL_law 465 = .ok (.ldc2_w 33, 3) := by decide +kernel
theorem dL_law_468 : decode cL_law 468 = .ok (.land, 1) := by decide +kernel
theorem dL_law_469 : decode cL_law 469 = .ok (.lor, 1) := by decide +kernel
theorem dL_law_470 : decode cL_law 470 = .ok (.invokevirtual 58, 3) := by decide +kernel
theorem dL_law_473 : decode cL_law 473 = .ok (.if_icmp .eq 178, 3) := by decide +kernel
theorem dL_law_476 : decode cL_law 476 = .ok (.iconst 0, 1) := by decide +kernel
theorem dL_law_477 : decode cL_law 477 = .ok (.ireturn, 1) := by decide +kernel
theorem dL_law_478 : decode cL_law 478 = .ok (.aload_n 1, 1) := by decide +kernel
theorem dL_law_479 : decode cL_law 479 = .ok (.invokevirtual 59, 3) := by decide +kernel
theorem dL_law_482 : decode cL_law 482 = .ok (.aload_n 2, 1) := by decide +kernel
theorem dL_law_483 : decode cL_law 483 = .ok (.invokevirtual 62, 3) := by decide +kernel
theorem dL_law_486 : decode cL_law 486 = .ok (.if_icmp .eq 165, 3) := by decide +kernel
theorem dL_law_489 : decode cL_law 489 = .ok (.iconst 0, 1) := by decide +kernel
theorem dL_law_490 : decode cL_law 490 = .ok (.ireturn, 1) := by decide +kernel
theorem dL_law_491 : decode cL_law 491 = .ok (.aload_n 1, 1) := by decide +kernel
theorem dL_law_492 : decode cL_law 492 = .ok (.aload_n 0, 1) := by decide +kernel
theorem dL_law_493 : decode cL_law 493 = .ok (.iload 4, 2) := by decide +kernel
theorem dL_law_495 : decode cL_law 495 = .ok (.iconst 1, 1) := by decide +kernel
theorem dL_law_496 : decode cL_law 496 = .ok (.iadd, 1) := by decide +kernel
theorem dL_law_497 : decode cL_law 497 = .ok (.iaload, 1) := by decide +kernel
theorem dL_law_498 : decode cL_law 498 = .ok (.aload_n 0, 1) := by decide +kernel
theorem dL_law_499 : decode cL_law 499 = .ok (.iload 4, 2) := by decide +kernel
theorem dL_law_501 : decode cL_law 501 = .ok (.iconst 2, 1) := by decide +kernel
theorem dL_law_502 : decode cL_law 502 = .ok (.iadd, 1) := by decide +kernel
theorem dL_law_503 : decode cL_law 503 = .ok (.iaload, 1) := by decide +kernel
theorem dL_law_504 : decode cL_law 504 = .ok (.aload_n 3, 1) := by decide +kernel
theorem dL_law_505 : decode cL_law 505 = .ok (.invokestatic 63, 3) := by decide +kernel
theorem dL_law_508 : decode cL_law 508 = .ok (.istore 5, 2) := by decide +kernel
theorem dL_law_510 : decode cL_law 510 = .ok (.aload_n 2, 1) := by decide +kernel
theorem dL_law_511 : decode cL_law 511 = .ok (.aload_n 0, 1) := by decide +kernel
theorem dL_law_512 : decode cL_law 512 = .ok (.iload 4, 2) := by decide +kernel
theorem dL_law_514 : decode cL_law 514 = .ok (.iconst 1, 1) := by decide +kernel
theorem dL_law_515 : decode cL_law 515 = .ok (.iadd, 1) := by decide +kernel
end
section
theorem dL_law_516 : decode cL_law 516 = .ok (.iaload, 1) := by decide +kernel
theorem dL_law_517 : decode cL_law 517 = .ok (.aload_n 0, 1) := by decide +kernel
theorem dL_law_518 : decode cL_law 518 = .ok (.iload 4, 2) := by decide +kernel
theorem dL_law_520 : decode cL_law 520 = .ok (.iconst 2, 1) := by decide +kernel
theorem dL_law_521 : decode cL_law 521 = .ok (.iadd, 1) := by decide +kernel
theorem dL_law_522 : decode cL_law 522 = .ok (.iaload, 1) := by decide +kernel
theorem dL_law_523 : decode cL_law 523 = .ok (.invokevirtual 68, 3) := by decide +kernel
theorem dL_law_526 : decode cL_law 526 = .ok (.istore 6, 2) := by decide +kernel
theorem dL_law_528 : decode cL_law 528 = .ok (.aload_n 2, 1) := by decide +kernel
theorem dL_law_529 : decode cL_law 529 = .ok (.invokevirtual 69, 3) := by decide +kernel
theorem dL_law_532 : decode cL_law 532 = .ok (.iload 5, 2) := by decide +kernel
theorem dL_law_534 : decode cL_law 534 = .ok (.if_icmp .eq 5, 3) := by decide +kernel
theorem dL_law_537 : decode cL_law 537 = .ok (.iconst 0, 1) := by decide +kernel
theorem dL_law_538 : decode cL_law 538 = .ok (.ireturn, 1) := by decide +kernel
theorem dL_law_539 : decode cL_law 539 = .ok (.iload 5, 2) := by decide +kernel
theorem dL_law_541 : decode cL_law 541 = .ok (.ifCond .ne 15, 3) := by decide +kernel
theorem dL_law_544 : decode cL_law 544 = .ok (.aload_n 3, 1) := by decide +kernel
theorem dL_law_545 : decode cL_law 545 = .ok (.iconst 0, 1) := by decide +kernel
theorem dL_law_546 : decode cL_law 546 = .ok (.laload, 1) := by decide +kernel
theorem dL_law_547 : decode cL_law 547 = .ok (.iload 6, 2) := by decide +kernel
theorem dL_law_549 : decode cL_law 549 = .ok (.i2l, 1) := by decide +kernel
theorem dL_law_550 : decode cL_law 550 = .ok (.lcmp, 1) := by decide +kernel
theorem dL_law_551 : decode cL_law 551 = .ok (.ifCond .eq 5, 3) := by decide +kernel
theorem dL_law_554 : decode cL_law 554 = .ok (.iconst 0, 1) := by decide +kernel
theorem dL_law_555 : decode cL_law 555 = .ok (.ireturn, 1) := by decide +kernel
theorem dL_law_556 : decode cL_law 556 = .ok (.goto 95, 3) := by decide +kernel
theorem dL_law_559 : decode cL_law 559 = .ok (.aload_n 1, 1) := by decide +kernel
theorem dL_law_560 : decode cL_law 560 = .ok (.aload_n 0, 1) := by decide +kernel
theorem dL_law_561 : decode cL_law 561 = .ok (.iload 4, 2) := by decide +kernel
theorem dL_law_563 : decode cL_law 563 = .ok (.iconst 1, 1) := by decide +kernel
theorem dL_law_564 : decode cL_law 564 = .ok (.iadd, 1) := by decide +kernel
theorem dL_law_565 : decode cL_law 565 = .ok (.iaload, 1) := by decide +kernel
theorem dL_law_566 : decode cL_law 566 = .ok (.ifCond .eq 7, 3) := by decide +kernel
theorem dL_law_569 : decode cL_law 569 = .ok (.iconst 1, 1) := by decide +kernel
theorem dL_law_570 : decode cL_law 570 = .ok (.goto 4, 3) := by decide +kernel
theorem dL_law_573 : decode cL_law 573 = .ok (.iconst 0, 1) := by decide +kernel
theorem dL_law_574 : decode cL_law 574 = .ok (.invokevirtual 72, 3) := by decide +kernel
theorem dL_law_577 : decode cL_law 577 = .ok (.aload_n 2, 1) := by decide +kernel
theorem dL_law_578 : decode cL_law 578 = .ok (.aload_n 0, 1) := by decide +kernel
theorem dL_law_579 : decode cL_law 579 = .ok (.iload 4, 2) := by decide +kernel
theorem dL_law_581 : decode cL_law 581 = .ok (.iconst 1, 1) := by decide +kernel
theorem dL_law_582 : decode cL_law 582 = .ok (.iadd, 1) := by decide +kernel
theorem dL_law_583 : decode cL_law 583 = .ok (.iaload, 1) := by decide +kernel
theorem dL_law_584 : decode cL_law 584 = .ok (.ifCond .eq 7, 3) := by decide +kernel
theorem dL_law_587 : decode cL_law 587 = .ok (.iconst 1, 1) := by decide +kernel
theorem dL_law_588 : decode cL_law 588 = .ok (.goto 4, 3) := by decide +kernel
theorem dL_law_591 : decode cL_law 591 = .ok (.iconst 0, 1) := by decide +kernel
theorem dL_law_592 : decode cL_law 592 = .ok (.invokevirtual 76, 3) := by decide +kernel
theorem dL_law_595 : decode cL_law 595 = .ok (.if_icmp .eq 56, 3) := by decide +kernel
theorem dL_law_598 : decode cL_law 598 = .ok (.iconst 0, 1) := by decide +kernel
theorem dL_law_599 : decode cL_law 599 = .ok (.ireturn, 1) := by decide +kernel
theorem dL_law_600 : decode cL_law 600 = .ok (.aload_n 1, 1) := by decide +kernel
theorem dL_law_601 : decode cL_law 601 = .ok (.aload_n 0, 1) := by decide +kernel
theorem dL_law_602 : decode cL_law 602 = .ok (.iload 4, 2) := by decide +kernel
theorem dL_law_604 : decode cL_law 604 = .ok (.iconst 1, 1) := by decide +kernel
theorem dL_law_605 : decode cL_law 605 = .ok (.iadd, 1) := by decide +kernel
theorem dL_law_606 : decode cL_law 606 = .ok (.iaload, 1) := by decide +kernel
theorem dL_law_607 : decode cL_law 607 = .ok (.invokevirtual 77, 3) := by decide +kernel
theorem dL_law_610 : decode cL_law 610 = .ok (.aload_n 2, 1) := by decide +kernel
theorem dL_law_611 : decode cL_law 611 = .ok (.aload_n 0, 1) := by decide +kernel
theorem dL_law_612 : decode cL_law 612 = .ok (.iload 4, 2) := by decide +kernel
theorem dL_law_614 : decode cL_law 614 = .ok (.iconst 1, 1) := by decide +kernel
theorem dL_law_615 : decode cL_law 615 = .ok (.iadd, 1) := by decide +kernel
theorem dL_law_616 : decode cL_law 616 = .ok (.iaload, 1) := by decide +kernel
theorem dL_law_617 : decode cL_law 617 = .ok (.invokevirtual 81, 3) := by decide +kernel
theorem dL_law_620 : decode cL_law 620 = .ok (.lcmp, 1) := by decide +kernel
theorem dL_law_621 : decode cL_law 621 = .ok (.ifCond .eq 30, 3) := by decide +kernel
theorem dL_law_624 : decode cL_law 624 = .ok (.iconst 0, 1) := by decide +kernel
theorem dL_law_625 : decode cL_law 625 = .ok (.ireturn, 1) := by decide +kernel
theorem dL_law_626 : decode cL_law 626 = .ok (.aload_n 1, 1) := by decide +kernel
theorem dL_law_627 : decode cL_law 627 = .ok (.aload_n 0, 1) := by decide +kernel
theorem dL_law_628 : decode cL_law 628 = .ok (.iload 4, 2) := by decide +kernel
theorem dL_law_630 : decode cL_law 630 = .ok (.iconst 1, 1) := by decide +kernel
theorem dL_law_631 : decode cL_law 631 = .ok (.iadd, 1) := by decide +kernel
theorem dL_law_632 : decode cL_law 632 = .ok (.iaload, 1) := by decide +kernel
theorem dL_law_633 : decode cL_law 633 = .ok (.invokevirtual 82, 3) := by decide +kernel
theorem dL_law_636 : decode cL_law 636 = .ok (.aload_n 2, 1) := by decide +kernel
theorem dL_law_637 : decode cL_law 637 = .ok (.aload_n 0, 1) := by decide +kernel
theorem dL_law_638 : decode cL_law 638 = .ok (.iload 4, 2) := by decide +kernel
theorem dL_law_640 : decode cL_law 640 = .ok (.iconst 1, 1) := by decide +kernel
theorem dL_law_641 : decode cL_law 641 = .ok (.iadd, 1) := by decide +kernel
theorem dL_law_642 : decode cL_law 642 = .ok (.iaload, 1) := by decide +kernel
theorem dL_law_643 : decode cL_law 643 = .ok (.invokevirtual 85, 3) := by decide +kernel
theorem dL_law_646 : decode cL_law 646 = .ok (.if_icmp .eq 5, 3) := by decide +kernel
theorem dL_law_649 : decode cL_law 649 = .ok (.iconst 0, 1) := by decide +kernel
theorem dL_law_650 : decode cL_law 650 = .ok (.ireturn, 1) := by decide +kernel
theorem dL_law_651 : decode cL_law 651 = .ok (.iinc 4 4, 3) := by decide +kernel
theorem dL_law_654 : decode cL_law 654 = .ok (.goto (-631), 3) := by decide +kernel
theorem dL_law_657 : decode cL_law 657 = .ok (.iconst 1, 1) := by decide +kernel
theorem dL_law_658 : decode cL_law 658 = .ok (.ireturn, 1) := by decide +kernel
abbrev vwCl : List vw_C := [(RJ0, TJ0, 2), (RJx00060, TJx00060, 6), (RX0, TX0, 4), (RX1, TX1, 6), (RX2, TX2, 2), (RX3, TX3, 14), (RX4, TX4, 23)]
end
section
/-! OUR OWN ROWS OVER THE KIT: one shape for all contracts, calls with their frames in one row, returns in one row. -/
/-- a method's start: the heap has sz cells, holds ws, the tables are as they are -/
def my_P (D : va_G) (cl : List vw_C) (tys : List (ClassId × FieldType)) (sz : Nat) (ws : va_W) : State → Prop := fun U => U.heap.size = sz ∧ va_P D cl ws U.heap ∧ va_K D cl tys U ∧ va_D (fun _ => True) ws
/-- a method's end: the heap holds ws, all of it in A -/
def my_B (D : va_G) (cl : List vw_C) (tys : List (ClassId × FieldType)) (ws : va_W) (A : Nat → Prop) : State → Prop := fun t => va_P D cl ws t.heap ∧ va_K D cl tys t ∧ va_D A ws
def my_Qi (F : Int32) (D : va_G) (cl : List vw_C) (tys : List (ClassId × FieldType)) (ws : va_W) (A : Nat → Prop) : Array Value → State → Outcome → State → Prop := va_Qi (fun (r : Int32) (_ : Unit) => r = F) (fun _ => my_B D cl tys ws A) A
def my_Ql (F : Int64) (D : va_G) (cl : List vw_C) (tys : List (ClassId × FieldType)) (ws : va_W) (A : Nat → Prop) : Array Value → State → Outcome → State → Prop := va_Ql (fun (r : Int64) (_ : Unit) => r = F) (fun _ => my_B D cl tys ws A) A
def my_Qv (D : va_G) (cl : List vw_C) (tys : List (ClassId × FieldType)) (ws : va_W) (A : Nat → Prop) : Array Value → State → Outcome → State → Prop := va_Qv (fun (_ : Unit) => True) (fun _ => my_B D cl tys ws A) A
theorem my_blind {av : List Value} {D : va_G} {cl : List vw_C} {tys : List (ClassId × FieldType)} {sz : Nat} {ws : va_W} : FrameBlind (va_Pc av (my_P D cl tys sz ws)) := fun a U g mk q => by
  obtain ⟨q0, q1, qP, qK, qD⟩ := q
  exact ⟨q0, q1, qP, va_K.moved (u := U) (U := U.calling g mk a) (Vm.Alike.refl U.vm) qK, qD⟩
theorem my_fm {α β : Type} (f : α → Option β) : ∀ (is : List α) (w : List β), is.map f = w.map some → is.filterMap f = w
  | [], [], _ => rfl
  | [], _ :: _, h => by simp at h
  | _ :: _, [], h => by simp at h
  | i :: is, x :: w, h => by
    rw [List.map_cons, List.map_cons, List.cons.injEq] at h
    rw [List.filterMap_cons, h.1]
    exact congrArg (x :: ·) (my_fm f is w h.2)
section MYC
variable {p : Program} {l : Launch} {e : Env} {R : Room} {s : State} {m : MethodId} {args : Array Value} {below : List Frame} {meth : Method} {c : Code} {H : Heap} {locs : List Loc} {cells slots : Nat} {Q : State → Prop}
variable {y : MethodName} {bytes cc : ByteArray} {maxL nL mc ms n index : Nat} {ret : Option FieldType} {ws9 : List Cond} {rm : Room} {Qc : Array Value → State → Outcome → State → Prop} {Ts : List Cond} {own C : String} {b : Addr} {As rest st0 : List Value}
variable {D : va_G} {cl : List vw_C} {tys : List (ClassId × FieldType)} {ws wc wr w1 : va_W} {A : Nat → Prop} {H0 : Heap} {pc : Nat} {ls : Array Slot} {ret9 : Option FieldType}
/-- what the callee needs of the caller's world -/
theorem my_pre (hK : va_K D cl tys s) (hP : va_P D cl ws H) (hD : va_D A ws) (isC : List Nat) (hC : isC.map (fun i => ws[i]?) = wc.map some) (hnC : va_nd isC = true) (av : List Value) :
    PreS s H (va_Pc av (my_P D cl tys H.size wc)) av := by
  have hPc := hP.sub (ws' := wc) isC (my_fm _ _ _ hC)
  have hDc := hD.sub (ws' := wc) isC hnC hC
  exact ⟨my_blind, fun U hU hW => ⟨rfl, by rw [hU], by rw [hU]; exact hPc, va_K.moved hW.alike hK, hDc.weaken (fun _ _ _ _ => trivial)⟩⟩
theorem my_V (S : CallFix p m c cc nL s args Ts own) (hM : Met l y ws9 rm (va_Pc (.ref b :: As) (my_P D cl tys H.size wc)) Qc mc ms (va_A wc H.size)) (cw : CallW R s args own C index y bytes maxL ret ws9 rm mc ms n)
    (hK : va_K D cl tys s) (hP : va_P D cl ws H) (hD : va_D A ws) (isC : List Nat) (hC : isC.map (fun i => ws[i]?) = wc.map some) (hnC : va_nd isC = true) {ci : Nat} {fs : List Value} {T : u_T} {N : Nat} (he : wc[0]? = some (b, .inr (ci, fs))) (hc : cl[ci]? = some (C, T, N))
    (hn : As.length = n) (hsize : ls.size = nL) (hst : st0 = As.reverse ++ .ref b :: rest) (hW : (rest.map fun v => v.category).sum ≤ 8) (hdg : decode cc pc = .ok (.invokevirtual index, 3)) (hf : cells + mc ≤ R.cells ∧ slots + ms ≤ R.slots) :
    va_Run p l e R s m args below meth c H locs cells slots mc ms (F0 m pc ls st0) rest (Qc (Value.ref b :: As).toArray) (va_A wc H.size) := by
  have hp := my_pre hK hP hD isC hC hnC (.ref b :: As)
  have hPc := hP.sub (ws' := wc) isC (my_fm _ _ _ hC)
  exact va_runV (g := F0 m pc ls st0) S hM cw ⟨hp.1, va_recv hK hPc hc he, hp.2⟩ rfl hn hsize hst (lv_room hW) hdg hf
theorem my_S (S : CallFix p m c cc nL s args Ts own) (hM : Met l y ws9 rm (va_Pc As (my_P D cl tys H.size wc)) Qc mc ms (va_A wc H.size)) (cw : CallB R s args own index y bytes maxL ret ws9 rm mc ms n ∧ (Cond.static y).before args s = true)
    (hK : va_K D cl tys s) (hP : va_P D cl ws H) (hD : va_D A ws) (isC : List Nat) (hC : isC.map (fun i => ws[i]?) = wc.map some) (hnC : va_nd isC = true)
    (hn : As.length = n) (hsize : ls.size = nL) (hst : st0 = As.reverse ++ rest) (hW : (rest.map fun v => v.category).sum ≤ 8) (hdg : decode cc pc = .ok (.invokestatic index, 3)) (hf : cells + mc ≤ R.cells ∧ slots + ms ≤ R.slots) :
    va_Run p l e R s m args below meth c H locs cells slots mc ms (F0 m pc ls st0) rest (Qc As.toArray) (va_A wc H.size) :=
  va_runS (g := F0 m pc ls st0) S hM cw (my_pre hK hP hD isC hC hnC As) rfl hn hsize hst (lv_room hW) hdg hf
theorem my_I (S : CallFix p m c cc nL s args Ts own) (hM : Met l y ws9 rm (va_Pc (.ref b :: As) (my_P D cl tys H.size wc)) Qc mc ms (va_A wc H.size)) (cw : CallB R s args own index y bytes maxL none ws9 rm mc ms n ∧ y.name = "<init>" ∧ (Cond.instanceMethod y).before args s = true)
    (hK : va_K D cl tys s) (hP : va_P D cl ws H) (hD : va_D A ws) (isC : List Nat) (hC : isC.map (fun i => ws[i]?) = wc.map some) (hnC : va_nd isC = true)
    (hn : As.length = n) (hsize : ls.size = nL) (hst : st0 = As.reverse ++ .ref b :: rest) (hW : (rest.map fun v => v.category).sum ≤ 8) (hdg : decode cc pc = .ok (.invokespecial index, 3)) (hf : cells + mc ≤ R.cells ∧ slots + ms ≤ R.slots) :
    va_Run p l e R s m args below meth c H locs cells slots mc ms (F0 m pc ls st0) rest (Qc (Value.ref b :: As).toArray) (va_A wc H.size) :=
  va_runI (g := F0 m pc ls st0) S hM cw (my_pre hK hP hD isC hC hnC (.ref b :: As)) rfl hn hsize hst (lv_room hW) hdg hf
theorem my_ci {F : Int32} {a : Array Value} (hP : va_P D cl ws H) (hD : va_D A ws) (hS : va_S A H0 H locs) (hA : ∀ q, H0.size ≤ q → A q) (isC isR : List Nat)
    (hr : va_Run p l e R s m args below meth c H locs cells slots mc ms (F0 m pc ls st0) rest (my_Qi F D cl tys w1 (va_A wc H.size) a) (va_A wc H.size))
    (hC : isC.map (fun i => ws[i]?) = wc.map some) (hR : isR.map (fun i => ws[i]?) = wr.map some) (hn : va_nd isR = true) (hdis : ∀ i ∈ isR, i ∉ isC)
    (kk : ∀ (H1 : Heap) (locs1 : List Loc), va_P D cl (wr ++ w1) H1 → va_D A (wr ++ w1) → va_S A H0 H1 locs1 → W p l e R s m args below meth c H1 locs1 (cells + mc) (slots + ms) Q (F0 m (pc + 3) ls (.int F :: rest))) : W p l e R s m args below meth c H locs cells slots Q (F0 m pc ls st0) := by
  have hFc := va_free (wc := wc) hD hS hA isC hC
  refine va_calli hr hS (fun q _ h => hFc q h) hFc (fun r u t H1 locs1 ht hvm hw hB hz1 hk1 hS1 => ?_)
  obtain ⟨hP1, hK1, hD1⟩ := hB
  rw [ht] at hP1
  obtain ⟨hP2, hD2⟩ := va_join (wr := wr) (w1 := w1) hP hD isC isR hC hR hn hdis hk1 hFc hP1 hD1
  have hw : r = F := hw
  subst hw
  exact kk H1 locs1 hP2 hD2 hS1
theorem my_cl {F : Int64} {a : Array Value} (hP : va_P D cl ws H) (hD : va_D A ws) (hS : va_S A H0 H locs) (hA : ∀ q, H0.size ≤ q → A q) (isC isR : List Nat)
    (hr : va_Run p l e R s m args below meth c H locs cells slots mc ms (F0 m pc ls st0) rest (my_Ql F D cl tys w1 (va_A wc H.size) a) (va_A wc H.size))
    (hC : isC.map (fun i => ws[i]?) = wc.map some) (hR : isR.map (fun i => ws[i]?) = wr.map some) (hn : va_nd isR = true) (hdis : ∀ i ∈ isR, i ∉ isC)
    (kk : ∀ (H1 : Heap) (locs1 : List Loc), va_P D cl (wr ++ w1) H1 → va_D A (wr ++ w1) → va_S A H0 H1 locs1 → W p l e R s m args below meth c H1 locs1 (cells + mc) (slots + ms) Q (F0 m (pc + 3) ls (.long F :: rest))) : W p l e R s m args below meth c H locs cells slots Q (F0 m pc ls st0) := by
  have hFc := va_free (wc := wc) hD hS hA isC hC
  refine va_calll hr hS (fun q _ h => hFc q h) hFc (fun r u t H1 locs1 ht hvm hw hB hz1 hk1 hS1 => ?_)
  obtain ⟨hP1, hK1, hD1⟩ := hB
  rw [ht] at hP1
  obtain ⟨hP2, hD2⟩ := va_join (wr := wr) (w1 := w1) hP hD isC isR hC hR hn hdis hk1 hFc hP1 hD1
  have hw : r = F := hw
  subst hw
  exact kk H1 locs1 hP2 hD2 hS1
theorem my_cv {a : Array Value} (hP : va_P D cl ws H) (hD : va_D A ws) (hS : va_S A H0 H locs) (hA : ∀ q, H0.size ≤ q → A q) (isC isR : List Nat)
    (hr : va_Run p l e R s m args below meth c H locs cells slots mc ms (F0 m pc ls st0) rest (my_Qv D cl tys w1 (va_A wc H.size) a) (va_A wc H.size))
    (hC : isC.map (fun i => ws[i]?) = wc.map some) (hR : isR.map (fun i => ws[i]?) = wr.map some) (hn : va_nd isR = true) (hdis : ∀ i ∈ isR, i ∉ isC)
    (kk : ∀ (H1 : Heap) (locs1 : List Loc), va_P D cl (wr ++ w1) H1 → va_D A (wr ++ w1) → va_S A H0 H1 locs1 → W p l e R s m args below meth c H1 locs1 (cells + mc) (slots + ms) Q (F0 m (pc + 3) ls rest)) : W p l e R s m args below meth c H locs cells slots Q (F0 m pc ls st0) := by
  have hFc := va_free (wc := wc) hD hS hA isC hC
  refine va_callv hr hS (fun q _ h => hFc q h) hFc (fun u t H1 locs1 ht hvm hw hB hz1 hk1 hS1 => ?_)
  obtain ⟨hP1, hK1, hD1⟩ := hB
  rw [ht] at hP1
  obtain ⟨hP2, hD2⟩ := va_join (wr := wr) (w1 := w1) hP hD isC isR hC hR hn hdis hk1 hFc hP1 hD1
  exact kk H1 locs1 hP2 hD2 hS1
/-- returns -/
theorem my_ir {v F : Int32} (hx : p.tables.exec = Jvm.exec) (hb : c.code = cc) (hr : meth.sig.returnType = some .int) (hlocks : meth.locks = false) (hK : va_K D cl tys s) (hP : va_P D cl w1 H) (hD : va_D A w1) (hS : va_S A s.heap H locs) (hv : v = F) (hdg : decode cc pc = .ok (.ireturn, 1)) :
    W p l e R s m args below meth c H locs cells slots (MQ below (my_Qi F D cl tys w1 A) args s cells slots A) (F0 m pc ls [.int v]) :=
  W.iret hx hb hr (fun _ ht hW => ⟨⟨v, (), rfl, hv, by rw [ht]; exact hP, va_K.moved hW.alike hK, hD⟩, hS.F ht⟩) hS.2.2 hdg hlocks
theorem my_zr {ty : FieldType} {v F : Int32} (hx : p.tables.exec = Jvm.exec) (hb : c.code = cc) (hr : meth.sig.returnType = some ty) (hlocks : meth.locks = false) (hn : narrow ty (.int v) = .int v) (hK : va_K D cl tys s) (hP : va_P D cl w1 H) (hD : va_D A w1) (hS : va_S A s.heap H locs) (hv : v = F) (hdg : decode cc pc = .ok (.ireturn, 1)) :
    W p l e R s m args below meth c H locs cells slots (MQ below (my_Qi F D cl tys w1 A) args s cells slots A) (F0 m pc ls [.int v]) :=
  W.zret hx hb hr hn (fun _ ht hW => ⟨⟨v, (), rfl, hv, by rw [ht]; exact hP, va_K.moved hW.alike hK, hD⟩, hS.F ht⟩) hS.2.2 hdg hlocks
theorem my_lr {v F : Int64} (hx : p.tables.exec = Jvm.exec) (hb : c.code = cc) (hr : meth.sig.returnType = some .long) (hlocks : meth.locks = false) (hK : va_K D cl tys s) (hP : va_P D cl w1 H) (hD : va_D A w1) (hS : va_S A s.heap H locs) (hv : v = F) (hdg : decode cc pc = .ok (.lreturn, 1)) :
    W p l e R s m args below meth c H locs cells slots (MQ below (my_Ql F D cl tys w1 A) args s cells slots A) (F0 m pc ls [.long v]) :=
  W.lret hx hb hr (fun _ ht hW => ⟨⟨v, (), rfl, hv, by rw [ht]; exact hP, va_K.moved hW.alike hK, hD⟩, hS.F ht⟩) hS.2.2 hdg hlocks
theorem my_vr (hx : p.tables.exec = Jvm.exec) (hb : c.code = cc) (hr : meth.sig.returnType = none) (hlocks : meth.locks = false) (hK : va_K D cl tys s) (hP : va_P D cl w1 H) (hD : va_D A w1) (hS : va_S A s.heap H locs) (hdg : decode cc pc = .ok (.return_, 1)) :
    W p l e R s m args below meth c H locs cells slots (MQ below (my_Qv D cl tys w1 A) args s cells slots A) (F0 m pc ls []) :=
  W.vret hx hb hr (fun _ ht hW => ⟨⟨(), rfl, trivial, by rw [ht]; exact hP, va_K.moved hW.alike hK, hD⟩, hS.F ht⟩) hS.2.2 hdg hlocks
/-- a contract out of the walk of its body -/
theorem my_met {av : List Value} {sz : Nat} {ws' : List Cond} (Qf : (Nat → Prop) → Array Value → State → Outcome → State → Prop) (hy : plainName y.cls = true) (hw : ws9 = Cond.code y cc maxL ret9 :: ws') (hlen : (lg_sl av).length ≤ maxL)
    (body : ∀ (p : Program) (e : Env) (s : State) (m : MethodId) (below : List Frame) (meth : Method) (c : Code) (A : Nat → Prop) (ls : Array Slot), p.tables.exec = Jvm.exec → c.code = cc → meth.sig.returnType = ret9 → meth.locks = false → c.maxLocals = maxL → s.vm.findClass y.cls = some m.cls → meth.name = y.name → (∀ w ∈ ws9, w.before av.toArray s = true) → lv_has ls maxL (lv_args 0 av) → va_K D cl tys s → va_P D cl ws s.heap → va_D A ws → va_S A s.heap s.heap [] → (∀ q, s.heap.size ≤ q → A q) →
      W p l e (headSpec ws9 rm).room s m av.toArray below meth c s.heap [] 0 0 (MQ below (Qf A) av.toArray s mc ms A) (F0 m 0 ls [])) :
    Met l y ws9 rm (va_Pc av (my_P D cl tys sz ws)) (Qf (va_A ws sz)) mc ms (va_A ws sz) := by
  refine Met.ofW (cc := cc) (maxL := maxL) (ret := ret9) hy hw ?_
  intro p e s m args below meth c s₁ B hml hv
  obtain ⟨rfl, hsz, hP, hK, hD0⟩ := hv
  have hts := atoms_spec (ws := ws9) B.pre
  subst hsz
  have hl := lv_entry av (n := maxL) hlen
  rw [lg_entry_eq]
  exact body p e s m below meth c (va_A ws s.heap.size) _ B.exec B.bytes B.returns B.notSynchronized hml (findClass_of_methodNamed B.named) (name_of_methodNamed B.named B.method).1 hts hl hK hP hD0.self va_S.rf (fun q h => Or.inr h)
end MYC
end
section
/-! our own: an array over arrays of t is known (the printed rows name it) -/
def va_AOA (t : FieldType) (U : State) : Prop := (Cond.arrayOver (.array t)).before #[] U = true
theorem va_AOA.use {t : FieldType} {A : Array Value} {U : State} (h : va_AOA t U) : (Cond.arrayOver (.array t)).before A U = true := h
/-! ===== BEGIN new T[n][m]: the outer array a place, the inner ones among the pooled ===== -/
/-- f, but v at every address of l -/
def vr_up {α : Type} (f : Nat → α) (l : List Nat) (v : α) : Nat → α := fun a => if a ∈ l then v else f a
theorem vr_up_in {α : Type} {f : Nat → α} {l : List Nat} {v : α} {a : Nat} (h : a ∈ l) : vr_up f l v a = v := if_pos h
theorem vr_up_ne {α : Type} {f : Nat → α} {l : List Nat} {v : α} {a : Nat} (h : a ∉ l) : vr_up f l v a = f a := if_neg h
theorem vr_rows {L l : List Nat} {f : Nat → va_E} {e : va_E} (h : ∀ a, a ∈ l → a ∉ L) : va_pl L f ++ l.map (fun a => (a, e)) = va_pl (L ++ l) (vr_up f l e) := by
  unfold va_pl
  rw [List.map_append]
  congr 1
  · apply List.map_congr_left
    intro a ha
    rw [vr_up_ne (fun q => h a q ha)]
  · apply List.map_congr_left
    intro a ha
    rw [vr_up_in ha]
theorem vr_lay {X rows : va_W} {x : Nat × va_E} {pl : va_W} {D : va_G} {cl : List vw_C} {H : Heap} (hP : va_P D cl (((X ++ pl) ++ [x]) ++ rows) H) : va_P D cl ((X ++ [x]) ++ (pl ++ rows)) H := by
  rw [List.append_assoc (X ++ pl)] at hP
  have h := va_P.swap hP
  rw [← List.append_assoc X] at h
  have h2 := va_P.swap h
  rw [List.append_assoc (X ++ [x])] at h2
  exact h2
theorem vr_layD {X rows : va_W} {x : Nat × va_E} {pl : va_W} {A : Nat → Prop} (hD : va_D A (((X ++ pl) ++ [x]) ++ rows)) : va_D A ((X ++ [x]) ++ (pl ++ rows)) := by
  rw [List.append_assoc (X ++ pl)] at hD
  have h := va_D.swap hD
  rw [← List.append_assoc X] at h
  have h2 := va_D.swap h
  rw [List.append_assoc (X ++ [x])] at h2
  exact h2
theorem vr_outer (c : ClassId) (N h0 : Nat) : ∀ i : Nat, Jvm.Free.Multi.outerC c N h0 i = arrV c N (fun j => va_rf (if j < i then some (h0 + 1 + j) else none))
  | 0 => by
    show ({ cls := c, slots := Array.replicate N .null, vm := .none } : Cell) = _
    rw [arrV_new]
    refine congrArg (arrV c N) (funext fun j => ?_)
    simp [va_rf]
  | i + 1 => by
    show (Jvm.Free.Multi.outerC c N h0 i).setSlot i (.ref (h0 + 1 + i)) = _
    rw [vr_outer c N h0 i, arrV_store]
    refine congrArg (arrV c N) (funext fun j => ?_)
    by_cases e : j = i
    · subst e
      simp [updV, va_rf]
    · by_cases h : j < i
      · simp [updV, e, h, Nat.lt_succ_of_lt h]
      · simp [updV, e, h, show ¬ j < i + 1 by omega]
section VGM
variable {p : Program} {l : Launch} {e : Env} {R : Room} {s : State} {m : MethodId} {args : Array Value} {below : List Frame} {meth : Method} {c : Code} {H : Heap} {locs : List Loc} {cells slots : Nat} {Q : State → Prop}
variable {cc : ByteArray} {pc : Nat} {ls : Array Slot} {rest : List Value} {D : va_G} {cl : List vw_C} {A : Nat → Prop} {a : Nat} {tys : List (ClassId × FieldType)} {ws : va_W} {H0 : Heap}
theorem va_mna {X : va_W} {L : List Nat} {f : Nat → va_E} {cc : ByteArray} (hexec : p.tables.exec = Jvm.exec) (hb : c.code = cc) {own : String} {index : Nat} {ty : FieldType} {cy : ClassId} (hown : s.vm.findClass own = some m.cls) (hclink : (Cond.classLink own index ("[" ++ (FieldType.array ty).toString)).before args s = true) (hover : va_AOA ty s) (harr : (Cond.arrayClass ty).before args s = true) (hcy : s.vm.findClass (FieldType.array ty).toString = some cy)
    (hK : va_K D cl tys s) (hP : va_P D cl (X ++ va_pl L f) H) (hD : va_D A (X ++ va_pl L f)) (hS : va_S A H0 H locs) (hA : ∀ q, H0.size ≤ q → A q) {n k : Int32} {N' K' : Nat} {z : vp_A} (hn : ¬ n < 0) (hk : ¬ k < 0) (hN : n.toNatClampNeg = N') (hM : k.toNatClampNeg = K')
    (hb1 : N' * 4 ≤ 536870912) (hb2 : K' * componentBytes ty ≤ 536870912) (hb3 : K' ≤ 536870912) (hdf : fits ty (defaultValue ty) = true) (hdd : (defaultValue ty).isDefault = true) (hcells : cells + (1 + N') ≤ R.cells) (hslots : slots + (N' + N' * K') ≤ R.slots) (hz : ∀ c : ClassId, Jvm.Free.Multi.innerC c K' (defaultValue ty) = vp_cell c z) (hdg : decode cc pc = .ok (.multianewarray index 2, 4))
    (kk : ∀ (q : Nat) (r : Nat → Nat) (cA : ClassId) (H1 : Heap), (∀ i j : Nat, i < N' → j < N' → r i = r j → i = j) → (∀ i : Nat, i < N' → r i ∉ L) → va_K D cl (tys ++ [(cA, .array ty)]) s →
      va_P D cl ((X ++ [(q, .inl (cA, N', .inr (.inr (.inr (.inr (fun i => if i < N' then some (r i) else none))))))]) ++ va_pl (L ++ (List.range N').map r) (vr_up f ((List.range N').map r) (.inl (cy, z)))) H1 → va_D A ((X ++ [(q, .inl (cA, N', .inr (.inr (.inr (.inr (fun i => if i < N' then some (r i) else none))))))]) ++ va_pl (L ++ (List.range N').map r) (vr_up f ((List.range N').map r) (.inl (cy, z)))) → va_S A H0 H1 locs →
      W p l e R s m args below meth c H1 locs (cells + 1 + N') (slots + N' + N' * K') Q (F0 m (pc + 4) ls (.ref q :: rest))) : W p l e R s m args below meth c H locs cells slots Q (F0 m pc ls (.int k :: .int n :: rest)) := by
  subst hN
  subst hM
  intro T hT Xs
  obtain ⟨vm₁, cA, comp, -, fA, fC, hO, -, X', step⟩ := Xs.multianewarray2F hexec hown hclink (va_AOA.use hover) harr (g := F0 m pc ls (.int k :: .int n :: rest)) rfl (by rw [hb]; exact hdg) rfl hn hk hb1 hb2 hb3 hdf hdd hcells hslots
  have ec : some cy = some comp := hcy.symm.trans fC
  cases ec
  generalize hF : Jvm.Free.Multi.fill (T.setVm vm₁) cA cy n.toNatClampNeg k.toNatClampNeg (defaultValue ty) n.toNatClampNeg = F at X' step
  have hTh : (T.setVm vm₁).heap = H := hT
  obtain ⟨f1, f2, -, -⟩ := Jvm.Free.Multi.fill_facts (T.setVm vm₁) cA cy n.toNatClampNeg k.toNatClampNeg (defaultValue ty) n.toNatClampNeg
  rw [hF, hTh] at f1 f2
  have hold : ∀ x : Nat, x < H.size → F.heap[x]? = H[x]? := fun x hx => by
    have := Jvm.Free.Multi.fill_old (T.setVm vm₁) cA cy n.toNatClampNeg k.toNatClampNeg (defaultValue ty) (a := x) (by rw [hTh]; exact hx) n.toNatClampNeg
    rw [hF, hTh] at this
    exact this
  have hrow : ∀ j : Nat, j < n.toNatClampNeg → F.heap[H.size + 1 + j]? = some (vp_cell cy z) := fun j hj => by
    have := Jvm.Free.Multi.fill_inner (T.setVm vm₁) cA cy n.toNatClampNeg k.toNatClampNeg (defaultValue ty) n.toNatClampNeg j hj
    rw [hF, hTh, hz] at this
    exact this
  have hout : Jvm.Free.Multi.outerC cA n.toNatClampNeg H.size n.toNatClampNeg = vp_cell cA (n.toNatClampNeg, .inr (.inr (.inr (.inr (fun i => if i < n.toNatClampNeg then some (H.size + 1 + i) else none))))) := by
    rw [vp_cell_q]
    exact vr_outer cA n.toNatClampNeg H.size n.toNatClampNeg
  rw [hout] at f2
  have hlt : ∀ a, a ∈ L → a < H.size := fun a ha => by
    obtain ⟨k9, hk9⟩ := va_pl_get (X := X) (f := f) ha
    exact (hP k9 _ hk9).lt
  have hnl : ∀ i : Nat, i < n.toNatClampNeg → H.size + 1 + i ∉ L := fun i _ h => by
    have := hlt _ h
    omega
  have hnm : ∀ a, a ∈ (List.range n.toNatClampNeg).map (fun i => H.size + 1 + i) → a ∉ L := fun a ha h => by
    obtain ⟨i, -, rfl⟩ := List.mem_map.mp ha
    have := hlt _ h
    omega
  have hP0 : va_P D cl (X ++ va_pl L f) F.heap := hP.kept (fun k9 x hx => hold x.1 ((hP k9 x hx).lt))
  have hP1 : va_P D cl ((X ++ va_pl L f) ++ [(H.size, .inl (cA, n.toNatClampNeg, .inr (.inr (.inr (.inr (fun i => if i < n.toNatClampNeg then some (H.size + 1 + i) else none))))))]) F.heap := hP0.app (fun k9 x hx => by
    have h0 : k9 < 1 := (List.getElem?_eq_some_iff.mp hx).1
    rw [show k9 = 0 by omega] at hx
    cases hx
    exact f2)
  have hP2 : va_P D cl (((X ++ va_pl L f) ++ [(H.size, .inl (cA, n.toNatClampNeg, .inr (.inr (.inr (.inr (fun i => if i < n.toNatClampNeg then some (H.size + 1 + i) else none))))))]) ++ ((List.range n.toNatClampNeg).map (fun i => H.size + 1 + i)).map (fun a => (a, .inl (cy, z)))) F.heap := hP1.app (fun k9 x hx => by
    obtain ⟨a, ha, rfl⟩ := List.mem_map.mp (List.mem_of_getElem? hx)
    obtain ⟨i, hi, rfl⟩ := List.mem_map.mp ha
    exact hrow i (List.mem_range.mp hi))
  have hD2 : va_D A (((X ++ va_pl L f) ++ [(H.size, .inl (cA, n.toNatClampNeg, .inr (.inr (.inr (.inr (fun i => if i < n.toNatClampNeg then some (H.size + 1 + i) else none))))))]) ++ ((List.range n.toNatClampNeg).map (fun i => H.size + 1 + i)).map (fun a => (a, .inl (cy, z)))) := by
    have hD1 := hD.push (e := .inl (cA, n.toNatClampNeg, .inr (.inr (.inr (.inr (fun i => if i < n.toNatClampNeg then some (H.size + 1 + i) else none)))))) hP rfl (hA _ hS.1)
    generalize hW1 : (X ++ va_pl L f) ++ [(H.size, .inl (cA, n.toNatClampNeg, .inr (.inr (.inr (.inr (fun i => if i < n.toNatClampNeg then some (H.size + 1 + i) else none))))))] = W1 at hD1 hP1 ⊢
    have hle : ∀ (k9 : Nat) (x : Nat × va_E), W1[k9]? = some x → x.1 ≤ H.size := fun k9 x hx => by
      rw [← hW1] at hx
      by_cases hl : k9 < (X ++ va_pl L f).length
      · rw [List.getElem?_append_left hl] at hx
        exact Nat.le_of_lt ((hP k9 x hx).lt)
      · rw [List.getElem?_append_right (by omega)] at hx
        have h0 : k9 - (X ++ va_pl L f).length < 1 := (List.getElem?_eq_some_iff.mp hx).1
        rw [show k9 - (X ++ va_pl L f).length = 0 by omega] at hx
        cases hx
        exact Nat.le_refl _
    have hr : ∀ (k9 : Nat) (x : Nat × va_E), (((List.range n.toNatClampNeg).map (fun i => H.size + 1 + i)).map (fun a => ((a, .inl (cy, z)) : Nat × va_E)))[k9]? = some x → x.1 = H.size + 1 + k9 := fun k9 x hx => by
      rw [List.getElem?_map, List.getElem?_map] at hx
      by_cases h9 : k9 < n.toNatClampNeg
      · rw [List.getElem?_range h9] at hx
        cases hx
        rfl
      · have hn0 : (List.range n.toNatClampNeg)[k9]? = none := List.getElem?_eq_none (by rw [List.length_range]; omega)
        rw [hn0] at hx
        cases hx
    refine ⟨fun i j x y hi hj hxy => ?_, fun k9 x hx => ?_⟩
    · by_cases h1 : i < W1.length <;> by_cases h2 : j < W1.length
      · rw [List.getElem?_append_left h1] at hi
        rw [List.getElem?_append_left h2] at hj
        exact hD1.1 i j x y hi hj hxy
      · rw [List.getElem?_append_left h1] at hi
        rw [List.getElem?_append_right (by omega)] at hj
        have := hle _ _ hi
        have := hr _ _ hj
        omega
      · rw [List.getElem?_append_right (by omega)] at hi
        rw [List.getElem?_append_left h2] at hj
        have := hle _ _ hj
        have := hr _ _ hi
        omega
      · rw [List.getElem?_append_right (by omega)] at hi hj
        have := hr _ _ hi
        have := hr _ _ hj
        omega
    · by_cases h1 : k9 < W1.length
      · rw [List.getElem?_append_left h1] at hx
        exact hD1.2 k9 x hx
      · rw [List.getElem?_append_right (by omega)] at hx
        have := hr _ _ hx
        exact hA _ (by have := hS.1; omega)
  have hAr : ArrOfT s cA (.array ty) := fun N9 z9 => by
    obtain ⟨-, k9, hk9, cm9, hkk9⟩ := (hO 0 0 0).1
    exact ⟨(fun q hq => by cases hq), k9, hk9, cm9, hkk9⟩
  have hK2 : va_K D cl (tys ++ [(cA, .array ty)]) s := ⟨hK.1, fun k9 x hx => by
    by_cases hl : k9 < tys.length
    · rw [List.getElem?_append_left hl] at hx
      exact hK.2 k9 x hx
    · rw [List.getElem?_append_right (by omega)] at hx
      have h0 : k9 - tys.length < 1 := (List.getElem?_eq_some_iff.mp hx).1
      rw [show k9 - tys.length = 0 by omega] at hx
      cases hx
      exact ⟨hAr, fA⟩⟩
  obtain ⟨t, a1, b1⟩ := kk H.size (fun i => H.size + 1 + i) cA F.heap (fun i j _ _ h => by have h9 : H.size + 1 + i = H.size + 1 + j := h; omega) hnl hK2 (by rw [← vr_rows hnm]; exact vr_lay hP2) (by rw [← vr_rows hnm]; exact vr_layD hD2) ⟨by rw [f1]; have := hS.1; omega, fun x h1 h2 => (hold x (Nat.lt_of_lt_of_le h1 hS.1)).trans (hS.2.1 x h1 h2), hS.2.2⟩ F rfl X'
  refine ⟨t, step t ?_, b1⟩
  have e : T.heap.size = H.size := by rw [hT]
  rw [e]
  exact a1
end VGM
/-! ===== END ===== -/

/-! ===== BEGIN exceptions that leave a method, and their catching by the caller (launches without stack traces) ===== -/
section VXA
/-! The laws vx_back, vx_callV, vx_callS, vx_callSW, vx_throw0, vx_throwS follow proofs of the library, with one case more: JvmDerived/Free/Laws.lean (Back.of_free), Shelf42/LK1.lean (callV, callS), Shelf/KitTraced.lean (throwNew0V, throwNewS). -/
/-- where a method has thrown q: the class by its name, the cell, what was written, the world -/
def vx_T (XC : String → State → State → Prop) (st : State) (q : Addr) (t : State) (mc ms : Nat) (free : Addr → Prop) : Prop :=
  ∃ (E : String) (ce : Cell) (L : List Loc), XC E st t ∧ t.heap[q]? = some ce ∧ ce.vm = .none ∧ st.vm.findClass E = some ce.cls ∧ st.WarmedH t.vm ∧ st.sameButNew ({ t with vm := st.vm } : State) L mc ms ∧ ∀ z ∈ L, free z.base
def vx_Q (Qc : Array Value → State → Outcome → State → Prop) (XC : String → State → State → Prop) (mc ms : Nat) (free : Addr → Prop) : Array Value → State → Outcome → State → Prop := fun a st o t =>
  (Qc a st o t ∧ ∃ L, FrameEnd st o t L mc ms ∧ ∀ q ∈ L, free q.base) ∨ ∃ q, o = .threw q ∧ vx_T XC st q t mc ms free
/-- a callee that returns or throws -/
def vx_Met (l : Launch) (y : MethodName) (ws : List Cond) (rm : Room) (Pc : Array Value → State → Prop) (Qc : Array Value → State → Outcome → State → Prop) (XC : String → State → State → Prop) (mc ms : Nat) (free : Addr → Prop) : Prop :=
  MetFree l y (headSpec ws rm) Pc (fun _ _ _ _ _ => True) (vx_Q Qc XC mc ms free)
def vx_Post (XC : String → State → State → Prop) (mc ms : Nat) (free : Addr → Prop) : Pt → Array Value → Addr → Pt → Prop := fun A a q B =>
  ∃ (g : JFrame) (mk : MethodId) (t : State) (L : List Loc) (E : String) (ce : Cell), B.U.heap = t.heap ∧ B.U.vm = t.vm ∧ XC E (A.U.calling g mk a) t ∧ t.heap[q]? = some ce ∧ ce.vm = .none ∧ A.U.vm.findClass E = some ce.cls ∧ B.locs = A.locs ++ L ∧ (∀ z ∈ L, free z.base) ∧ B.cells = A.cells + mc ∧ B.slots = A.slots + ms
def vx_Back (l : Launch) (R : Room) (p : Program) (e : Env) (below : List Frame) (s : State) (sargs : Array Value) (y : MethodName) (len W9 : Nat)
    (Pre : Pt → Array Value → Prop) (Post : Pt → Array Value → Option Value → Pt → Prop) (PostX : Pt → Array Value → Addr → Pt → Prop) : Prop :=
  ∀ (m : MethodId) (meth : Method) (c : Code) (A : Pt) (g : JFrame) (ig : Instr) (mk : MethodId) (a : Array Value),
    Stand p l e R s m sargs below meth c A.U A.locs A.cells A.slots → g.method = m → g.locals.size = c.maxLocals → decode c.code g.pc = .ok (ig, len) →
    2 * g.monitorRoom + (g.stack.map fun v => v.category).sum ≤ W9 → A.U.methodNamed? y = some mk → Pre A a →
    (∃ (v : Option Value) (B : Pt), Stand p l e R s m sargs below meth c B.U B.locs B.cells B.slots ∧ Post A a v B ∧
      Steps p.tables e below (doInvoke e (A.U.setTop g) [] mk a).1 (B.U.setTop { g with pc := g.pc + len, stack := v.toList ++ g.stack })) ∨
    (∃ (q : Addr) (B : Pt), Stand p l e R s m sargs below meth c B.U B.locs B.cells B.slots ∧ PostX A a q B ∧
      Steps p.tables e below (doInvoke e (A.U.setTop g) [] mk a).1 ((B.U.setTop g).pushFrame (.throwing q)))
section Payer
variable {l : Launch} {R : Room} {p : Program} {e : Env} {below : List Frame} {s : State} {sargs : Array Value} {y : MethodName} {len W9 : Nat}
theorem vx_back {ws : List Cond} {rm : Room} {Pc : Array Value → State → Prop} {Qc : Array Value → State → Outcome → State → Prop} {XC : String → State → State → Prop} {mc ms : Nat} {free : Addr → Prop} {bytes : ByteArray} {maxL : Nat} {ret : Option FieldType}
    (hM : vx_Met l y ws rm Pc Qc XC mc ms free) (hblind : FrameBlind Pc) (hrc : rm.cells = mc) (hrs : rm.slots = ms)
    (hframes : rm.frames + 1 ≤ R.frames) (hlocals : W9 + (maxL + 11) + rm.locals ≤ R.locals)
    (hws : ∀ w ∈ ws, ∀ a' U, s.WarmedH U.vm → w.before a' U = true) (hcode : Cond.code y bytes maxL ret ∈ ws) (hinit : ∀ a' U, s.WarmedH U.vm → (Cond.initialized y.cls).before a' U = true) :
    vx_Back l R p e below s sargs y len W9 (PreOf R mc ms Pc) (PostOf Qc mc ms free) (vx_Post XC mc ms free) := by
  intro m meth c A g ig mk a X hg hsize hdg hW hn hp
  have h1 : (headSpec ws rm).pre.before a A.U = true := atoms_intro fun w hw => hws w hw _ _ X.warmed
  have h2 : (Cond.code y bytes maxL ret).before a A.U = true := hws _ hcode _ _ X.warmed
  have h3 : (Cond.initialized y.cls).before a A.U = true := hinit _ _ X.warmed
  have h4 : A.cells + (headSpec ws rm).room.cells ≤ R.cells := by rw [show (headSpec ws rm).room.cells = mc from hrc]; exact hp.1
  have h5 : A.slots + (headSpec ws rm).room.slots ≤ R.slots := by rw [show (headSpec ws rm).room.slots = ms from hrs]; exact hp.2.1
  have hPc : Pc a (A.U.calling g mk a) := hblind _ _ _ _ hp.2.2
  obtain ⟨U, Ls, c0, s0⟩ := A
  dsimp only [Pt.U, Pt.locs, Pt.cells, Pt.slots] at h1 h2 h3 h4 h5 X hn hPc ⊢
  obtain ⟨methY, cY, hmY, hcY, -, hlY, -, -, -, -⟩ := Cond.code_spec hn h2
  obtain ⟨kY, hkY, -⟩ := className_of_methodNamed hn
  have hinitY : kY.init = .initialized := Cond.initialized_spec (findClass_of_methodNamed hn) hkY h3
  have h : At U g.method c below := by rw [hg]; exact X.here
  have hlocals9 : W9 + (maxL + 11) + (headSpec ws rm).room.locals ≤ R.locals := hlocals
  have happ : (headSpec ws rm).appliesLoose y e.platform (U.calling g mk a) = true :=
    Spec.appliesLoose_calling (g := g) h hdg hn hkY hinitY
      (X.room_calling (g := g) (R' := (headSpec ws rm).room) hsize hmY hcY hframes (by rw [hlY]; omega) h4 h5) h1
  obtain ⟨mid, hmid⟩ := h.above
  have hfr : (U.setTop g).frames = (.java g :: mid) ++ below := by rw [State.frames_setTop' g h.top, hmid]; rfl
  obtain ⟨o, s₂, hsteps, -, hend, hq⟩ := Steps.callFree hM p X.admits X.cas X.clock (acts := []) hfr happ hPc trivial
  have hq' : vx_Q Qc XC mc ms free a (U.calling g mk a) o s₂ := hq
  rw [State.frames_setTop' g h.top] at hend
  obtain ⟨g₀, hg0⟩ := Option.isSome_iff_exists.mp h.top
  obtain ⟨r, hr⟩ := State.topJava?_eq_some.mp hg0
  have hr' : (({ U with heap := s₂.heap, slotsUsed := s₂.slotsUsed } : State).setVm s₂.vm).frames = .java g₀ :: r := hr
  rcases hq' with ⟨hqc, L, hfe, hL⟩ | ⟨q, rfl, E, ce, L, hx, hce, hcv, hcl, hW₂, hsm, hL⟩
  · obtain ⟨⟨v, rfl⟩, hW₂, e2, q2, q3, q4, q5, q6⟩ := id hfe
    have e3 : s₂ = ({ (U.calling g mk a).setFrames s₂.frames with heap := s₂.heap, slotsUsed := s₂.slotsUsed } : State).setVm s₂.vm := by
      have : s₂ = ({ s₂ with vm := (U.calling g mk a).vm } : State).setVm s₂.vm := rfl
      rw [e2] at this
      exact this
    obtain ⟨c₂, i₂, len₂, hc₂, hd₂, hf₂⟩ := hend
    have hW' : U.WarmedH s₂.vm := hW₂
    have hcc : c₂ = c := by
      have h1 : s₂.code? g.method = U.code? g.method := by
        rw [State.code?_eq, State.code?_eq, hW'.alike.method?]
      exact Option.some.inj (hc₂.symm.trans (h1.trans h.code))
    subst hcc
    have hlen : len₂ = len := by rw [hdg] at hd₂; cases hd₂; rfl
    subst hlen
    have hs₂ : s₂ = (({ U with heap := s₂.heap, slotsUsed := s₂.slotsUsed } : State).setVm s₂.vm).setTop { g with pc := g.pc + len₂, stack := v.toList ++ g.stack } := by
      refine e3.trans ?_
      rw [hf₂, State.calling_eq h.top, State.setFrames_setFrames, State.setTop_of_frames _ hr', hr]
      rfl
    have hsame : U.sameButNew ({ U with heap := s₂.heap, slotsUsed := s₂.slotsUsed } : State) L mc ms := by
      refine ⟨?_, q2, q3, q4, q5, q6⟩
      obtain ⟨t, ht, -⟩ := State.frames_cons hr
      show ({ U with heap := s₂.heap, slotsUsed := s₂.slotsUsed } : State) = { U.setFrames U.frames with heap := s₂.heap, slotsUsed := s₂.slotsUsed }
      rw [State.setFrames_self ht]
    subst hg
    refine Or.inl ⟨v, ⟨(({ U with heap := s₂.heap, slotsUsed := s₂.slotsUsed } : State).setVm s₂.vm), Ls ++ L, c0 + mc, s0 + ms⟩,
      ⟨X.admits, X.cas, X.clock, X.frames, X.room, X.hears, X.method, X.code, (X.here.setHeapUsed s₂.heap s₂.slotsUsed).setVm hW'.alike, X.tail, State.WarmedH.trans X.warmed hW', X.limits, X.bytes, X.same.trans (hsame.setVm s.vm)⟩,
      ⟨g, mk, s₂, L, rfl, rfl, hqc, rfl, hL, rfl, rfl⟩, ?_⟩
    show Steps p.tables e below _ ((({ U with heap := s₂.heap, slotsUsed := s₂.slotsUsed } : State).setVm s₂.vm).setTop { g with pc := g.pc + len₂, stack := v.toList ++ g.stack })
    rw [← hs₂]
    exact hsteps
  · obtain ⟨e2, q2, q3, q4, q5, q6⟩ := id hsm
    have e3 : s₂ = ({ (U.calling g mk a).setFrames s₂.frames with heap := s₂.heap, slotsUsed := s₂.slotsUsed } : State).setVm s₂.vm := by
      have : s₂ = ({ s₂ with vm := (U.calling g mk a).vm } : State).setVm s₂.vm := rfl
      rw [e2] at this
      exact this
    have hf₂ : s₂.frames = .throwing q :: .java g :: U.frames.tail := hend
    have hW' : U.WarmedH s₂.vm := hW₂
    have hs₂ : s₂ = ((({ U with heap := s₂.heap, slotsUsed := s₂.slotsUsed } : State).setVm s₂.vm).setTop g).pushFrame (.throwing q) := by
      refine e3.trans ?_
      rw [hf₂, State.calling_eq h.top, State.setFrames_setFrames, State.pushFrame, State.frames_setTop _ hr', State.setTop_of_frames _ hr', State.setFrames_setFrames, hr]
      rfl
    have hsame : U.sameButNew ({ U with heap := s₂.heap, slotsUsed := s₂.slotsUsed } : State) L mc ms := by
      refine ⟨?_, q2, q3, q4, q5, q6⟩
      obtain ⟨t, ht, -⟩ := State.frames_cons hr
      show ({ U with heap := s₂.heap, slotsUsed := s₂.slotsUsed } : State) = { U.setFrames U.frames with heap := s₂.heap, slotsUsed := s₂.slotsUsed }
      rw [State.setFrames_self ht]
    subst hg
    refine Or.inr ⟨q, ⟨(({ U with heap := s₂.heap, slotsUsed := s₂.slotsUsed } : State).setVm s₂.vm), Ls ++ L, c0 + mc, s0 + ms⟩,
      ⟨X.admits, X.cas, X.clock, X.frames, X.room, X.hears, X.method, X.code, (X.here.setHeapUsed s₂.heap s₂.slotsUsed).setVm hW'.alike, X.tail, State.WarmedH.trans X.warmed hW', X.limits, X.bytes, X.same.trans (hsame.setVm s.vm)⟩,
      ⟨g, mk, s₂, L, E, ce, rfl, rfl, hx, hce, hcv, hcl, rfl, hL, rfl, rfl⟩, ?_⟩
    show Steps p.tables e below _ (((({ U with heap := s₂.heap, slotsUsed := s₂.slotsUsed } : State).setVm s₂.vm).setTop g).pushFrame (.throwing q))
    rw [← hs₂]
    exact hsteps
end Payer
section Calls
variable {p : Program} {l : Launch} {e : Env} {R : Room} {s : State} {m : MethodId} {args : Array Value} {below : List Frame} {meth : Method} {c : Code} {T : State} {locs : List Loc} {cells slots : Nat}
theorem vx_callV (X : Stand p l e R s m args below meth c T locs cells slots) (hexec : p.tables.exec = Jvm.exec) {own C : String} {index : Nat} {y : MethodName} {bytes : ByteArray} {maxL : Nat} {ret : Option FieldType}
    (hown : s.vm.findClass own = some m.cls) (hlink : (Cond.methodLink own index y).before args s = true) (hinst : (Cond.instanceMethod y).before args s = true) (hsel : (Cond.selects C y y).before args s = true)
    (hcode : (Cond.code y bytes maxL ret).before args s = true) (hy : y.cls ≠ "java/lang/invoke/MethodHandle" ∧ y.cls ≠ "java/lang/invoke/VarHandle")
    {W9 : Nat} {Pre : Pt → Array Value → Prop} {Post : Pt → Array Value → Option Value → Pt → Prop} {PostX : Pt → Array Value → Addr → Pt → Prop} (hK : vx_Back l R p e below s args y 3 W9 Pre Post PostX)
    {b : Addr} {cellB : Cell} (hcell : T.heap[b]? = some cellB) (hobj : cellB.vm.isStatics = false) (hcls : s.vm.findClass C = some cellB.cls)
    {g : JFrame} (hg : g.method = m) (hsize : g.locals.size = c.maxLocals) {argsL rest : List Value} (hlen : ∀ sig, parseMethodDescriptor y.desc = some sig → argsL.length = sig.parameters.length)
    (hstack : g.stack = argsL.reverse ++ .ref b :: rest) (hW : 2 * g.monitorRoom + (rest.map fun v => v.category).sum ≤ W9) (hdg : decode c.code g.pc = .ok (.invokevirtual index, 3))
    (hpre : ∀ vm₁, s.WarmedH vm₁ → Pre ⟨T.setVm vm₁, locs, cells, slots⟩ (Value.ref b :: argsL).toArray) :
    (∃ (v : Option Value) (vm₁ : Vm) (B : Pt), s.WarmedH vm₁ ∧ Stand p l e R s m args below meth c B.U B.locs B.cells B.slots ∧ Post ⟨T.setVm vm₁, locs, cells, slots⟩ (Value.ref b :: argsL).toArray v B ∧
      ∀ target, Steps p.tables e below (B.U.setTop { g with pc := g.pc + 3, stack := v.toList ++ rest }) target → Steps p.tables e below (T.setTop g) target) ∨
    (∃ (q : Addr) (vm₁ : Vm) (B : Pt), s.WarmedH vm₁ ∧ Stand p l e R s m args below meth c B.U B.locs B.cells B.slots ∧ PostX ⟨T.setVm vm₁, locs, cells, slots⟩ (Value.ref b :: argsL).toArray q B ∧
      Steps p.tables e below (T.setTop g) ((B.U.setTop { g with stack := rest }).pushFrame (.throwing q))) := by
  obtain ⟨mk, methM, hnamed, hmethM, hstM, habM⟩ := Cond.instanceMethod_spec hinst
  obtain ⟨methM', cM, hmethM', -, -, -, -, -, -, hsigM⟩ := Cond.code_spec hnamed hcode
  cases hmethM.symm.trans hmethM'
  obtain ⟨c2, r2, m2, q1, q2, q3, q4, kP, hkP, hkPi⟩ := Cond.selects_spec hsel
  cases hcls.symm.trans q1
  cases (State.methodFound?_of_named hnamed hy).symm.trans q2
  cases hnamed.symm.trans q3
  have hselP : selectMethod e.platform s.vm cellB.cls mk = .method mk := by rw [Launch.admits_selectMethod X.admits]; exact q4
  obtain ⟨vm₁, X₁, hstep₁⟩ := X.invokevirtual hexec hown hlink hnamed hmethM hstM hkP hkPi hy (a := b) (cell := cellB) hcell
    (fun z h => by rw [h] at hobj; cases hobj) hselP hmethM habM hkP hkPi (g := g) hg (argsL := argsL) (rest := rest) (hlen _ hsigM) hstack hdg
  rcases hK m meth c ⟨T.setVm vm₁, locs, cells, slots⟩ { g with stack := rest } (.invokevirtual index) mk (Value.ref b :: argsL).toArray X₁ hg hsize hdg hW (X₁.named hnamed) (hpre vm₁ X₁.warmed) with ⟨v, B, X', hpost, hsteps⟩ | ⟨q, B, X', hpost, hsteps⟩
  · exact Or.inl ⟨v, vm₁, B, X₁.warmed, X', hpost, fun target h => hstep₁ _ fun acts => by rw [doInvoke_state]; exact hsteps.trans h⟩
  · exact Or.inr ⟨q, vm₁, B, X₁.warmed, X', hpost, hstep₁ _ fun acts => by rw [doInvoke_state]; exact hsteps⟩
theorem vx_callS (X : Stand p l e R s m args below meth c T locs cells slots) (hexec : p.tables.exec = Jvm.exec) {own : String} {index : Nat} {y : MethodName} {bytes : ByteArray} {maxL : Nat} {ret : Option FieldType}
    (hown : s.vm.findClass own = some m.cls) (hlink : (Cond.methodLink own index y).before args s = true) (hstat : (Cond.static y).before args s = true) (hinit : (Cond.initialized y.cls).before args s = true)
    (hcode : (Cond.code y bytes maxL ret).before args s = true) (hy : y.cls ≠ "java/lang/invoke/MethodHandle" ∧ y.cls ≠ "java/lang/invoke/VarHandle")
    {W9 : Nat} {Pre : Pt → Array Value → Prop} {Post : Pt → Array Value → Option Value → Pt → Prop} {PostX : Pt → Array Value → Addr → Pt → Prop} (hK : vx_Back l R p e below s args y 3 W9 Pre Post PostX)
    {g : JFrame} (hg : g.method = m) (hsize : g.locals.size = c.maxLocals) {argsL rest : List Value} (hlen : ∀ sig, parseMethodDescriptor y.desc = some sig → argsL.length = sig.parameters.length)
    (hstack : g.stack = argsL.reverse ++ rest) (hW : 2 * g.monitorRoom + (rest.map fun v => v.category).sum ≤ W9) (hdg : decode c.code g.pc = .ok (.invokestatic index, 3))
    (hpre : ∀ vm₁, s.WarmedH vm₁ → Pre ⟨T.setVm vm₁, locs, cells, slots⟩ argsL.toArray) :
    (∃ (v : Option Value) (vm₁ : Vm) (B : Pt), s.WarmedH vm₁ ∧ Stand p l e R s m args below meth c B.U B.locs B.cells B.slots ∧ Post ⟨T.setVm vm₁, locs, cells, slots⟩ argsL.toArray v B ∧
      ∀ target, Steps p.tables e below (B.U.setTop { g with pc := g.pc + 3, stack := v.toList ++ rest }) target → Steps p.tables e below (T.setTop g) target) ∨
    (∃ (q : Addr) (vm₁ : Vm) (B : Pt), s.WarmedH vm₁ ∧ Stand p l e R s m args below meth c B.U B.locs B.cells B.slots ∧ PostX ⟨T.setVm vm₁, locs, cells, slots⟩ argsL.toArray q B ∧
      Steps p.tables e below (T.setTop g) ((B.U.setTop { g with stack := rest }).pushFrame (.throwing q))) := by
  obtain ⟨mk, hnamed⟩ := Cond.code_named hcode
  obtain ⟨methM, cM, hmethM, -, -, -, -, -, -, hsigM⟩ := Cond.code_spec hnamed hcode
  have hstatic : methM.isStatic = true := Cond.static_spec hnamed hmethM hstat
  obtain ⟨kP, hkP, -⟩ := className_of_methodNamed hnamed
  have hinitP : kP.init = .initialized := Cond.initialized_spec (findClass_of_methodNamed hnamed) hkP hinit
  obtain ⟨vm₁, X₁, hstep₁⟩ := X.invokestatic hexec hown hlink hnamed hmethM hstatic hkP hinitP hy (g := g) hg (argsL := argsL) (rest := rest) (hlen _ hsigM) hstack hdg
  rcases hK m meth c ⟨T.setVm vm₁, locs, cells, slots⟩ { g with stack := rest } (.invokestatic index) mk argsL.toArray X₁ hg hsize hdg hW (X₁.named hnamed) (hpre vm₁ X₁.warmed) with ⟨v, B, X', hpost, hsteps⟩ | ⟨q, B, X', hpost, hsteps⟩
  · exact Or.inl ⟨v, vm₁, B, X₁.warmed, X', hpost, fun target h => hstep₁ _ fun acts => by rw [doInvoke_state]; exact hsteps.trans h⟩
  · exact Or.inr ⟨q, vm₁, B, X₁.warmed, X', hpost, hstep₁ _ fun acts => by rw [doInvoke_state]; exact hsteps⟩
end Calls
theorem vx_cls {s : State} {T : State} {vm₁ : Vm} {E : String} {k : ClassId} (hW : s.WarmedH vm₁) (h : (T.setVm vm₁).vm.findClass E = some k) : s.vm.findClass E = some k := by
  have h1 : vm₁.findClass E = some k := h
  rw [hW.alike.findClass] at h1
  exact h1
/-- the method's frame g, with q thrown over it -/
def vx_W (p : Program) (l : Launch) (e : Env) (R : Room) (s : State) (m : MethodId) (args : Array Value) (below : List Frame) (meth : Method) (c : Code) (H : Heap) (locs : List Loc) (cells slots : Nat) (Q : State → Prop) (g : JFrame) (q : Addr) : Prop :=
  ∀ T : State, T.heap = H → Stand p l e R s m args below meth c T locs cells slots → ∃ t, Steps p.tables e below ((T.setTop g).pushFrame (.throwing q)) t ∧ Q t
def vx_Run (p : Program) (l : Launch) (e : Env) (R : Room) (s : State) (m : MethodId) (args : Array Value) (below : List Frame) (meth : Method) (c : Code) (H : Heap) (locs : List Loc) (cells slots mc ms : Nat) (g : JFrame) (rest : List Value) (Qa : State → Outcome → State → Prop) (XC : String → State → State → Prop) (free : Addr → Prop) : Prop :=
  ∀ T : State, T.heap = H → Stand p l e R s m args below meth c T locs cells slots →
    (∃ (v : Option Value) (st₀ t T' : State) (L : List Loc), st₀.heap = H ∧ Stand p l e R s m args below meth c T' (locs ++ L) (cells + mc) (slots + ms) ∧ (∀ q ∈ L, free q.base) ∧ T'.heap = t.heap ∧ T'.vm = t.vm ∧ Qa st₀ (.returned v) t ∧
      Goes p e below T g T' { g with pc := g.pc + 3, stack := v.toList ++ rest }) ∨
    (∃ (q : Addr) (st₀ t T' : State) (L : List Loc) (E : String) (ce : Cell), st₀.heap = H ∧ Stand p l e R s m args below meth c T' (locs ++ L) (cells + mc) (slots + ms) ∧ (∀ z ∈ L, free z.base) ∧ T'.heap = t.heap ∧ T'.vm = t.vm ∧ XC E st₀ t ∧ t.heap[q]? = some ce ∧ ce.vm = .none ∧ s.vm.findClass E = some ce.cls ∧
      Steps p.tables e below (T.setTop g) ((T'.setTop { g with stack := rest }).pushFrame (.throwing q)))
def vx_X {S : Type} (px : S → Prop) (B : String → S → State → Prop) (A : Nat → Prop) : String → State → State → Prop := fun E st t => ∃ u : S, px u ∧ B E u t ∧ va_F A st t
section Runs
variable {p : Program} {l : Launch} {e : Env} {R : Room} {s : State} {m : MethodId} {args : Array Value} {below : List Frame} {meth : Method} {c : Code} {H : Heap} {locs : List Loc} {cells slots : Nat}
variable {y : MethodName} {bytes cc : ByteArray} {maxL nL mc ms n index : Nat} {ret : Option FieldType} {ws : List Cond} {rm : Room} {Pc : Array Value → State → Prop} {Qc : Array Value → State → Outcome → State → Prop} {XC : String → State → State → Prop} {free : Addr → Prop} {Ts : List Cond} {own C : String} {b : Addr} {As rest : List Value} {g : JFrame}
theorem vx_callBack (cb : CallB R s args own index y bytes maxL ret ws rm mc ms n) (hM : vx_Met l y ws rm Pc Qc XC mc ms free) (hbl : FrameBlind Pc) : vx_Back l R p e below s args y 3 8 (PreOf R mc ms Pc) (PostOf Qc mc ms free) (vx_Post XC mc ms free) := by
  obtain ⟨hrc, hrs, hfr, hlo, hws, hcw, -, hini, -⟩ := cb
  exact vx_back (bytes := bytes) (maxL := maxL) (ret := ret) hM hbl hrc hrs hfr hlo hws hcw (fun a' U hW => word_at hW (Or.inl (by first | rfl | simp [Cond.onTables, Cond.keeps, Cond.steady])) hini)
theorem vx_runV (S : CallFix p m c cc nL s args Ts own) (hM : vx_Met l y ws rm Pc Qc XC mc ms free) (cw : CallW R s args own C index y bytes maxL ret ws rm mc ms n) (hp : PreV s H C b Pc As)
    (hg : g.method = m) (hn : As.length = n) (hsize : g.locals.size = nL) (hstack : g.stack = As.reverse ++ .ref b :: rest) (hW : 2 * g.monitorRoom + (rest.map fun v => v.category).sum ≤ 8) (hdg : decode cc g.pc = .ok (.invokevirtual index, 3)) (hf : cells + mc ≤ R.cells ∧ slots + ms ≤ R.slots) :
    vx_Run p l e R s m args below meth c H locs cells slots mc ms g rest (Qc (Value.ref b :: As).toArray) XC free := by
  have hK : vx_Back l R p e below s args y 3 8 (PreOf R mc ms Pc) (PostOf Qc mc ms free) (vx_Post XC mc ms free) := vx_callBack cw.1 hM hp.1
  obtain ⟨⟨-, -, -, -, -, -, hcode, -, hy, hlen, hl⟩, hin, hse⟩ := cw
  obtain ⟨hx, hb, hml, ho, -⟩ := S
  obtain ⟨-, ⟨cellB, hcB, hoB, hclB⟩, hPc⟩ := hp
  intro T hT X
  rcases vx_callV X hx (C := C) (bytes := bytes) (maxL := maxL) (ret := ret) ho hl hin hse hcode hy hK (by rw [hT]; exact hcB) hoB hclB hg (hsize.trans hml.symm) (argsL := As) (rest := rest) (fun sig h => hn.trans (hlen sig h)) hstack hW (by rw [hb]; exact hdg)
    (fun vm₁ hW₁ => ⟨hf.1, hf.2, hPc (T.setVm vm₁) hT hW₁⟩) with ⟨v, vm₁, ⟨U', l2, c2, s2⟩, hW₁, X', ⟨g', mk, t, L, e1, e2, hq, h1, hL, h2, h3⟩, st⟩ | ⟨q, vm₁, ⟨U', l2, c2, s2⟩, hW₁, X', ⟨g', mk, t, L, E, ce, e1, e2, hq, hce, hcv, hcl, h1, hL, h2, h3⟩, st⟩
  · dsimp only [Pt.U, Pt.locs, Pt.cells, Pt.slots] at X' e1 e2 h1 h2 h3 st
    subst h1; subst h2; subst h3
    exact Or.inl ⟨v, (T.setVm vm₁).calling g' mk (Value.ref b :: As).toArray, t, U', L, hT, X', hL, e1, e2, hq, st⟩
  · dsimp only [Pt.U, Pt.locs, Pt.cells, Pt.slots] at X' e1 e2 h1 h2 h3 st hcl
    subst h1; subst h2; subst h3
    exact Or.inr ⟨q, (T.setVm vm₁).calling g' mk (Value.ref b :: As).toArray, t, U', L, E, ce, hT, X', hL, e1, e2, hq, hce, hcv, vx_cls hW₁ hcl, st⟩
theorem vx_runS (S : CallFix p m c cc nL s args Ts own) (hM : vx_Met l y ws rm Pc Qc XC mc ms free) (cw : CallB R s args own index y bytes maxL ret ws rm mc ms n ∧ (Cond.static y).before args s = true) (hp : PreS s H Pc As)
    (hg : g.method = m) (hn : As.length = n) (hsize : g.locals.size = nL) (hstack : g.stack = As.reverse ++ rest) (hW : 2 * g.monitorRoom + (rest.map fun v => v.category).sum ≤ 8) (hdg : decode cc g.pc = .ok (.invokestatic index, 3)) (hf : cells + mc ≤ R.cells ∧ slots + ms ≤ R.slots) :
    vx_Run p l e R s m args below meth c H locs cells slots mc ms g rest (Qc As.toArray) XC free := by
  have hK : vx_Back l R p e below s args y 3 8 (PreOf R mc ms Pc) (PostOf Qc mc ms free) (vx_Post XC mc ms free) := vx_callBack cw.1 hM hp.1
  obtain ⟨⟨-, -, -, -, -, -, hcode, hini, hy, hlen, hl⟩, hstt⟩ := cw
  obtain ⟨hx, hb, hml, ho, -⟩ := S
  intro T hT X
  rcases vx_callS X hx (bytes := bytes) (maxL := maxL) (ret := ret) ho hl hstt hini hcode hy hK hg (hsize.trans hml.symm) (argsL := As) (rest := rest) (fun sig h => hn.trans (hlen sig h)) hstack hW (by rw [hb]; exact hdg)
    (fun vm₁ hW₁ => ⟨hf.1, hf.2, hp.2 (T.setVm vm₁) hT hW₁⟩) with ⟨v, vm₁, ⟨U', l2, c2, s2⟩, hW₁, X', ⟨g', mk, t, L, e1, e2, hq, h1, hL, h2, h3⟩, st⟩ | ⟨q, vm₁, ⟨U', l2, c2, s2⟩, hW₁, X', ⟨g', mk, t, L, E, ce, e1, e2, hq, hce, hcv, hcl, h1, hL, h2, h3⟩, st⟩
  · dsimp only [Pt.U, Pt.locs, Pt.cells, Pt.slots] at X' e1 e2 h1 h2 h3 st
    subst h1; subst h2; subst h3
    exact Or.inl ⟨v, (T.setVm vm₁).calling g' mk As.toArray, t, U', L, hT, X', hL, e1, e2, hq, st⟩
  · dsimp only [Pt.U, Pt.locs, Pt.cells, Pt.slots] at X' e1 e2 h1 h2 h3 st hcl
    subst h1; subst h2; subst h3
    exact Or.inr ⟨q, (T.setVm vm₁).calling g' mk As.toArray, t, U', L, E, ce, hT, X', hL, e1, e2, hq, hce, hcv, vx_cls hW₁ hcl, st⟩
end Runs
section Rows
variable {p : Program} {l : Launch} {e : Env} {R : Room} {s : State} {m : MethodId} {args : Array Value} {below : List Frame} {meth : Method} {c : Code} {H : Heap} {locs : List Loc} {cells slots : Nat} {Q : State → Prop}
variable {mc ms : Nat} {free : Addr → Prop} {A0 A1 : Nat → Prop} {H0 : Heap} {a : Array Value} {pc : Nat} {ls : Array Slot} {st0 rest : List Value}
theorem vx_keep {st₀ t T' : State} {L : List Loc} (h0 : st₀.heap = H) (e1 : T'.heap = t.heap) (hS : va_S A0 H0 H locs) (hA : ∀ q, q < H.size → A1 q → A0 q) (hf : ∀ q, free q → A0 q) (hL : ∀ q ∈ L, free q.base) (hF : va_F A1 st₀ t) :
    H.size ≤ T'.heap.size ∧ (∀ q : Nat, q < H.size → ¬ A1 q → T'.heap[q]? = H[q]?) ∧ va_S A0 H0 T'.heap (locs ++ L) := by
  obtain ⟨hz, hk⟩ := hF
  rw [h0] at hz hk
  exact ⟨by rw [e1]; exact hz, fun q h1 h2 => by rw [e1]; exact hk q h1 h2,
    ⟨Nat.le_trans hS.1 (by rw [e1]; exact hz), fun q h1 h2 => by rw [e1, hk q (Nat.lt_of_lt_of_le h1 hS.1) (fun z => h2 (hA q (Nat.lt_of_lt_of_le h1 hS.1) z))]; exact hS.2.1 q h1 h2, fun q hq => by
      rcases List.mem_append.mp hq with h | h
      · exact hS.2.2 q h
      · exact hf _ (hL q h)⟩⟩
theorem vx_calli {S SX : Type} {post : Int32 → S → Prop} {px : SX → Prop} {B : S → State → Prop} {BX : String → SX → State → Prop} {AX : Nat → Prop} (hr : vx_Run p l e R s m args below meth c H locs cells slots mc ms (F0 m pc ls st0) rest (va_Qi post B A1 a) (vx_X px BX AX) free) (hS : va_S A0 H0 H locs) (hA : ∀ q, q < H.size → A1 q → A0 q) (hf : ∀ q, free q → A0 q) (hAX : ∀ q, q < H.size → AX q → A0 q)
    (kx : ∀ (E : String) (ce : Cell) (q9 : Addr) (u : SX) (t : State) (H1 : Heap) (locs1 : List Loc), t.heap = H1 → s.vm.Alike t.vm → px u → BX E u t → H.size ≤ H1.size → (∀ q : Nat, q < H.size → ¬ AX q → H1[q]? = H[q]?) → va_S A0 H0 H1 locs1 → H1[q9]? = some ce → ce.vm = .none → s.vm.findClass E = some ce.cls → vx_W p l e R s m args below meth c H1 locs1 (cells + mc) (slots + ms) Q (F0 m pc ls rest) q9)
    (kk : ∀ (r : Int32) (u : S) (t : State) (H1 : Heap) (locs1 : List Loc), t.heap = H1 → s.vm.Alike t.vm → post r u → B u t → H.size ≤ H1.size → (∀ q : Nat, q < H.size → ¬ A1 q → H1[q]? = H[q]?) → va_S A0 H0 H1 locs1 → W p l e R s m args below meth c H1 locs1 (cells + mc) (slots + ms) Q (F0 m (pc + 3) ls (.int r :: rest))) : W p l e R s m args below meth c H locs cells slots Q (F0 m pc ls st0) := by
  intro T hT X
  rcases hr T hT X with ⟨v, st₀, t, T', L, h0, X', hL, e1, e2, ⟨⟨r, u, hv, hp, hb⟩, hF⟩, st⟩ | ⟨q, st₀, t, T', L, E, ce, h0, X', hL, e1, e2, ⟨u, hp, hb, hF⟩, hce, hcv, hcl, st⟩
  · cases hv
    obtain ⟨k1, k2, k3⟩ := vx_keep h0 e1 hS hA hf hL hF
    obtain ⟨t2, a1, b1⟩ := kk r u t T'.heap (locs ++ L) e1.symm (by rw [← e2]; exact X'.warmed.alike) hp hb k1 k2 k3 T' rfl X'
    exact ⟨t2, st t2 a1, b1⟩
  · obtain ⟨k1, k2, k3⟩ := vx_keep h0 e1 hS hAX hf hL hF
    obtain ⟨t2, a1, b1⟩ := kx E ce q u t T'.heap (locs ++ L) e1.symm (by rw [← e2]; exact X'.warmed.alike) hp hb k1 k2 k3 (by rw [e1]; exact hce) hcv hcl T' rfl X'
    exact ⟨t2, st.trans a1, b1⟩
theorem vx_calll {S SX : Type} {post : Int64 → S → Prop} {px : SX → Prop} {B : S → State → Prop} {BX : String → SX → State → Prop} {AX : Nat → Prop} (hr : vx_Run p l e R s m args below meth c H locs cells slots mc ms (F0 m pc ls st0) rest (va_Ql post B A1 a) (vx_X px BX AX) free) (hS : va_S A0 H0 H locs) (hA : ∀ q, q < H.size → A1 q → A0 q) (hf : ∀ q, free q → A0 q) (hAX : ∀ q, q < H.size → AX q → A0 q)
    (kx : ∀ (E : String) (ce : Cell) (q9 : Addr) (u : SX) (t : State) (H1 : Heap) (locs1 : List Loc), t.heap = H1 → s.vm.Alike t.vm → px u → BX E u t → H.size ≤ H1.size → (∀ q : Nat, q < H.size → ¬ AX q → H1[q]? = H[q]?) → va_S A0 H0 H1 locs1 → H1[q9]? = some ce → ce.vm = .none → s.vm.findClass E = some ce.cls → vx_W p l e R s m args below meth c H1 locs1 (cells + mc) (slots + ms) Q (F0 m pc ls rest) q9)
    (kk : ∀ (r : Int64) (u : S) (t : State) (H1 : Heap) (locs1 : List Loc), t.heap = H1 → s.vm.Alike t.vm → post r u → B u t → H.size ≤ H1.size → (∀ q : Nat, q < H.size → ¬ A1 q → H1[q]? = H[q]?) → va_S A0 H0 H1 locs1 → W p l e R s m args below meth c H1 locs1 (cells + mc) (slots + ms) Q (F0 m (pc + 3) ls (.long r :: rest))) : W p l e R s m args below meth c H locs cells slots Q (F0 m pc ls st0) := by
  intro T hT X
  rcases hr T hT X with ⟨v, st₀, t, T', L, h0, X', hL, e1, e2, ⟨⟨r, u, hv, hp, hb⟩, hF⟩, st⟩ | ⟨q, st₀, t, T', L, E, ce, h0, X', hL, e1, e2, ⟨u, hp, hb, hF⟩, hce, hcv, hcl, st⟩
  · cases hv
    obtain ⟨k1, k2, k3⟩ := vx_keep h0 e1 hS hA hf hL hF
    obtain ⟨t2, a1, b1⟩ := kk r u t T'.heap (locs ++ L) e1.symm (by rw [← e2]; exact X'.warmed.alike) hp hb k1 k2 k3 T' rfl X'
    exact ⟨t2, st t2 a1, b1⟩
  · obtain ⟨k1, k2, k3⟩ := vx_keep h0 e1 hS hAX hf hL hF
    obtain ⟨t2, a1, b1⟩ := kx E ce q u t T'.heap (locs ++ L) e1.symm (by rw [← e2]; exact X'.warmed.alike) hp hb k1 k2 k3 (by rw [e1]; exact hce) hcv hcl T' rfl X'
    exact ⟨t2, st.trans a1, b1⟩
theorem vx_callf {S SX : Type} {post : UInt32 → S → Prop} {px : SX → Prop} {B : S → State → Prop} {BX : String → SX → State → Prop} {AX : Nat → Prop} (hr : vx_Run p l e R s m args below meth c H locs cells slots mc ms (F0 m pc ls st0) rest (va_Qf post B A1 a) (vx_X px BX AX) free) (hS : va_S A0 H0 H locs) (hA : ∀ q, q < H.size → A1 q → A0 q) (hf : ∀ q, free q → A0 q) (hAX : ∀ q, q < H.size → AX q → A0 q)
    (kx : ∀ (E : String) (ce : Cell) (q9 : Addr) (u : SX) (t : State) (H1 : Heap) (locs1 : List Loc), t.heap = H1 → s.vm.Alike t.vm → px u → BX E u t → H.size ≤ H1.size → (∀ q : Nat, q < H.size → ¬ AX q → H1[q]? = H[q]?) → va_S A0 H0 H1 locs1 → H1[q9]? = some ce → ce.vm = .none → s.vm.findClass E = some ce.cls → vx_W p l e R s m args below meth c H1 locs1 (cells + mc) (slots + ms) Q (F0 m pc ls rest) q9)
    (kk : ∀ (r : UInt32) (u : S) (t : State) (H1 : Heap) (locs1 : List Loc), t.heap = H1 → s.vm.Alike t.vm → post r u → B u t → H.size ≤ H1.size → (∀ q : Nat, q < H.size → ¬ A1 q → H1[q]? = H[q]?) → va_S A0 H0 H1 locs1 → W p l e R s m args below meth c H1 locs1 (cells + mc) (slots + ms) Q (F0 m (pc + 3) ls (.float r :: rest))) : W p l e R s m args below meth c H locs cells slots Q (F0 m pc ls st0) := by
  intro T hT X
  rcases hr T hT X with ⟨v, st₀, t, T', L, h0, X', hL, e1, e2, ⟨⟨r, u, hv, hp, hb⟩, hF⟩, st⟩ | ⟨q, st₀, t, T', L, E, ce, h0, X', hL, e1, e2, ⟨u, hp, hb, hF⟩, hce, hcv, hcl, st⟩
  · cases hv
    obtain ⟨k1, k2, k3⟩ := vx_keep h0 e1 hS hA hf hL hF
    obtain ⟨t2, a1, b1⟩ := kk r u t T'.heap (locs ++ L) e1.symm (by rw [← e2]; exact X'.warmed.alike) hp hb k1 k2 k3 T' rfl X'
    exact ⟨t2, st t2 a1, b1⟩
  · obtain ⟨k1, k2, k3⟩ := vx_keep h0 e1 hS hAX hf hL hF
    obtain ⟨t2, a1, b1⟩ := kx E ce q u t T'.heap (locs ++ L) e1.symm (by rw [← e2]; exact X'.warmed.alike) hp hb k1 k2 k3 (by rw [e1]; exact hce) hcv hcl T' rfl X'
    exact ⟨t2, st.trans a1, b1⟩
theorem vx_calld {S SX : Type} {post : UInt64 → S → Prop} {px : SX → Prop} {B : S → State → Prop} {BX : String → SX → State → Prop} {AX : Nat → Prop} (hr : vx_Run p l e R s m args below meth c H locs cells slots mc ms (F0 m pc ls st0) rest (va_Qd post B A1 a) (vx_X px BX AX) free) (hS : va_S A0 H0 H locs) (hA : ∀ q, q < H.size → A1 q → A0 q) (hf : ∀ q, free q → A0 q) (hAX : ∀ q, q < H.size → AX q → A0 q)
    (kx : ∀ (E : String) (ce : Cell) (q9 : Addr) (u : SX) (t : State) (H1 : Heap) (locs1 : List Loc), t.heap = H1 → s.vm.Alike t.vm → px u → BX E u t → H.size ≤ H1.size → (∀ q : Nat, q < H.size → ¬ AX q → H1[q]? = H[q]?) → va_S A0 H0 H1 locs1 → H1[q9]? = some ce → ce.vm = .none → s.vm.findClass E = some ce.cls → vx_W p l e R s m args below meth c H1 locs1 (cells + mc) (slots + ms) Q (F0 m pc ls rest) q9)
    (kk : ∀ (r : UInt64) (u : S) (t : State) (H1 : Heap) (locs1 : List Loc), t.heap = H1 → s.vm.Alike t.vm → post r u → B u t → H.size ≤ H1.size → (∀ q : Nat, q < H.size → ¬ A1 q → H1[q]? = H[q]?) → va_S A0 H0 H1 locs1 → W p l e R s m args below meth c H1 locs1 (cells + mc) (slots + ms) Q (F0 m (pc + 3) ls (.double r :: rest))) : W p l e R s m args below meth c H locs cells slots Q (F0 m pc ls st0) := by
  intro T hT X
  rcases hr T hT X with ⟨v, st₀, t, T', L, h0, X', hL, e1, e2, ⟨⟨r, u, hv, hp, hb⟩, hF⟩, st⟩ | ⟨q, st₀, t, T', L, E, ce, h0, X', hL, e1, e2, ⟨u, hp, hb, hF⟩, hce, hcv, hcl, st⟩
  · cases hv
    obtain ⟨k1, k2, k3⟩ := vx_keep h0 e1 hS hA hf hL hF
    obtain ⟨t2, a1, b1⟩ := kk r u t T'.heap (locs ++ L) e1.symm (by rw [← e2]; exact X'.warmed.alike) hp hb k1 k2 k3 T' rfl X'
    exact ⟨t2, st t2 a1, b1⟩
  · obtain ⟨k1, k2, k3⟩ := vx_keep h0 e1 hS hAX hf hL hF
    obtain ⟨t2, a1, b1⟩ := kx E ce q u t T'.heap (locs ++ L) e1.symm (by rw [← e2]; exact X'.warmed.alike) hp hb k1 k2 k3 (by rw [e1]; exact hce) hcv hcl T' rfl X'
    exact ⟨t2, st.trans a1, b1⟩
theorem vx_callv {S SX : Type} {post : S → Prop} {px : SX → Prop} {B : S → State → Prop} {BX : String → SX → State → Prop} {AX : Nat → Prop} (hr : vx_Run p l e R s m args below meth c H locs cells slots mc ms (F0 m pc ls st0) rest (va_Qv post B A1 a) (vx_X px BX AX) free) (hS : va_S A0 H0 H locs) (hA : ∀ q, q < H.size → A1 q → A0 q) (hf : ∀ q, free q → A0 q) (hAX : ∀ q, q < H.size → AX q → A0 q)
    (kx : ∀ (E : String) (ce : Cell) (q9 : Addr) (u : SX) (t : State) (H1 : Heap) (locs1 : List Loc), t.heap = H1 → s.vm.Alike t.vm → px u → BX E u t → H.size ≤ H1.size → (∀ q : Nat, q < H.size → ¬ AX q → H1[q]? = H[q]?) → va_S A0 H0 H1 locs1 → H1[q9]? = some ce → ce.vm = .none → s.vm.findClass E = some ce.cls → vx_W p l e R s m args below meth c H1 locs1 (cells + mc) (slots + ms) Q (F0 m pc ls rest) q9)
    (kk : ∀ (u : S) (t : State) (H1 : Heap) (locs1 : List Loc), t.heap = H1 → s.vm.Alike t.vm → post u → B u t → H.size ≤ H1.size → (∀ q : Nat, q < H.size → ¬ A1 q → H1[q]? = H[q]?) → va_S A0 H0 H1 locs1 → W p l e R s m args below meth c H1 locs1 (cells + mc) (slots + ms) Q (F0 m (pc + 3) ls (rest))) : W p l e R s m args below meth c H locs cells slots Q (F0 m pc ls st0) := by
  intro T hT X
  rcases hr T hT X with ⟨v, st₀, t, T', L, h0, X', hL, e1, e2, ⟨⟨u, hv, hp, hb⟩, hF⟩, st⟩ | ⟨q, st₀, t, T', L, E, ce, h0, X', hL, e1, e2, ⟨u, hp, hb, hF⟩, hce, hcv, hcl, st⟩
  · cases hv
    obtain ⟨k1, k2, k3⟩ := vx_keep h0 e1 hS hA hf hL hF
    obtain ⟨t2, a1, b1⟩ := kk u t T'.heap (locs ++ L) e1.symm (by rw [← e2]; exact X'.warmed.alike) hp hb k1 k2 k3 T' rfl X'
    exact ⟨t2, st t2 a1, b1⟩
  · obtain ⟨k1, k2, k3⟩ := vx_keep h0 e1 hS hAX hf hL hF
    obtain ⟨t2, a1, b1⟩ := kx E ce q u t T'.heap (locs ++ L) e1.symm (by rw [← e2]; exact X'.warmed.alike) hp hb k1 k2 k3 (by rw [e1]; exact hce) hcv hcl T' rfl X'
    exact ⟨t2, st.trans a1, b1⟩
/-- caught by the row x of this method's table; the rows ahead don't take it -/
theorem vx_catch {own name : String} {E : String} {ce : Cell} {q : Addr} (hown : s.vm.findClass own = some m.cls) (pre : List ExceptionTableEntry) (x : ExceptionTableEntry) (suf : List ExceptionTableEntry) (hsplit : c.exceptionTable.toList = pre ++ x :: suf)
    (hpass : ∀ z ∈ pre, covers z pc = false ∨ (z.catchType ≠ 0 ∧ ∃ nm : String, (Cond.classLink own z.catchType nm).before args s = true ∧ va_Nc E nm s)) (hx : covers x pc = true) (h0 : x.catchType ≠ 0)
    (hlink : (Cond.classLink own x.catchType name).before args s = true) (hcast : (Cond.castable E name).before args s = true) (hcell : H[q]? = some ce) (hv : ce.vm = .none) (hcl : s.vm.findClass E = some ce.cls)
    (kk : W p l e R s m args below meth c H locs cells slots Q (F0 m x.handlerPc ls [.ref q])) : vx_W p l e R s m args below meth c H locs cells slots Q (F0 m pc ls rest) q := by
  intro T hT X
  have hpl : e.platform.magicAccessors = ({} : Platform).magicAccessors := by rw [X.admits.platform]
  obtain ⟨c3, c4, hc3, hc4, hasg⟩ := Cond.castable_spec hcast
  cases Option.some.inj (hc3.symm.trans hcl)
  obtain ⟨c5, hc5, hcl5⟩ := Cond.classLink_spec hown hlink e.platform hpl
  cases Option.some.inj (hc4.symm.trans hc5)
  obtain ⟨vm', X', st⟩ := X.thenCaughtThrough q (g := F0 m pc ls rest) rfl (Steps.refl _) (by rw [hT]; exact hcell) (by rw [hv]; rfl) (by obtain ⟨k9, h9, -⟩ := Vm.findClass_spec hcl; exact ⟨k9, h9⟩) pre x suf hsplit
    (fun z hz => by
      rcases hpass z hz with h | ⟨hz0, nm, hl1, hn1⟩
      · exact Or.inl h
      · obtain ⟨c6, hc6, hcl6⟩ := Cond.classLink_spec hown hl1 e.platform hpl
        obtain ⟨a8, b8, h1, h2, h3⟩ := hn1
        cases Option.some.inj (h1.symm.trans hcl)
        cases Option.some.inj (h2.symm.trans hc6)
        exact Or.inr ⟨hz0, _, hcl6, h3⟩) hx (Or.inr ⟨h0, c4, hcl5, hasg⟩)
  obtain ⟨t, a1, b1⟩ := kk (T.setVm vm') hT X'
  exact ⟨t, st.trans a1, b1⟩
end Rows
section Ends
variable {p : Program} {l : Launch} {e : Env} {R : Room} {s : State} {m : MethodId} {args : Array Value} {below : List Frame} {meth : Method} {c : Code} {H : Heap} {locs : List Loc} {cells slots : Nat} {Q : State → Prop}
variable {mc ms : Nat} {free : Addr → Prop} {A0 A1 : Nat → Prop} {H0 : Heap} {a : Array Value} {ls : Array Slot} {st0 rest : List Value}
variable {Qc : Array Value → State → Outcome → State → Prop} {XC : String → State → State → Prop}
/-- what a body that may throw owes at its end -/
def vx_MQ (below : List Frame) (Qc : Array Value → State → Outcome → State → Prop) (XC : String → State → State → Prop) (a : Array Value) (s : State) (mc ms : Nat) (free : Addr → Prop) : State → Prop := fun t =>
  ∃ o, t.status = .running ∧ Ended t below o ∧ vx_Q Qc XC mc ms free a s o t
theorem vx_ret {g : JFrame} {mc ms : Nat} (k : W p l e R s m args below meth c H locs cells slots (MQ below Qc args s mc ms free) g) : W p l e R s m args below meth c H locs cells slots (vx_MQ below Qc XC args s mc ms free) g := by
  intro T hT X
  obtain ⟨t, a1, o, b1, b2, b3, b4⟩ := k T hT X
  exact ⟨t, a1, o, b1, b2, Or.inl ⟨b3, b4⟩⟩
/-- not caught here: it goes on to the caller -/
theorem vx_widen {g : JFrame} {q : Addr} {k n : Nat} (h1 : cells ≤ k) (h2 : slots ≤ n) (kk : vx_W p l e R s m args below meth c H locs k n Q g q) : vx_W p l e R s m args below meth c H locs cells slots Q g q := fun T hT X => kk T hT (stand_widen X h1 h2)
theorem vx_out {pc : Nat} {E : String} {ce : Cell} {q : Addr} {mc ms : Nat} (hout : ∀ x ∈ c.exceptionTable.toList, covers x pc = false) (hlocks : meth.locks = false) (hcell : H[q]? = some ce) (hv : ce.vm = .none) (hcl : s.vm.findClass E = some ce.cls)
    (hx : ∀ t : State, t.heap = H → s.vm.Alike t.vm → XC E s t) (hf : ∀ z ∈ locs, free z.base) (hc : cells ≤ mc) (hs : slots ≤ ms) :
    vx_W p l e R s m args below meth c H locs cells slots (vx_MQ below Qc XC args s mc ms free) (F0 m pc ls rest) q := by
  intro T hT X
  obtain ⟨st1, hrun, hend, hW, hsm⟩ := X.leaveThrown q (g := F0 m pc ls rest) rfl rfl rfl hout hlocks
  have hcell9 : (T.setFrames (.throwing q :: below)).heap[q]? = some ce := by
    show T.heap[q]? = some ce
    rw [hT]; exact hcell
  exact ⟨_, st1, .threw q, hrun, hend, Or.inr ⟨q, rfl, E, ce, locs, hx _ hT hW.alike, hcell9, hv, hcl, hW, hsm.mono hc hs, hf⟩⟩
theorem vx_frame {U : State} {k n : Nat} (h : s.sameButNew ({ U with vm := s.vm } : State) locs k n) : s.heap.size ≤ U.heap.size ∧ ∀ q : Nat, q < s.heap.size → (∀ z ∈ locs, z.base ≠ q) → U.heap[q]? = s.heap[q]? := by
  obtain ⟨-, h2, -, -, -, h6⟩ := h
  refine ⟨h2, fun q hq hz => ?_⟩
  obtain ⟨c9, e1, e2, e3, e4⟩ := h6 q _ (Array.getElem?_eq_getElem hq)
  have hs : c9.slots = (s.heap[q]).slots := Array.ext_getElem? fun i => e4 i fun hm => hz _ hm rfl
  have h9 : c9 = s.heap[q] := by
    rw [hs] at e2
    exact e2
  have e5 : U.heap[q]? = some c9 := e1
  rw [e5, h9, Array.getElem?_eq_getElem hq]
/-- the words of a throw but the four that speak of the heap -/
/-- a word that the tables alone decide, or a good one -/
def vx_ot (w : Cond) : Bool := w.onTables || goodWord w
theorem vx_ot_at {args a' : Array Value} {s U : State} {w : Cond} (hW : s.WarmedH U.vm) (hvm : s.vm = U.vm) (hg : vx_ot w = true) (h : w.before args s = true) : w.before a' U = true := by
  simp only [vx_ot, Bool.or_eq_true] at hg
  rcases hg with hg | hg
  · exact va_tabs hg hvm h
  · exact word_at hW (good_of_word hg) h
/-- a list's words: the good ones out of the method's own list, the others by premises of their own -/
theorem vx_hat {args : Array Value} {s : State} {L B : List Cond} (h1 : ∀ w ∈ L.filter goodWord, w.before args s = true) (h2 : ∀ w ∈ L.filter (fun w => !goodWord w), w ∈ B) (h3 : ∀ w ∈ B, w.before args s = true) : ∀ w ∈ L, w.before args s = true := by
  intro w hw
  by_cases g : goodWord w = true
  · exact h1 w (List.mem_filter.mpr ⟨hw, g⟩)
  · refine h3 w (h2 w (List.mem_filter.mpr ⟨hw, ?_⟩))
    show (!goodWord w) = true
    cases hgw : goodWord w
    · rfl
    · exact absurd hgw g
theorem vx_c {args : Array Value} {s : State} {w : Cond} {B : List Cond} (h : w.before args s = true) (t : ∀ w ∈ B, w.before args s = true) : ∀ w' ∈ w :: B, w'.before args s = true := fun w' h' => (List.mem_cons.mp h').elim (fun e => by rw [e]; exact h) (t w')
theorem vx_n {args : Array Value} {s : State} : ∀ w ∈ ([] : List Cond), w.before args s = true := fun _ h => nomatch h
theorem vx_own {args : Array Value} {s : State} {L : List Cond} (h1 : ∀ w ∈ L.filter vx_no, w.before args s = true)
    (hU : (Cond.isRef (.static Bundle.tN "UNASSIGNED_STACK" Bundle.steD)).before args s = true) (hN : (Cond.isRef (.static Bundle.tN "SUPPRESSED_SENTINEL" Bundle.listD)).before args s = true)
    (lU : (Cond.laysStatic Bundle.tN "UNASSIGNED_STACK" Bundle.steD).before args s = true) (lN : (Cond.laysStatic Bundle.tN "SUPPRESSED_SENTINEL" Bundle.listD).before args s = true) : ∀ w ∈ L, w.before args s = true := by
  intro w hw
  by_cases e1 : w = .isRef (.static Bundle.tN "UNASSIGNED_STACK" Bundle.steD)
  · rw [e1]; exact hU
  · by_cases e2 : w = .isRef (.static Bundle.tN "SUPPRESSED_SENTINEL" Bundle.listD)
    · rw [e2]; exact hN
    · by_cases e3 : w = .laysStatic Bundle.tN "UNASSIGNED_STACK" Bundle.steD
      · rw [e3]; exact lU
      · by_cases e4 : w = .laysStatic Bundle.tN "SUPPRESSED_SENTINEL" Bundle.listD
        · rw [e4]; exact lN
        · exact h1 w (List.mem_filter.mpr ⟨hw, by unfold vx_no; rw [decide_eq_true e1, decide_eq_true e2, decide_eq_true e3, decide_eq_true e4]; rfl⟩)
/-- where a static field lies, its class's statics cell in H -/
def vx_L (C n d : String) (A : Nat → Prop) (U : State) (H : Heap) : Prop := ∃ (c : ClassId) (k : Class) (i : Nat) (f : Field) (a : Nat) (cell : Cell), U.vm.findClass C = some c ∧ U.fieldFound? C n d = some (c, k, i, f) ∧ f.isStatic = true ∧ k.statics = some a ∧ H[a]? = some cell ∧ cell.vm.isStatics = true ∧ cell.cls = c ∧ f.slot < cell.slots.size ∧ k.staticTypes[f.slot]? = some f.type ∧ ¬ A a
theorem vx_L.moved {C n d : String} {A : Nat → Prop} {u U : State} {H : Heap} (hvm : u.vm.Alike U.vm) (h : vx_L C n d A u H) : vx_L C n d A U H := by
  obtain ⟨c, k, i, f, a, cell, h1, h2, h3, h4, h5, h6, h7, h8, h9, h10⟩ := h
  obtain ⟨k', hi', he⟩ := State.fieldFound?_setVm hvm h2
  exact ⟨c, k', i, f, a, cell, by rw [hvm.findClass]; exact h1, hi', h3, by rw [he]; exact h4, h5, h6, h7, h8, by rw [he]; exact h9, h10⟩
theorem vx_L.kept {C n d : String} {A : Nat → Prop} {U : State} {H H1 : Heap} (h : vx_L C n d A U H) (hq : ∀ a : Nat, a < H.size → ¬ A a → H1[a]? = H[a]?) : vx_L C n d A U H1 := by
  obtain ⟨c, k, i, f, a, cell, h1, h2, h3, h4, h5, h6, h7, h8, h9, h10⟩ := h
  exact ⟨c, k, i, f, a, cell, h1, h2, h3, h4, by rw [hq a (Array.getElem?_eq_some_iff.mp h5).1 h10]; exact h5, h6, h7, h8, h9, h10⟩
theorem vx_L.narrow {C n d : String} {A B : Nat → Prop} {U : State} {H : Heap} (h : vx_L C n d A U H) (hAB : ∀ q, B q → A q) : vx_L C n d B U H := by
  obtain ⟨c, k, i, f, a, cell, h1, h2, h3, h4, h5, h6, h7, h8, h9, h10⟩ := h
  exact ⟨c, k, i, f, a, cell, h1, h2, h3, h4, h5, h6, h7, h8, h9, fun z => h10 (hAB _ z)⟩
theorem vx_L.word {C n d : String} {A : Nat → Prop} {s : State} {args : Array Value} (h : vx_L C n d A s s.heap) : (Cond.laysStatic C n d).before args s = true := by
  obtain ⟨c, k, i, f, a, cell, h1, h2, h3, h4, h5, h6, h7, h8, h9, -⟩ := h
  show (Cond.laysStatic C n d).holds args s none s [] = true
  exact Cond.laysStatic_of h1 h2 h3 h4 h5 h6 h7 h8 h9
/-- .. and what it holds: null or some reference -/
def vx_Zq (C n d : String) (A : Nat → Prop) (U : State) (H : Heap) : Prop := va_Zq C n d A U H ∧ vx_L C n d A U H
theorem vx_Zq.moved {C n d : String} {A : Nat → Prop} {u U : State} {H : Heap} (hvm : u.vm.Alike U.vm) (h : vx_Zq C n d A u H) : vx_Zq C n d A U H := ⟨va_Zq.moved hvm h.1, vx_L.moved hvm h.2⟩
theorem vx_Zq.kept {C n d : String} {A : Nat → Prop} {U : State} {H H1 : Heap} (h : vx_Zq C n d A U H) (hq : ∀ a : Nat, a < H.size → ¬ A a → H1[a]? = H[a]?) : vx_Zq C n d A U H1 := ⟨va_Zq.kept h.1 hq, vx_L.kept h.2 hq⟩
theorem vx_Zq.narrow {C n d : String} {A B : Nat → Prop} {U : State} {H : Heap} (h : vx_Zq C n d A U H) (hAB : ∀ q, B q → A q) : vx_Zq C n d B U H := ⟨va_Zq.narrow h.1 hAB, vx_L.narrow h.2 hAB⟩
theorem vx_Zqof {args : Array Value} {s : State} {C n d : String} {A : Nat → Prop} (hl : (Cond.laysStatic C n d).before args s = true) (hini : (Cond.initialized C).before args s = true) (h : (Cond.isRef (.static C n d)).before args s = true) (hA : ∀ a : Nat, a < s.heap.size → ¬ A a) : vx_Zq C n d A s s.heap := by
  refine ⟨va_Zqof hl hini h hA, ?_⟩
  obtain ⟨c, k, i, f, a, cell, h1, h2, h3, h4, h5, h6, h7, h8, h9⟩ := Cond.laysStatic_spec hl
  exact ⟨c, k, i, f, a, cell, h1, h2, h3, h4, h5, h6, h7, h8, h9, hA a (Array.getElem?_eq_some_iff.mp h5).1⟩
theorem vx_isRef {C n d : String} {v : Value} {A : Nat → Prop} {s : State} {args : Array Value} (h : va_Z C n d v A s s.heap) (hv : v.isRef = true) : (Cond.isRef (.static C n d)).before args s = true := by
  obtain ⟨cf, kf, fi, f, a, cell, h1, h2, h3, h4, h5, h6, h7, -⟩ := h
  have he : (Term.static C n d).eval args s none [] s = some v := by
    simp [Term.eval, State.fieldNamed?, h1, h2, h4, h5, h6, h7]
  simp only [Cond.before, Cond.holds, Cond.value, he]
  cases v <;> simp_all [Value.isRef]
theorem vx_isRefq {C n d : String} {A : Nat → Prop} {s : State} {args : Array Value} (h : va_Zq C n d A s s.heap) : (Cond.isRef (.static C n d)).before args s = true := by
  rcases h with h | ⟨t, h⟩
  · exact vx_isRef h rfl
  · exact vx_isRef h rfl
/-- the same frame, seen from here: as if the method were called anew in this heap -/
theorem vx_rebase {T : State} (X : Stand p l e R s m args below meth c T locs cells slots) {R' : Room} (hf : R'.frames ≤ R.frames) (hl : R'.locals ≤ R.locals) (hc : cells + R'.cells ≤ R.cells) (hs : slots + R'.slots ≤ R.slots) :
    Stand p l e R' ((T.setVm s.vm).setFrames (.invoking m args :: below)) m args below meth c T [] 0 0 := by
  have htop : (T.setVm s.vm).topJava?.isSome := X.here.top
  have hF : ((T.setVm s.vm).setFrames (.invoking m args :: below)).frames = .invoking m args :: below := State.frames_setFrames _ (State.cur_lt_of_top htop)
  obtain ⟨g₀, hg0⟩ := Option.isSome_iff_exists.mp htop
  obtain ⟨r, hr⟩ := State.topJava?_eq_some.mp hg0
  have hl9 : e.platform.stackLimits (T.setVm s.vm).me = e.platform.stackLimits s.me := X.limits
  have hb9 : (T.setVm s.vm).me.stackBytes = s.me.stackBytes := X.bytes
  refine ⟨X.admits, X.cas, X.clock, hF, ?_, X.hears, X.method, X.code, X.here, X.tail, X.warmed, ?_, ?_, ?_⟩
  · have h := X.room
    have hU : ((T.setVm s.vm).setFrames (.invoking m args :: below)).localsInUse = s.localsInUse := by
      rw [State.localsInUse_invoking hF (meth := meth) (c := c) X.method X.code, State.localsInUse_invoking X.frames X.method X.code]
    simp only [State.hasRoom, Bool.and_eq_true, decide_eq_true_eq] at h ⊢
    obtain ⟨⟨⟨⟨h1, h2, h3, h4, h5, h6⟩, h7⟩, h8⟩, h9⟩ := h
    rw [X.frames, List.length_cons] at h2 h3
    have q1 := X.heapSize
    have q2 := X.used
    simp only [hF, hU, List.length_cons, State.stackLimits_setFrames, State.stackBytes_setFrames, hl9, hb9]
    refine ⟨⟨⟨⟨by omega, by omega, by omega, by omega, by omega, h6⟩, ?_⟩, ?_⟩, X.book⟩
    · show T.heap.size + R'.cells ≤ e.platform.maxCells
      omega
    · show T.slotsUsed + R'.slots ≤ e.platform.maxSlots
      omega
  · rw [State.stackLimits_setFrames]; rfl
  · rw [State.stackBytes_setFrames]; rfl
  · refine ⟨?_, Nat.le_refl _, Nat.le_refl _, ?_, ?_, fun a c9 h9 => ⟨c9, h9, rfl, rfl, fun _ _ => rfl⟩⟩
    · obtain ⟨t, ht, -⟩ := State.frames_cons hr
      show T.setVm s.vm = { ((T.setVm s.vm).setFrames (.invoking m args :: below)).setFrames (T.setVm s.vm).frames with heap := T.heap, slotsUsed := T.slotsUsed }
      rw [State.setFrames_setFrames, State.setFrames_self ht]
      rfl
    · show T.slotsUsed = T.slotsUsed + ((T.heap.toList.drop T.heap.size).map (·.slots.size)).sum
      rw [List.drop_eq_nil_of_le (Nat.le_of_eq Array.length_toList)]
      rfl
    · show ((T.heap.toList.drop T.heap.size).map (·.slots.size)).sum ≤ 0
      rw [List.drop_eq_nil_of_le (Nat.le_of_eq Array.length_toList)]
      exact Nat.le_refl _
/-- 'throw new E()': new; dup; invokespecial; athrow -/
theorem vx_throw0 {cc : ByteArray} {pc : Nat} (hexec : p.tables.exec = Jvm.exec) (hb : c.code = cc) (hl : l.stackTraces = false) {own cls : String} {names : List String} {ik ic mc ms : Nat} {A : Nat → Prop}
    (hown : s.vm.findClass own = some m.cls) (hcls : Bundle.fit cls = true) (hnames : ∀ n ∈ names, Bundle.fit n = true)
    (hk : (Cond.classLink own ik cls).before args s = true) (hini : (Cond.initialized cls).before args s = true) (hat : ∀ w ∈ vx_at0 own ic cls names, w.before args s = true)
    (hgood : ∀ w ∈ Cond.classLink own ik cls :: Cond.initialized cls :: vx_at0 own ic cls names, vx_ot w = true)
    (hU : vx_Zq Bundle.tN "UNASSIGNED_STACK" Bundle.steD A s s.heap) (hN : vx_Zq Bundle.tN "SUPPRESSED_SENTINEL" Bundle.listD A s s.heap) (hS : va_S A s.heap H locs) (hsize : ls.size = c.maxLocals)
    (d0 : decode cc pc = .ok (.new ik, 3)) (d3 : decode cc (pc + 3) = .ok (.dup, 1)) (d4 : decode cc (pc + 4) = .ok (.invokespecial ic, 3)) (d7 : decode cc (pc + 7) = .ok (.athrow, 1))
    (hout : ∀ x ∈ c.exceptionTable.toList, covers x (pc + 7) = false)
    (hRframes : names.length + 3 < R.frames) (hRlocals : (rest.map fun v => v.category).sum + (13 * (names.length + 1) + 42) ≤ R.locals) (hRcells : cells + 1 ≤ R.cells) (hRslots : slots + 6 ≤ R.slots) (hlocks : meth.locks = false)
    (hx : ∀ t : State, s.vm.Alike t.vm → H.size ≤ t.heap.size → (∀ q : Nat, q < H.size → t.heap[q]? = H[q]?) → XC cls s t)
    (hf : ∀ z ∈ locs, free z.base) (hc : cells + 1 ≤ mc) (hs : slots + 6 ≤ ms) :
    W p l e R s m args below meth c H locs cells slots (vx_MQ below Qc XC args s mc ms free) (F0 m pc ls rest) := by
  intro T hT X
  have htr : e.platform.stackTraces = false := (show e.platform.stackTraces = l.stackTraces by rw [X.admits.platform]).trans hl
  have Y := vx_rebase X (R' := { frames := R.frames, locals := R.locals, cells := 1, slots := 6 }) (Nat.le_refl _) (Nat.le_refl _) hRcells hRslots
  obtain ⟨s', hA⟩ : ∃ z, z = (T.setVm s.vm).setFrames (.invoking m args :: below) := ⟨_, rfl⟩
  rw [← hA] at Y
  have hvm : s'.vm = s.vm := by rw [hA]; rfl
  have hhp : s'.heap = H := by rw [hA]; exact hT
  have hW0 : s.WarmedH s'.vm := by rw [hvm]; exact State.WarmedH.refl s
  have hat' : ∀ w ∈ vx_at0 own ic cls names, w.before args s' = true := fun w hw => vx_ot_at hW0 hvm.symm (hgood w (List.mem_cons_of_mem _ (List.mem_cons_of_mem _ hw))) (hat w hw)
  have hk' : (Cond.classLink own ik cls).before args s' = true := vx_ot_at hW0 hvm.symm (hgood _ List.mem_cons_self) hk
  have hini' : (Cond.initialized cls).before args s' = true := vx_ot_at hW0 hvm.symm (hgood _ (List.mem_cons_of_mem _ List.mem_cons_self)) hini
  have hU' : vx_Zq Bundle.tN "UNASSIGNED_STACK" Bundle.steD A s' s'.heap := by rw [hhp]; exact vx_Zq.moved hW0.alike (hU.kept hS.2.1)
  have hN' : vx_Zq Bundle.tN "SUPPRESSED_SENTINEL" Bundle.listD A s' s'.heap := by rw [hhp]; exact vx_Zq.moved hW0.alike (hN.kept hS.2.1)
  have h : ∀ w ∈ Bundle.ownAtoms0 own ic cls names, w.before args s' = true := vx_own hat' (vx_isRefq hU'.1) (vx_isRefq hN'.1) hU'.2.word hN'.2.word
  have hown' : s'.vm.findClass own = some m.cls := by rw [hvm]; exact hown
  have hins : (Cond.instantiable cls 6).before args s' = true := h _ (by simp [Bundle.ownAtoms0])
  obtain ⟨vm₁, cX, kX, hfX, hkX, -, -, X₁, st1⟩ := Y.newCold hexec (own := own) (C := cls) (index := ik) (n := 6) hown' hk' hins hini'
    (g := F0 m pc ls rest) rfl (by rw [hb]; exact d0) (Nat.le_refl _) (Nat.le_refl _)
  generalize hT1 : (T.setVm vm₁).pushCell { cls := cX, slots := kX.instanceTypes.map defaultValue, vm := .none } = T1 at X₁ st1
  have hcat : (Value.ref T.heap.size).category = 1 := rfl
  have hcellA : T1.heap[T.heap.size]? = some (freshCell cX kX) := by rw [← hT1]; exact State.heap_pushCell_size _ _
  have d3' : decode c.code (pc + 3) = .ok (.dup, 1) := by rw [hb]; exact d3
  obtain ⟨U, hsteps, hrun, hend, hW, hsame, ce, hce, hO⟩ := X₁.ctorThrow0 hexec htr (own := own) (cls := cls) (names := names) (ic := ic) hown' hcls hnames h (fun x hx => nomatch hx) hfX hkX hcellA (by rw [hhp, hT]; exact Nat.le_refl _)
    (g := { method := m, pc := pc + 4, locals := ls, stack := .ref T.heap.size :: .ref T.heap.size :: rest, locked := none }) rfl hsize rfl rfl (rest := rest) rfl
    (by rw [hb]; exact d4) (by rw [hb]; exact d7) hout hRframes (by simp only [List.map_cons, List.sum_cons, hcat]; omega) hlocks
  obtain ⟨f1, f2⟩ := vx_frame hsame
  rw [hhp] at f1 f2
  have hWs : s.WarmedH U.vm := State.WarmedH.trans hW0 hW
  have hcl : s.vm.findClass cls = some ce.cls := by
    have h9 := hO.cls
    rw [hvm] at h9
    exact h9
  have hall : s.sameButNew ({ U with vm := s.vm } : State) locs mc ms := by
    subst hA
    obtain ⟨e1, e2⟩ := hsame
    rw [State.setFrames_setFrames] at e1
    have h2 : (T.setVm s.vm).sameButNew ({ U with vm := s.vm } : State) [] (0 + 1) (0 + 6) := ⟨e1, e2⟩
    have h3 := X.same.trans h2
    rw [List.append_nil] at h3
    exact h3.mono hc hs
  refine ⟨U, ?_, .threw T.heap.size, hrun, hend, Or.inr ⟨T.heap.size, rfl, cls, ce, locs, hx U hWs.alike f1 (fun q hq => f2 q hq (fun z hz => nomatch hz)), hce, hO.vm, hcl, hWs, hall, hf⟩⟩
  refine st1 _ ?_
  show Steps p.tables e below (T1.setTop { method := m, pc := pc + 3, locals := ls, stack := .ref T.heap.size :: rest, locked := none }) _
  jvm_step X₁.here [X₁.here.top, hexec, d3', Value.category]
  exact hsteps
/-- 'throw new E("text")': new; dup; ldc; invokespecial; athrow -/
theorem vx_throwS {cc : ByteArray} {pc : Nat} (hexec : p.tables.exec = Jvm.exec) (hb : c.code = cc) (hl : l.stackTraces = false) {own cls text : String} {names : List String} {ik is ic mc ms sa : Nat} {A : Nat → Prop}
    (hown : s.vm.findClass own = some m.cls) (hcls : Bundle.fit cls = true) (hnames : ∀ n ∈ names, Bundle.fit n = true)
    (hk : (Cond.classLink own ik cls).before args s = true) (hini : (Cond.initialized cls).before args s = true) (hstr : vk_R own is text sa s) (hat : ∀ w ∈ vx_atS own ic cls names, w.before args s = true)
    (hgood : ∀ w ∈ Cond.classLink own ik cls :: Cond.initialized cls :: vx_atS own ic cls names, vx_ot w = true)
    (hU : vx_Zq Bundle.tN "UNASSIGNED_STACK" Bundle.steD A s s.heap) (hN : vx_Zq Bundle.tN "SUPPRESSED_SENTINEL" Bundle.listD A s s.heap) (hS : va_S A s.heap H locs) (hsize : ls.size = c.maxLocals)
    (d0 : decode cc pc = .ok (.new ik, 3)) (d3 : decode cc (pc + 3) = .ok (.dup, 1)) (d4 : decode cc (pc + 4) = .ok (.ldc is, 2)) (d6 : decode cc (pc + 6) = .ok (.invokespecial ic, 3)) (d9 : decode cc (pc + 9) = .ok (.athrow, 1))
    (hout : ∀ x ∈ c.exceptionTable.toList, covers x (pc + 9) = false)
    (hRframes : names.length + 3 < R.frames) (hRlocals : (rest.map fun v => v.category).sum + (13 * (names.length + 1) + 43) ≤ R.locals) (hRcells : cells + 1 ≤ R.cells) (hRslots : slots + 6 ≤ R.slots) (hlocks : meth.locks = false)
    (hx : ∀ t : State, s.vm.Alike t.vm → H.size ≤ t.heap.size → (∀ q : Nat, q < H.size → t.heap[q]? = H[q]?) → XC cls s t)
    (hf : ∀ z ∈ locs, free z.base) (hc : cells + 1 ≤ mc) (hs : slots + 6 ≤ ms) :
    W p l e R s m args below meth c H locs cells slots (vx_MQ below Qc XC args s mc ms free) (F0 m pc ls rest) := by
  intro T hT X
  have htr : e.platform.stackTraces = false := (show e.platform.stackTraces = l.stackTraces by rw [X.admits.platform]).trans hl
  have Y := vx_rebase X (R' := { frames := R.frames, locals := R.locals, cells := 1, slots := 6 }) (Nat.le_refl _) (Nat.le_refl _) hRcells hRslots
  obtain ⟨s', hA⟩ : ∃ z, z = (T.setVm s.vm).setFrames (.invoking m args :: below) := ⟨_, rfl⟩
  rw [← hA] at Y
  have hvm : s'.vm = s.vm := by rw [hA]; rfl
  have hhp : s'.heap = H := by rw [hA]; exact hT
  have hW0 : s.WarmedH s'.vm := by rw [hvm]; exact State.WarmedH.refl s
  have hat' : ∀ w ∈ vx_atS own ic cls names, w.before args s' = true := fun w hw => vx_ot_at hW0 hvm.symm (hgood w (List.mem_cons_of_mem _ (List.mem_cons_of_mem _ hw))) (hat w hw)
  have hk' : (Cond.classLink own ik cls).before args s' = true := vx_ot_at hW0 hvm.symm (hgood _ List.mem_cons_self) hk
  have hini' : (Cond.initialized cls).before args s' = true := vx_ot_at hW0 hvm.symm (hgood _ (List.mem_cons_of_mem _ List.mem_cons_self)) hini
  have hU' : vx_Zq Bundle.tN "UNASSIGNED_STACK" Bundle.steD A s' s'.heap := by rw [hhp]; exact vx_Zq.moved hW0.alike (hU.kept hS.2.1)
  have hN' : vx_Zq Bundle.tN "SUPPRESSED_SENTINEL" Bundle.listD A s' s'.heap := by rw [hhp]; exact vx_Zq.moved hW0.alike (hN.kept hS.2.1)
  have h : ∀ w ∈ Bundle.ownAtoms own ic cls names, w.before args s' = true := vx_own hat' (vx_isRefq hU'.1) (vx_isRefq hN'.1) hU'.2.word hN'.2.word
  have hown' : s'.vm.findClass own = some m.cls := by rw [hvm]; exact hown
  have hins : (Cond.instantiable cls 6).before args s' = true := h _ (by simp [Bundle.ownAtoms])
  obtain ⟨vm₁, cX, kX, hfX, hkX, -, -, X₁, st1⟩ := Y.newCold hexec (own := own) (C := cls) (index := ik) (n := 6) hown' hk' hins hini'
    (g := F0 m pc ls rest) rfl (by rw [hb]; exact d0) (Nat.le_refl _) (Nat.le_refl _)
  generalize hT1 : (T.setVm vm₁).pushCell { cls := cX, slots := kX.instanceTypes.map defaultValue, vm := .none } = T1 at X₁ st1
  have hcat : (Value.ref T.heap.size).category = 1 := rfl
  have hcellA : T1.heap[T.heap.size]? = some (freshCell cX kX) := by rw [← hT1]; exact State.heap_pushCell_size _ _
  have d3' : decode c.code (pc + 3) = .ok (.dup, 1) := by rw [hb]; exact d3
  have d4' : decode c.code (pc + 4) = .ok (.ldc is, 2) := by rw [hb]; exact d4
  have hstr' : vk_R own is text sa s' := vk_R.warm hW0 hstr
  obtain ⟨U, hsteps, hrun, hend, hW, hsame, ce, hce, hO⟩ := X₁.ctorThrowS hexec htr (own := own) (cls := cls) (names := names) (ic := ic) hown' hcls hnames h (fun x hx => nomatch hx) hfX hkX hcellA (by rw [hhp, hT]; exact Nat.le_refl _) (msg := .ref sa) rfl
    (g := { method := m, pc := pc + 6, locals := ls, stack := .ref sa :: .ref T.heap.size :: .ref T.heap.size :: rest, locked := none }) rfl hsize rfl rfl (rest := rest) rfl
    (by rw [hb]; exact d6) (by rw [hb]; exact d9) hout hRframes (by simp only [List.map_cons, List.sum_cons, hcat]; omega) hlocks
  obtain ⟨f1, f2⟩ := vx_frame hsame
  rw [hhp] at f1 f2
  have hWs : s.WarmedH U.vm := State.WarmedH.trans hW0 hW
  have hcl : s.vm.findClass cls = some ce.cls := by
    have h9 := hO.cls
    rw [hvm] at h9
    exact h9
  have hall : s.sameButNew ({ U with vm := s.vm } : State) locs mc ms := by
    subst hA
    obtain ⟨e1, e2⟩ := hsame
    rw [State.setFrames_setFrames] at e1
    have h2 : (T.setVm s.vm).sameButNew ({ U with vm := s.vm } : State) [] (0 + 1) (0 + 6) := ⟨e1, e2⟩
    have h3 := X.same.trans h2
    rw [List.append_nil] at h3
    exact h3.mono hc hs
  refine ⟨U, ?_, .threw T.heap.size, hrun, hend, Or.inr ⟨T.heap.size, rfl, cls, ce, locs, hx U hWs.alike f1 (fun q hq => f2 q hq (fun z hz => nomatch hz)), hce, hO.vm, hcl, hWs, hall, hf⟩⟩
  refine st1 _ ?_
  show Steps p.tables e below (T1.setTop { method := m, pc := pc + 3, locals := ls, stack := .ref T.heap.size :: rest, locked := none }) _
  jvm_step X₁.here [X₁.here.top, hexec, d3', Value.category]
  exact X₁.ldcString hexec (own := own) (text := text) (index := is) (a := sa) hown' hstr'.1 hstr'.2
    (g := { method := m, pc := pc + 4, locals := ls, stack := .ref T.heap.size :: .ref T.heap.size :: rest, locked := none }) rfl d4' _ hsteps
/-- 'throw new E("text")', the text by a wide index -/
theorem vx_throwSW {cc : ByteArray} {pc : Nat} (hexec : p.tables.exec = Jvm.exec) (hb : c.code = cc) (hl : l.stackTraces = false) {own cls text : String} {names : List String} {ik is ic mc ms sa : Nat} {A : Nat → Prop}
    (hown : s.vm.findClass own = some m.cls) (hcls : Bundle.fit cls = true) (hnames : ∀ n ∈ names, Bundle.fit n = true)
    (hk : (Cond.classLink own ik cls).before args s = true) (hini : (Cond.initialized cls).before args s = true) (hstr : vk_R own is text sa s) (hat : ∀ w ∈ vx_atS own ic cls names, w.before args s = true)
    (hgood : ∀ w ∈ Cond.classLink own ik cls :: Cond.initialized cls :: vx_atS own ic cls names, vx_ot w = true)
    (hU : vx_Zq Bundle.tN "UNASSIGNED_STACK" Bundle.steD A s s.heap) (hN : vx_Zq Bundle.tN "SUPPRESSED_SENTINEL" Bundle.listD A s s.heap) (hS : va_S A s.heap H locs) (hsize : ls.size = c.maxLocals)
    (d0 : decode cc pc = .ok (.new ik, 3)) (d3 : decode cc (pc + 3) = .ok (.dup, 1)) (d4 : decode cc (pc + 4) = .ok (.ldc_w is, 3)) (d7 : decode cc (pc + 7) = .ok (.invokespecial ic, 3)) (d10 : decode cc (pc + 10) = .ok (.athrow, 1))
    (hout : ∀ x ∈ c.exceptionTable.toList, covers x (pc + 10) = false)
    (hRframes : names.length + 3 < R.frames) (hRlocals : (rest.map fun v => v.category).sum + (13 * (names.length + 1) + 43) ≤ R.locals) (hRcells : cells + 1 ≤ R.cells) (hRslots : slots + 6 ≤ R.slots) (hlocks : meth.locks = false)
    (hx : ∀ t : State, s.vm.Alike t.vm → H.size ≤ t.heap.size → (∀ q : Nat, q < H.size → t.heap[q]? = H[q]?) → XC cls s t)
    (hf : ∀ z ∈ locs, free z.base) (hc : cells + 1 ≤ mc) (hs : slots + 6 ≤ ms) :
    W p l e R s m args below meth c H locs cells slots (vx_MQ below Qc XC args s mc ms free) (F0 m pc ls rest) := by
  intro T hT X
  have htr : e.platform.stackTraces = false := (show e.platform.stackTraces = l.stackTraces by rw [X.admits.platform]).trans hl
  have Y := vx_rebase X (R' := { frames := R.frames, locals := R.locals, cells := 1, slots := 6 }) (Nat.le_refl _) (Nat.le_refl _) hRcells hRslots
  obtain ⟨s', hA⟩ : ∃ z, z = (T.setVm s.vm).setFrames (.invoking m args :: below) := ⟨_, rfl⟩
  rw [← hA] at Y
  have hvm : s'.vm = s.vm := by rw [hA]; rfl
  have hhp : s'.heap = H := by rw [hA]; exact hT
  have hW0 : s.WarmedH s'.vm := by rw [hvm]; exact State.WarmedH.refl s
  have hat' : ∀ w ∈ vx_atS own ic cls names, w.before args s' = true := fun w hw => vx_ot_at hW0 hvm.symm (hgood w (List.mem_cons_of_mem _ (List.mem_cons_of_mem _ hw))) (hat w hw)
  have hk' : (Cond.classLink own ik cls).before args s' = true := vx_ot_at hW0 hvm.symm (hgood _ List.mem_cons_self) hk
  have hini' : (Cond.initialized cls).before args s' = true := vx_ot_at hW0 hvm.symm (hgood _ (List.mem_cons_of_mem _ List.mem_cons_self)) hini
  have hU' : vx_Zq Bundle.tN "UNASSIGNED_STACK" Bundle.steD A s' s'.heap := by rw [hhp]; exact vx_Zq.moved hW0.alike (hU.kept hS.2.1)
  have hN' : vx_Zq Bundle.tN "SUPPRESSED_SENTINEL" Bundle.listD A s' s'.heap := by rw [hhp]; exact vx_Zq.moved hW0.alike (hN.kept hS.2.1)
  have h : ∀ w ∈ Bundle.ownAtoms own ic cls names, w.before args s' = true := vx_own hat' (vx_isRefq hU'.1) (vx_isRefq hN'.1) hU'.2.word hN'.2.word
  have hown' : s'.vm.findClass own = some m.cls := by rw [hvm]; exact hown
  have hins : (Cond.instantiable cls 6).before args s' = true := h _ (by simp [Bundle.ownAtoms])
  obtain ⟨vm₁, cX, kX, hfX, hkX, -, -, X₁, st1⟩ := Y.newCold hexec (own := own) (C := cls) (index := ik) (n := 6) hown' hk' hins hini'
    (g := F0 m pc ls rest) rfl (by rw [hb]; exact d0) (Nat.le_refl _) (Nat.le_refl _)
  generalize hT1 : (T.setVm vm₁).pushCell { cls := cX, slots := kX.instanceTypes.map defaultValue, vm := .none } = T1 at X₁ st1
  have hcat : (Value.ref T.heap.size).category = 1 := rfl
  have hcellA : T1.heap[T.heap.size]? = some (freshCell cX kX) := by rw [← hT1]; exact State.heap_pushCell_size _ _
  have d3' : decode c.code (pc + 3) = .ok (.dup, 1) := by rw [hb]; exact d3
  have d4' : decode c.code (pc + 4) = .ok (.ldc_w is, 3) := by rw [hb]; exact d4
  have hstr' : vk_R own is text sa s' := vk_R.warm hW0 hstr
  obtain ⟨U, hsteps, hrun, hend, hW, hsame, ce, hce, hO⟩ := X₁.ctorThrowS hexec htr (own := own) (cls := cls) (names := names) (ic := ic) hown' hcls hnames h (fun x hx => nomatch hx) hfX hkX hcellA (by rw [hhp, hT]; exact Nat.le_refl _) (msg := .ref sa) rfl
    (g := { method := m, pc := pc + 7, locals := ls, stack := .ref sa :: .ref T.heap.size :: .ref T.heap.size :: rest, locked := none }) rfl hsize rfl rfl (rest := rest) rfl
    (by rw [hb]; exact d7) (by rw [hb]; exact d10) hout hRframes (by simp only [List.map_cons, List.sum_cons, hcat]; omega) hlocks
  obtain ⟨f1, f2⟩ := vx_frame hsame
  rw [hhp] at f1 f2
  have hWs : s.WarmedH U.vm := State.WarmedH.trans hW0 hW
  have hcl : s.vm.findClass cls = some ce.cls := by
    have h9 := hO.cls
    rw [hvm] at h9
    exact h9
  have hall : s.sameButNew ({ U with vm := s.vm } : State) locs mc ms := by
    subst hA
    obtain ⟨e1, e2⟩ := hsame
    rw [State.setFrames_setFrames] at e1
    have h2 : (T.setVm s.vm).sameButNew ({ U with vm := s.vm } : State) [] (0 + 1) (0 + 6) := ⟨e1, e2⟩
    have h3 := X.same.trans h2
    rw [List.append_nil] at h3
    exact h3.mono hc hs
  refine ⟨U, ?_, .threw T.heap.size, hrun, hend, Or.inr ⟨T.heap.size, rfl, cls, ce, locs, hx U hWs.alike f1 (fun q hq => f2 q hq (fun z hz => nomatch hz)), hce, hO.vm, hcl, hWs, hall, hf⟩⟩
  refine st1 _ ?_
  show Steps p.tables e below (T1.setTop { method := m, pc := pc + 3, locals := ls, stack := .ref T.heap.size :: rest, locked := none }) _
  jvm_step X₁.here [X₁.here.top, hexec, d3', Value.category]
  exact X₁.ldcStringW hexec (own := own) (text := text) (index := is) (a := sa) hown' hstr'.1 hstr'.2
    (g := { method := m, pc := pc + 4, locals := ls, stack := .ref T.heap.size :: .ref T.heap.size :: rest, locked := none }) rfl d4' _ hsteps
end Ends
section Bodies
variable {l : Launch}
theorem vx_ofW {y : MethodName} {ws ws' : List Cond} {rm : Room} {Pc : Array Value → State → Prop} {Qc : Array Value → State → Outcome → State → Prop} {XC : String → State → State → Prop} {mc ms : Nat} {free : Addr → Prop} {cc : ByteArray} {maxL : Nat} {ret : Option FieldType}
    (hy : plainName y.cls = true) (hw : ws = Cond.code y cc maxL ret :: ws')
    (body : ∀ p e s m args below meth c s₁, BodyLoose p l y (headSpec ws rm) cc maxL ret e s m args below meth c s₁ → c.maxLocals = maxL → (∀ x ∈ c.exceptionTable.toList, False) → Pc args s →
      W p l e (headSpec ws rm).room s m args below meth c s.heap [] 0 0 (vx_MQ below Qc XC args s mc ms free) (entryFrame m args maxL)) : vx_Met l y ws rm Pc Qc XC mc ms free := by
  refine MetFree.of_bodyS (code := cc) (maxLocals := maxL) (ret := ret) hy ?_ ?_
  · intro args s m h hn
    obtain ⟨meth, c, h1, h2, h3, h4, h5, h6, -, -⟩ := Cond.code_spec hn (atoms_spec (ws := ws) h _ (by rw [hw]; exact List.mem_cons_self))
    exact ⟨meth, c, h1, h2, h3, h4, h5, h6⟩
  · intro p e s m args below meth c s₁ B hml hP _
    have hh0 : s₁.heap = s.heap := by rw [B.state]; rfl
    have ht : ∀ x ∈ c.exceptionTable.toList, False := by
      obtain ⟨meth9, c9, h1, h2, -, -, -, -, h7, -⟩ := Cond.code_spec B.named (atoms_spec (ws := ws) B.pre _ (by rw [hw]; exact List.mem_cons_self))
      cases Option.some.inj (h1.symm.trans B.method)
      cases Option.some.inj (h2.symm.trans (Stand.of_body B).code)
      intro x hx
      rw [Array.isEmpty_iff.mp h7] at hx
      cases hx
    obtain ⟨t, a1, o, b1, b2, b3⟩ := body p e s m args below meth c s₁ B hml ht hP s₁ hh0 (Stand.of_body B)
    exact ⟨t, o, a1, b1, b2, b3⟩
/-- the table of a body with handlers -/
theorem vx_table {p : Program} {x y : MethodName} {S : Spec} {cc bytes : ByteArray} {maxL maxL' : Nat} {ret ret' : Option FieldType} {e : Env} {s s₁ : State} {m : MethodId} {args : Array Value} {below : List Frame} {meth : Method} {c : Code} {hh : List (Nat × Nat × Nat × Nat)}
    (B : BodyLoose p l y S cc maxL ret e s m args below meth c s₁) (h : (Cond.codeWith y bytes maxL' ret' hh).before args s = true) : c.exceptionTable.toList = tableOf hh := by
  obtain ⟨m9, meth9, c9, hn9, h1, h2, -, -, h6, -⟩ := Cond.codeWith_spec h
  cases Option.some.inj (hn9.symm.trans B.named)
  cases Option.some.inj (h1.symm.trans B.method)
  cases Option.some.inj (h2.symm.trans (Stand.of_body B).code)
  rw [← h6, table_eq]
end Bodies
end VXA
/-! ===== END ===== -/
/-! ===== BEGIN a static call of a method with an exception table ===== -/
section VXS
variable {p : Program} {l : Launch} {e : Env} {R : Room} {s : State} {m : MethodId} {args : Array Value} {below : List Frame} {meth : Method} {c : Code} {T : State} {H : Heap} {locs : List Loc} {cells slots : Nat}
abbrev vx_CSW (R : Room) (s : State) (args : Array Value) (own : String) (index : Nat) (y : MethodName) (bytes : ByteArray) (maxL : Nat) (ret : Option FieldType) (hh : List (Nat × Nat × Nat × Nat)) (ws : List Cond) (rm : Room) (mc ms n : Nat) : Prop :=
  (rm.cells = mc ∧ rm.slots = ms ∧ rm.frames + 1 ≤ R.frames ∧ 8 + (maxL + 11) + rm.locals ≤ R.locals ∧ (∀ w ∈ ws, ∀ (a' : Array Value) (U : State), s.WarmedH U.vm → w.before a' U = true) ∧ Cond.codeWith y bytes maxL ret hh ∈ ws) ∧
  (Cond.codeWith y bytes maxL ret hh).before args s = true ∧ (Cond.initialized y.cls).before args s = true ∧ (y.cls ≠ "java/lang/invoke/MethodHandle" ∧ y.cls ≠ "java/lang/invoke/VarHandle") ∧
  (∀ sig, parseMethodDescriptor y.desc = some sig → n = sig.parameters.length) ∧ (Cond.methodLink own index y).before args s = true ∧ (Cond.static y).before args s = true
theorem vx_cwSW {own : String} {index maxL mc ms : Nat} {y : MethodName} {bytes : ByteArray} {ret : Option FieldType} {hh : List (Nat × Nat × Nat × Nat)} {Ts ws ws' : List Cond} {rm : Room} (n : Nat) (ht : ∀ w ∈ Ts, w.before args s = true) (hT : GoodIn Ts (va_wsS own index y ws)) (hw : ws = Cond.codeWith y bytes maxL ret hh :: ws') (hrc : rm.cells = mc) (hrs : rm.slots = ms)
    (hd : y.cls ≠ "java/lang/invoke/MethodHandle" ∧ y.cls ≠ "java/lang/invoke/VarHandle" ∧ (parseMethodDescriptor y.desc).map (fun d => d.parameters.length) = some n) (hR : rm.frames + 1 ≤ R.frames ∧ 8 + (maxL + 11) + rm.locals ≤ R.locals) :
    vx_CSW R s args own index y bytes maxL ret hh ws rm mc ms n := by
  have ok : ∀ w ∈ va_wsS own index y ws, w.before args s = true := fun w h => ht w (hT w h).1
  have hG : GoodIn Ts ws := fun w h => hT w (by unfold va_wsS; exact List.mem_append_right _ h)
  have hc : Cond.codeWith y bytes maxL ret hh ∈ ws := by rw [hw]; exact List.mem_cons_self
  refine ⟨⟨hrc, hrs, hR.1, hR.2, pay_in ht hG, hc⟩, ht _ (hG _ hc).1, ok _ (by simp [va_wsS]), ⟨hd.1, hd.2.1⟩, fun sig h => ?_, ok _ (by simp [va_wsS]), ok _ (by simp [va_wsS])⟩
  have h2 := hd.2.2
  rw [h] at h2
  exact (Option.some.inj h2).symm
theorem vx_callSW (X : Stand p l e R s m args below meth c T locs cells slots) (hexec : p.tables.exec = Jvm.exec) {own : String} {index : Nat} {y : MethodName} {bytes : ByteArray} {maxL : Nat} {ret : Option FieldType} {hh : List (Nat × Nat × Nat × Nat)}
    (hown : s.vm.findClass own = some m.cls) (hlink : (Cond.methodLink own index y).before args s = true) (hstat : (Cond.static y).before args s = true) (hinit : (Cond.initialized y.cls).before args s = true)
    (hcode : (Cond.codeWith y bytes maxL ret hh).before args s = true) (hy : y.cls ≠ "java/lang/invoke/MethodHandle" ∧ y.cls ≠ "java/lang/invoke/VarHandle")
    {W9 : Nat} {Pre : Pt → Array Value → Prop} {Post : Pt → Array Value → Option Value → Pt → Prop} (hK : Back l R p e below s args y 3 W9 Pre Post)
    {g : JFrame} (hg : g.method = m) (hsize : g.locals.size = c.maxLocals) {argsL rest : List Value} (hlen : ∀ sig, parseMethodDescriptor y.desc = some sig → argsL.length = sig.parameters.length)
    (hstack : g.stack = argsL.reverse ++ rest) (hW : 2 * g.monitorRoom + (rest.map fun v => v.category).sum ≤ W9) (hdg : decode c.code g.pc = .ok (.invokestatic index, 3))
    (hpre : ∀ vm₁, s.WarmedH vm₁ → Pre ⟨T.setVm vm₁, locs, cells, slots⟩ argsL.toArray) :
    ∃ (v : Option Value) (vm₁ : Vm) (B : Pt), s.WarmedH vm₁ ∧ Stand p l e R s m args below meth c B.U B.locs B.cells B.slots ∧ Post ⟨T.setVm vm₁, locs, cells, slots⟩ argsL.toArray v B ∧
      ∀ target, Steps p.tables e below (B.U.setTop { g with pc := g.pc + 3, stack := v.toList ++ rest }) target → Steps p.tables e below (T.setTop g) target := by
  obtain ⟨mk, methM, cM, hnamed, hmethM, -, -, -, -, -, -, hsigM⟩ := Cond.codeWith_spec hcode
  have hstatic : methM.isStatic = true := Cond.static_spec hnamed hmethM hstat
  obtain ⟨kP, hkP, -⟩ := className_of_methodNamed hnamed
  have hinitP : kP.init = .initialized := Cond.initialized_spec (findClass_of_methodNamed hnamed) hkP hinit
  obtain ⟨vm₁, X₁, hstep₁⟩ := X.invokestatic hexec hown hlink hnamed hmethM hstatic hkP hinitP hy (g := g) hg (argsL := argsL) (rest := rest) (hlen _ hsigM) hstack hdg
  obtain ⟨v, B, X', hpost, hsteps⟩ := hK m meth c ⟨T.setVm vm₁, locs, cells, slots⟩ { g with stack := rest } (.invokestatic index) mk argsL.toArray X₁ hg hsize hdg hW (X₁.named hnamed) (hpre vm₁ X₁.warmed)
  exact ⟨v, vm₁, B, X₁.warmed, X', hpost, fun target h => hstep₁ _ fun acts => by rw [doInvoke_state]; exact hsteps.trans h⟩
theorem vx_runSW {y : MethodName} {bytes cc : ByteArray} {maxL nL mc ms n index : Nat} {ret : Option FieldType} {hh : List (Nat × Nat × Nat × Nat)} {ws : List Cond} {rm : Room} {Pc : Array Value → State → Prop} {Qc : Array Value → State → Outcome → State → Prop} {free : Addr → Prop} {Ts : List Cond} {own : String} {As rest : List Value} {g : JFrame}
    (S : CallFix p m c cc nL s args Ts own) (hM : Met l y ws rm Pc Qc mc ms free) (cw : vx_CSW R s args own index y bytes maxL ret hh ws rm mc ms n) (hp : PreS s H Pc As)
    (hg : g.method = m) (hn : As.length = n) (hsize : g.locals.size = nL) (hstack : g.stack = As.reverse ++ rest) (hW : 2 * g.monitorRoom + (rest.map fun v => v.category).sum ≤ 8) (hdg : decode cc g.pc = .ok (.invokestatic index, 3)) (hf : cells + mc ≤ R.cells ∧ slots + ms ≤ R.slots) :
    va_Run p l e R s m args below meth c H locs cells slots mc ms g rest (Qc As.toArray) (free) := by
  obtain ⟨⟨hrc, hrs, hfr, hlo, hws, hcw⟩, hcode, hini, hy, hlen, hl, hstt⟩ := cw
  have hK : Back l R p e below s args y 3 8 (PreOf R mc ms Pc) (PostOf Qc mc ms free) := va_backW (hh := hh) (bytes := bytes) (maxL := maxL) (ret := ret) hM hp.1 hrc hrs hfr hlo hws hcw (fun a' U hW => word_at hW (Or.inl (by first | rfl | simp [Cond.onTables, Cond.keeps, Cond.steady])) hini)
  obtain ⟨hx, hb, hml, ho, -⟩ := S
  intro T hT X
  obtain ⟨v, vm₁, ⟨U', l2, c2, s2⟩, hW₁, X', ⟨g', mk, t, L, e1, e2, hq, h1, hL, h2, h3⟩, st⟩ := vx_callSW X hx (hh := hh) (bytes := bytes) (maxL := maxL) (ret := ret) ho hl hstt hini hcode hy hK hg (hsize.trans hml.symm) (argsL := As) (rest := rest) (fun sig h => hn.trans (hlen sig h)) hstack hW (by rw [hb]; exact hdg)
    (fun vm₁ hW₁ => ⟨hf.1, hf.2, hp.2 (T.setVm vm₁) hT hW₁⟩)
  dsimp only [Pt.U, Pt.locs, Pt.cells, Pt.slots] at X' e1 e2 h1 h2 h3 st
  subst h1; subst h2; subst h3
  exact ⟨v, (T.setVm vm₁).calling g' mk As.toArray, t, U', L, hT, X', hL, e1, e2, hq, st⟩
/-- not caught here, past rows that name other classes: it goes on to the caller -/
theorem vx_outP {p : Program} {l : Launch} {e : Env} {R : Room} {s : State} {m : MethodId} {args : Array Value} {below : List Frame} {meth : Method} {c : Code} {H : Heap} {locs : List Loc} {cells slots : Nat} {free : Addr → Prop} {ls : Array Slot} {rest : List Value} {Qc : Array Value → State → Outcome → State → Prop} {XC : String → State → State → Prop}
    {pc : Nat} {own E : String} {ce : Cell} {q : Addr} {mc ms : Nat} (hown : s.vm.findClass own = some m.cls) (hlocks : meth.locks = false)
    (hpass : ∀ z ∈ c.exceptionTable.toList, covers z pc = false ∨ (z.catchType ≠ 0 ∧ ∃ nm : String, (Cond.classLink own z.catchType nm).before args s = true ∧ va_Nc E nm s)) (hcell : H[q]? = some ce) (hv : ce.vm = .none) (hcl : s.vm.findClass E = some ce.cls)
    (hx : ∀ t : State, t.heap = H → s.vm.Alike t.vm → XC E s t) (hf : ∀ z ∈ locs, free z.base) (hc : cells ≤ mc) (hs : slots ≤ ms) :
    vx_W p l e R s m args below meth c H locs cells slots (vx_MQ below Qc XC args s mc ms free) (F0 m pc ls rest) q := by
  intro T hT X
  have hpl : e.platform.magicAccessors = ({} : Platform).magicAccessors := by rw [X.admits.platform]
  obtain ⟨vm', hW', X', st⟩ := X.outThrough hlocks q (g := F0 m pc ls rest) rfl rfl rfl (cell := ce) (by rw [hT]; exact hcell) (by rw [hv]; rfl)
    (by obtain ⟨k9, h9, -⟩ := Vm.findClass_spec hcl; exact ⟨k9, h9⟩) (fun z hz => by
      rcases hpass z hz with h | ⟨hz0, nm, hl1, hn1⟩
      · exact Or.inl h
      · obtain ⟨c6, hc6, hcl6⟩ := Cond.classLink_spec hown hl1 e.platform hpl
        obtain ⟨a8, b8, h1, h2, h3⟩ := hn1
        cases Option.some.inj (h1.symm.trans hcl)
        cases Option.some.inj (h2.symm.trans hc6)
        exact Or.inr ⟨hz0, _, hcl6, h3⟩)
  obtain ⟨g₀, hfr⟩ := X'.frames_eq
  have hcell9 : ((T.setVm vm').setFrames (.throwing q :: below)).heap[q]? = some ce := by
    show T.heap[q]? = some ce
    rw [hT]; exact hcell
  have hend : Ended ((T.setVm vm').setFrames (.throwing q :: below)) below (.threw q) := State.frames_setFrames _ (State.cur_lt_of_frames hfr)
  refine ⟨(T.setVm vm').setFrames (.throwing q :: below), ?_, .threw q, X'.here.running, hend, Or.inr ⟨q, rfl, E, ce, locs, hx _ hT (X'.ends _).1.alike, hcell9, hv, hcl, (X'.ends _).1, (X'.ends _).2.mono hc hs, hf⟩⟩
  rw [X.pushThrowing_eq]
  exact st
/-- a thing of a world lies in the heap -/
theorem vx_lt {D : va_G} {cl : List vw_C} {ws : va_W} {H1 : Heap} (h : va_P D cl ws H1) {k : Nat} {q : Nat × va_E} (hk : ws[k]? = some q) : q.1 < H1.size := (h k q hk).lt
end VXS
/-! ===== END ===== -/
/-! ===== BEGIN methods with a table of their own: called by a name, returning or throwing ===== -/
section VXH
/-! vx_backW, vx_callVX, vx_callSX, vx_callVW, vx_runVW, vx_runVX, vx_runSX, vx_ofWH follow the same proofs as their sisters above (Free/Laws.lean, Shelf42/LK1.lean); vx_outP calls Shelf42/NT130.lean (outThrough). -/
section
variable {l : Launch} {R : Room} {p : Program} {e : Env} {below : List Frame} {s : State} {sargs : Array Value} {y : MethodName} {len W9 : Nat}
theorem vx_backW {ws : List Cond} {rm : Room} {Pc : Array Value → State → Prop} {Qc : Array Value → State → Outcome → State → Prop} {XC : String → State → State → Prop} {mc ms : Nat} {free : Addr → Prop} {bytes : ByteArray} {maxL : Nat} {ret : Option FieldType} {hh : List (Nat × Nat × Nat × Nat)}
    (hM : vx_Met l y ws rm Pc Qc XC mc ms free) (hblind : FrameBlind Pc) (hrc : rm.cells = mc) (hrs : rm.slots = ms)
    (hframes : rm.frames + 1 ≤ R.frames) (hlocals : W9 + (maxL + 11) + rm.locals ≤ R.locals)
    (hws : ∀ w ∈ ws, ∀ a' U, s.WarmedH U.vm → w.before a' U = true) (hcode : Cond.codeWith y bytes maxL ret hh ∈ ws) (hinit : ∀ a' U, s.WarmedH U.vm → (Cond.initialized y.cls).before a' U = true) :
    vx_Back l R p e below s sargs y len W9 (PreOf R mc ms Pc) (PostOf Qc mc ms free) (vx_Post XC mc ms free) := by
  intro m meth c A g ig mk a X hg hsize hdg hW hn hp
  have h1 : (headSpec ws rm).pre.before a A.U = true := atoms_intro fun w hw => hws w hw _ _ X.warmed
  have h2 : (Cond.codeWith y bytes maxL ret hh).before a A.U = true := hws _ hcode _ _ X.warmed
  have h3 : (Cond.initialized y.cls).before a A.U = true := hinit _ _ X.warmed
  have h4 : A.cells + (headSpec ws rm).room.cells ≤ R.cells := by rw [show (headSpec ws rm).room.cells = mc from hrc]; exact hp.1
  have h5 : A.slots + (headSpec ws rm).room.slots ≤ R.slots := by rw [show (headSpec ws rm).room.slots = ms from hrs]; exact hp.2.1
  have hPc : Pc a (A.U.calling g mk a) := hblind _ _ _ _ hp.2.2
  obtain ⟨U, Ls, c0, s0⟩ := A
  dsimp only [Pt.U, Pt.locs, Pt.cells, Pt.slots] at h1 h2 h3 h4 h5 X hn hPc ⊢
  obtain ⟨m9, methY, cY, hn9, hmY, hcY, -, hlY, -⟩ := Cond.codeWith_spec h2
  cases Option.some.inj (hn9.symm.trans hn)
  obtain ⟨kY, hkY, -⟩ := className_of_methodNamed hn
  have hinitY : kY.init = .initialized := Cond.initialized_spec (findClass_of_methodNamed hn) hkY h3
  have h : At U g.method c below := by rw [hg]; exact X.here
  have hlocals9 : W9 + (maxL + 11) + (headSpec ws rm).room.locals ≤ R.locals := hlocals
  have happ : (headSpec ws rm).appliesLoose y e.platform (U.calling g mk a) = true :=
    Spec.appliesLoose_calling (g := g) h hdg hn hkY hinitY
      (X.room_calling (g := g) (R' := (headSpec ws rm).room) hsize hmY hcY hframes (by rw [hlY]; omega) h4 h5) h1
  obtain ⟨mid, hmid⟩ := h.above
  have hfr : (U.setTop g).frames = (.java g :: mid) ++ below := by rw [State.frames_setTop' g h.top, hmid]; rfl
  obtain ⟨o, s₂, hsteps, -, hend, hq⟩ := Steps.callFree hM p X.admits X.cas X.clock (acts := []) hfr happ hPc trivial
  have hq' : vx_Q Qc XC mc ms free a (U.calling g mk a) o s₂ := hq
  rw [State.frames_setTop' g h.top] at hend
  obtain ⟨g₀, hg0⟩ := Option.isSome_iff_exists.mp h.top
  obtain ⟨r, hr⟩ := State.topJava?_eq_some.mp hg0
  have hr' : (({ U with heap := s₂.heap, slotsUsed := s₂.slotsUsed } : State).setVm s₂.vm).frames = .java g₀ :: r := hr
  rcases hq' with ⟨hqc, L, hfe, hL⟩ | ⟨q, rfl, E, ce, L, hx, hce, hcv, hcl, hW₂, hsm, hL⟩
  · obtain ⟨⟨v, rfl⟩, hW₂, e2, q2, q3, q4, q5, q6⟩ := id hfe
    have e3 : s₂ = ({ (U.calling g mk a).setFrames s₂.frames with heap := s₂.heap, slotsUsed := s₂.slotsUsed } : State).setVm s₂.vm := by
      have : s₂ = ({ s₂ with vm := (U.calling g mk a).vm } : State).setVm s₂.vm := rfl
      rw [e2] at this
      exact this
    obtain ⟨c₂, i₂, len₂, hc₂, hd₂, hf₂⟩ := hend
    have hW' : U.WarmedH s₂.vm := hW₂
    have hcc : c₂ = c := by
      have h1 : s₂.code? g.method = U.code? g.method := by
        rw [State.code?_eq, State.code?_eq, hW'.alike.method?]
      exact Option.some.inj (hc₂.symm.trans (h1.trans h.code))
    subst hcc
    have hlen : len₂ = len := by rw [hdg] at hd₂; cases hd₂; rfl
    subst hlen
    have hs₂ : s₂ = (({ U with heap := s₂.heap, slotsUsed := s₂.slotsUsed } : State).setVm s₂.vm).setTop { g with pc := g.pc + len₂, stack := v.toList ++ g.stack } := by
      refine e3.trans ?_
      rw [hf₂, State.calling_eq h.top, State.setFrames_setFrames, State.setTop_of_frames _ hr', hr]
      rfl
    have hsame : U.sameButNew ({ U with heap := s₂.heap, slotsUsed := s₂.slotsUsed } : State) L mc ms := by
      refine ⟨?_, q2, q3, q4, q5, q6⟩
      obtain ⟨t, ht, -⟩ := State.frames_cons hr
      show ({ U with heap := s₂.heap, slotsUsed := s₂.slotsUsed } : State) = { U.setFrames U.frames with heap := s₂.heap, slotsUsed := s₂.slotsUsed }
      rw [State.setFrames_self ht]
    subst hg
    refine Or.inl ⟨v, ⟨(({ U with heap := s₂.heap, slotsUsed := s₂.slotsUsed } : State).setVm s₂.vm), Ls ++ L, c0 + mc, s0 + ms⟩,
      ⟨X.admits, X.cas, X.clock, X.frames, X.room, X.hears, X.method, X.code, (X.here.setHeapUsed s₂.heap s₂.slotsUsed).setVm hW'.alike, X.tail, State.WarmedH.trans X.warmed hW', X.limits, X.bytes, X.same.trans (hsame.setVm s.vm)⟩,
      ⟨g, mk, s₂, L, rfl, rfl, hqc, rfl, hL, rfl, rfl⟩, ?_⟩
    show Steps p.tables e below _ ((({ U with heap := s₂.heap, slotsUsed := s₂.slotsUsed } : State).setVm s₂.vm).setTop { g with pc := g.pc + len₂, stack := v.toList ++ g.stack })
    rw [← hs₂]
    exact hsteps
  · obtain ⟨e2, q2, q3, q4, q5, q6⟩ := id hsm
    have e3 : s₂ = ({ (U.calling g mk a).setFrames s₂.frames with heap := s₂.heap, slotsUsed := s₂.slotsUsed } : State).setVm s₂.vm := by
      have : s₂ = ({ s₂ with vm := (U.calling g mk a).vm } : State).setVm s₂.vm := rfl
      rw [e2] at this
      exact this
    have hf₂ : s₂.frames = .throwing q :: .java g :: U.frames.tail := hend
    have hW' : U.WarmedH s₂.vm := hW₂
    have hs₂ : s₂ = ((({ U with heap := s₂.heap, slotsUsed := s₂.slotsUsed } : State).setVm s₂.vm).setTop g).pushFrame (.throwing q) := by
      refine e3.trans ?_
      rw [hf₂, State.calling_eq h.top, State.setFrames_setFrames, State.pushFrame, State.frames_setTop _ hr', State.setTop_of_frames _ hr', State.setFrames_setFrames, hr]
      rfl
    have hsame : U.sameButNew ({ U with heap := s₂.heap, slotsUsed := s₂.slotsUsed } : State) L mc ms := by
      refine ⟨?_, q2, q3, q4, q5, q6⟩
      obtain ⟨t, ht, -⟩ := State.frames_cons hr
      show ({ U with heap := s₂.heap, slotsUsed := s₂.slotsUsed } : State) = { U.setFrames U.frames with heap := s₂.heap, slotsUsed := s₂.slotsUsed }
      rw [State.setFrames_self ht]
    subst hg
    refine Or.inr ⟨q, ⟨(({ U with heap := s₂.heap, slotsUsed := s₂.slotsUsed } : State).setVm s₂.vm), Ls ++ L, c0 + mc, s0 + ms⟩,
      ⟨X.admits, X.cas, X.clock, X.frames, X.room, X.hears, X.method, X.code, (X.here.setHeapUsed s₂.heap s₂.slotsUsed).setVm hW'.alike, X.tail, State.WarmedH.trans X.warmed hW', X.limits, X.bytes, X.same.trans (hsame.setVm s.vm)⟩,
      ⟨g, mk, s₂, L, E, ce, rfl, rfl, hx, hce, hcv, hcl, rfl, hL, rfl, rfl⟩, ?_⟩
    show Steps p.tables e below _ (((({ U with heap := s₂.heap, slotsUsed := s₂.slotsUsed } : State).setVm s₂.vm).setTop g).pushFrame (.throwing q))
    rw [← hs₂]
    exact hsteps
end
variable {p : Program} {l : Launch} {e : Env} {R : Room} {s : State} {m : MethodId} {args : Array Value} {below : List Frame} {meth : Method} {c : Code} {T : State} {H : Heap} {locs : List Loc} {cells slots : Nat}
theorem vx_callVX (X : Stand p l e R s m args below meth c T locs cells slots) (hexec : p.tables.exec = Jvm.exec) {own C : String} {index : Nat} {y : MethodName} {bytes : ByteArray} {maxL : Nat} {ret : Option FieldType} {hh : List (Nat × Nat × Nat × Nat)}
    (hown : s.vm.findClass own = some m.cls) (hlink : (Cond.methodLink own index y).before args s = true) (hinst : (Cond.instanceMethod y).before args s = true) (hsel : (Cond.selects C y y).before args s = true)
    (hcode : (Cond.codeWith y bytes maxL ret hh).before args s = true) (hy : y.cls ≠ "java/lang/invoke/MethodHandle" ∧ y.cls ≠ "java/lang/invoke/VarHandle")
    {W9 : Nat} {Pre : Pt → Array Value → Prop} {Post : Pt → Array Value → Option Value → Pt → Prop} {PostX : Pt → Array Value → Addr → Pt → Prop} (hK : vx_Back l R p e below s args y 3 W9 Pre Post PostX)
    {b : Addr} {cellB : Cell} (hcell : T.heap[b]? = some cellB) (hobj : cellB.vm.isStatics = false) (hcls : s.vm.findClass C = some cellB.cls)
    {g : JFrame} (hg : g.method = m) (hsize : g.locals.size = c.maxLocals) {argsL rest : List Value} (hlen : ∀ sig, parseMethodDescriptor y.desc = some sig → argsL.length = sig.parameters.length)
    (hstack : g.stack = argsL.reverse ++ .ref b :: rest) (hW : 2 * g.monitorRoom + (rest.map fun v => v.category).sum ≤ W9) (hdg : decode c.code g.pc = .ok (.invokevirtual index, 3))
    (hpre : ∀ vm₁, s.WarmedH vm₁ → Pre ⟨T.setVm vm₁, locs, cells, slots⟩ (Value.ref b :: argsL).toArray) :
    (∃ (v : Option Value) (vm₁ : Vm) (B : Pt), s.WarmedH vm₁ ∧ Stand p l e R s m args below meth c B.U B.locs B.cells B.slots ∧ Post ⟨T.setVm vm₁, locs, cells, slots⟩ (Value.ref b :: argsL).toArray v B ∧
      ∀ target, Steps p.tables e below (B.U.setTop { g with pc := g.pc + 3, stack := v.toList ++ rest }) target → Steps p.tables e below (T.setTop g) target) ∨
    (∃ (q : Addr) (vm₁ : Vm) (B : Pt), s.WarmedH vm₁ ∧ Stand p l e R s m args below meth c B.U B.locs B.cells B.slots ∧ PostX ⟨T.setVm vm₁, locs, cells, slots⟩ (Value.ref b :: argsL).toArray q B ∧
      Steps p.tables e below (T.setTop g) ((B.U.setTop { g with stack := rest }).pushFrame (.throwing q))) := by
  obtain ⟨mk, methM, hnamed, hmethM, hstM, habM⟩ := Cond.instanceMethod_spec hinst
  obtain ⟨m8, methM', cM, hn8, hmethM', -, -, -, -, -, -, hsigM⟩ := Cond.codeWith_spec hcode
  cases Option.some.inj (hn8.symm.trans hnamed)
  cases hmethM.symm.trans hmethM'
  obtain ⟨c2, r2, m2, q1, q2, q3, q4, kP, hkP, hkPi⟩ := Cond.selects_spec hsel
  cases hcls.symm.trans q1
  cases (State.methodFound?_of_named hnamed hy).symm.trans q2
  cases hnamed.symm.trans q3
  have hselP : selectMethod e.platform s.vm cellB.cls mk = .method mk := by rw [Launch.admits_selectMethod X.admits]; exact q4
  obtain ⟨vm₁, X₁, hstep₁⟩ := X.invokevirtual hexec hown hlink hnamed hmethM hstM hkP hkPi hy (a := b) (cell := cellB) hcell
    (fun z h => by rw [h] at hobj; cases hobj) hselP hmethM habM hkP hkPi (g := g) hg (argsL := argsL) (rest := rest) (hlen _ hsigM) hstack hdg
  rcases hK m meth c ⟨T.setVm vm₁, locs, cells, slots⟩ { g with stack := rest } (.invokevirtual index) mk (Value.ref b :: argsL).toArray X₁ hg hsize hdg hW (X₁.named hnamed) (hpre vm₁ X₁.warmed) with ⟨v, B, X', hpost, hsteps⟩ | ⟨q, B, X', hpost, hsteps⟩
  · exact Or.inl ⟨v, vm₁, B, X₁.warmed, X', hpost, fun target h => hstep₁ _ fun acts => by rw [doInvoke_state]; exact hsteps.trans h⟩
  · exact Or.inr ⟨q, vm₁, B, X₁.warmed, X', hpost, hstep₁ _ fun acts => by rw [doInvoke_state]; exact hsteps⟩
theorem vx_callSX (X : Stand p l e R s m args below meth c T locs cells slots) (hexec : p.tables.exec = Jvm.exec) {own : String} {index : Nat} {y : MethodName} {bytes : ByteArray} {maxL : Nat} {ret : Option FieldType} {hh : List (Nat × Nat × Nat × Nat)}
    (hown : s.vm.findClass own = some m.cls) (hlink : (Cond.methodLink own index y).before args s = true) (hstat : (Cond.static y).before args s = true) (hinit : (Cond.initialized y.cls).before args s = true)
    (hcode : (Cond.codeWith y bytes maxL ret hh).before args s = true) (hy : y.cls ≠ "java/lang/invoke/MethodHandle" ∧ y.cls ≠ "java/lang/invoke/VarHandle")
    {W9 : Nat} {Pre : Pt → Array Value → Prop} {Post : Pt → Array Value → Option Value → Pt → Prop} {PostX : Pt → Array Value → Addr → Pt → Prop} (hK : vx_Back l R p e below s args y 3 W9 Pre Post PostX)
    {g : JFrame} (hg : g.method = m) (hsize : g.locals.size = c.maxLocals) {argsL rest : List Value} (hlen : ∀ sig, parseMethodDescriptor y.desc = some sig → argsL.length = sig.parameters.length)
    (hstack : g.stack = argsL.reverse ++ rest) (hW : 2 * g.monitorRoom + (rest.map fun v => v.category).sum ≤ W9) (hdg : decode c.code g.pc = .ok (.invokestatic index, 3))
    (hpre : ∀ vm₁, s.WarmedH vm₁ → Pre ⟨T.setVm vm₁, locs, cells, slots⟩ argsL.toArray) :
    (∃ (v : Option Value) (vm₁ : Vm) (B : Pt), s.WarmedH vm₁ ∧ Stand p l e R s m args below meth c B.U B.locs B.cells B.slots ∧ Post ⟨T.setVm vm₁, locs, cells, slots⟩ argsL.toArray v B ∧
      ∀ target, Steps p.tables e below (B.U.setTop { g with pc := g.pc + 3, stack := v.toList ++ rest }) target → Steps p.tables e below (T.setTop g) target) ∨
    (∃ (q : Addr) (vm₁ : Vm) (B : Pt), s.WarmedH vm₁ ∧ Stand p l e R s m args below meth c B.U B.locs B.cells B.slots ∧ PostX ⟨T.setVm vm₁, locs, cells, slots⟩ argsL.toArray q B ∧
      Steps p.tables e below (T.setTop g) ((B.U.setTop { g with stack := rest }).pushFrame (.throwing q))) := by
  obtain ⟨mk, methM, cM, hnamed, hmethM, -, -, -, -, -, -, hsigM⟩ := Cond.codeWith_spec hcode
  have hstatic : methM.isStatic = true := Cond.static_spec hnamed hmethM hstat
  obtain ⟨kP, hkP, -⟩ := className_of_methodNamed hnamed
  have hinitP : kP.init = .initialized := Cond.initialized_spec (findClass_of_methodNamed hnamed) hkP hinit
  obtain ⟨vm₁, X₁, hstep₁⟩ := X.invokestatic hexec hown hlink hnamed hmethM hstatic hkP hinitP hy (g := g) hg (argsL := argsL) (rest := rest) (hlen _ hsigM) hstack hdg
  rcases hK m meth c ⟨T.setVm vm₁, locs, cells, slots⟩ { g with stack := rest } (.invokestatic index) mk argsL.toArray X₁ hg hsize hdg hW (X₁.named hnamed) (hpre vm₁ X₁.warmed) with ⟨v, B, X', hpost, hsteps⟩ | ⟨q, B, X', hpost, hsteps⟩
  · exact Or.inl ⟨v, vm₁, B, X₁.warmed, X', hpost, fun target h => hstep₁ _ fun acts => by rw [doInvoke_state]; exact hsteps.trans h⟩
  · exact Or.inr ⟨q, vm₁, B, X₁.warmed, X', hpost, hstep₁ _ fun acts => by rw [doInvoke_state]; exact hsteps⟩
theorem vx_callVW (X : Stand p l e R s m args below meth c T locs cells slots) (hexec : p.tables.exec = Jvm.exec) {own C : String} {index : Nat} {y : MethodName} {bytes : ByteArray} {maxL : Nat} {ret : Option FieldType} {hh : List (Nat × Nat × Nat × Nat)}
    (hown : s.vm.findClass own = some m.cls) (hlink : (Cond.methodLink own index y).before args s = true) (hinst : (Cond.instanceMethod y).before args s = true) (hsel : (Cond.selects C y y).before args s = true)
    (hcode : (Cond.codeWith y bytes maxL ret hh).before args s = true) (hy : y.cls ≠ "java/lang/invoke/MethodHandle" ∧ y.cls ≠ "java/lang/invoke/VarHandle")
    {W9 : Nat} {Pre : Pt → Array Value → Prop} {Post : Pt → Array Value → Option Value → Pt → Prop} (hK : Back l R p e below s args y 3 W9 Pre Post)
    {b : Addr} {cellB : Cell} (hcell : T.heap[b]? = some cellB) (hobj : cellB.vm.isStatics = false) (hcls : s.vm.findClass C = some cellB.cls)
    {g : JFrame} (hg : g.method = m) (hsize : g.locals.size = c.maxLocals) {argsL rest : List Value} (hlen : ∀ sig, parseMethodDescriptor y.desc = some sig → argsL.length = sig.parameters.length)
    (hstack : g.stack = argsL.reverse ++ .ref b :: rest) (hW : 2 * g.monitorRoom + (rest.map fun v => v.category).sum ≤ W9) (hdg : decode c.code g.pc = .ok (.invokevirtual index, 3))
    (hpre : ∀ vm₁, s.WarmedH vm₁ → Pre ⟨T.setVm vm₁, locs, cells, slots⟩ (Value.ref b :: argsL).toArray) :
    ∃ (v : Option Value) (vm₁ : Vm) (B : Pt), s.WarmedH vm₁ ∧ Stand p l e R s m args below meth c B.U B.locs B.cells B.slots ∧ Post ⟨T.setVm vm₁, locs, cells, slots⟩ (Value.ref b :: argsL).toArray v B ∧
      ∀ target, Steps p.tables e below (B.U.setTop { g with pc := g.pc + 3, stack := v.toList ++ rest }) target → Steps p.tables e below (T.setTop g) target := by
  obtain ⟨mk, methM, hnamed, hmethM, hstM, habM⟩ := Cond.instanceMethod_spec hinst
  obtain ⟨m8, methM', cM, hn8, hmethM', -, -, -, -, -, -, hsigM⟩ := Cond.codeWith_spec hcode
  cases Option.some.inj (hn8.symm.trans hnamed)
  cases hmethM.symm.trans hmethM'
  obtain ⟨c2, r2, m2, q1, q2, q3, q4, kP, hkP, hkPi⟩ := Cond.selects_spec hsel
  cases hcls.symm.trans q1
  cases (State.methodFound?_of_named hnamed hy).symm.trans q2
  cases hnamed.symm.trans q3
  have hselP : selectMethod e.platform s.vm cellB.cls mk = .method mk := by rw [Launch.admits_selectMethod X.admits]; exact q4
  obtain ⟨vm₁, X₁, hstep₁⟩ := X.invokevirtual hexec hown hlink hnamed hmethM hstM hkP hkPi hy (a := b) (cell := cellB) hcell
    (fun z h => by rw [h] at hobj; cases hobj) hselP hmethM habM hkP hkPi (g := g) hg (argsL := argsL) (rest := rest) (hlen _ hsigM) hstack hdg
  obtain ⟨v, B, X', hpost, hsteps⟩ := hK m meth c ⟨T.setVm vm₁, locs, cells, slots⟩ { g with stack := rest } (.invokevirtual index) mk (Value.ref b :: argsL).toArray X₁ hg hsize hdg hW (X₁.named hnamed) (hpre vm₁ X₁.warmed)
  exact ⟨v, vm₁, B, X₁.warmed, X', hpost, fun target h => hstep₁ _ fun acts => by rw [doInvoke_state]; exact hsteps.trans h⟩
abbrev vx_CVW (R : Room) (s : State) (args : Array Value) (own C : String) (index : Nat) (y : MethodName) (bytes : ByteArray) (maxL : Nat) (ret : Option FieldType) (hh : List (Nat × Nat × Nat × Nat)) (ws : List Cond) (rm : Room) (mc ms n : Nat) : Prop :=
  (rm.cells = mc ∧ rm.slots = ms ∧ rm.frames + 1 ≤ R.frames ∧ 8 + (maxL + 11) + rm.locals ≤ R.locals ∧ (∀ w ∈ ws, ∀ (a' : Array Value) (U : State), s.WarmedH U.vm → w.before a' U = true) ∧ Cond.codeWith y bytes maxL ret hh ∈ ws) ∧
  (Cond.codeWith y bytes maxL ret hh).before args s = true ∧ (Cond.initialized y.cls).before args s = true ∧ (y.cls ≠ "java/lang/invoke/MethodHandle" ∧ y.cls ≠ "java/lang/invoke/VarHandle") ∧
  (∀ sig, parseMethodDescriptor y.desc = some sig → n = sig.parameters.length) ∧ (Cond.methodLink own index y).before args s = true ∧ (Cond.instanceMethod y).before args s = true ∧ (Cond.selects C y y).before args s = true
theorem vx_cwVW {own C : String} {index maxL mc ms : Nat} {y : MethodName} {bytes : ByteArray} {ret : Option FieldType} {hh : List (Nat × Nat × Nat × Nat)} {Ts ws ws' : List Cond} {rm : Room} (n : Nat) (ht : ∀ w ∈ Ts, w.before args s = true) (hT : GoodIn Ts (wsV own index C y ws)) (hw : ws = Cond.codeWith y bytes maxL ret hh :: ws') (hrc : rm.cells = mc) (hrs : rm.slots = ms)
    (hd : y.cls = C ∧ y.cls ≠ "java/lang/invoke/MethodHandle" ∧ y.cls ≠ "java/lang/invoke/VarHandle" ∧ (parseMethodDescriptor y.desc).map (fun d => d.parameters.length) = some n) (hR : rm.frames + 1 ≤ R.frames ∧ 8 + (maxL + 11) + rm.locals ≤ R.locals) :
    vx_CVW R s args own C index y bytes maxL ret hh ws rm mc ms n := by
  obtain ⟨hC, hd⟩ := hd
  subst hC
  have ok : ∀ w ∈ wsV own index y.cls y ws, w.before args s = true := fun w h => ht w (hT w h).1
  have hG : GoodIn Ts ws := fun w h => hT w (by unfold wsV; exact List.mem_append_right _ h)
  have hc : Cond.codeWith y bytes maxL ret hh ∈ ws := by rw [hw]; exact List.mem_cons_self
  refine ⟨⟨hrc, hrs, hR.1, hR.2, pay_in ht hG, hc⟩, ht _ (hG _ hc).1, ok _ (by simp [wsV]), ⟨hd.1, hd.2.1⟩, fun sig h => ?_, ok _ (by simp [wsV]), ok _ (by simp [wsV]), ok _ (by simp [wsV])⟩
  have h2 := hd.2.2
  rw [h] at h2
  exact (Option.some.inj h2).symm
theorem vx_runVW {y : MethodName} {bytes cc : ByteArray} {maxL nL mc ms n index : Nat} {ret : Option FieldType} {hh : List (Nat × Nat × Nat × Nat)} {ws : List Cond} {rm : Room} {Pc : Array Value → State → Prop} {Qc : Array Value → State → Outcome → State → Prop} {free : Addr → Prop} {Ts : List Cond} {own C : String} {b : Addr} {As rest : List Value} {g : JFrame}
    (S : CallFix p m c cc nL s args Ts own) (hM : Met l y ws rm Pc Qc mc ms free) (cw : vx_CVW R s args own C index y bytes maxL ret hh ws rm mc ms n) (hp : PreV s H C b Pc As)
    (hg : g.method = m) (hn : As.length = n) (hsize : g.locals.size = nL) (hstack : g.stack = As.reverse ++ .ref b :: rest) (hW : 2 * g.monitorRoom + (rest.map fun v => v.category).sum ≤ 8) (hdg : decode cc g.pc = .ok (.invokevirtual index, 3)) (hf : cells + mc ≤ R.cells ∧ slots + ms ≤ R.slots) :
    va_Run p l e R s m args below meth c H locs cells slots mc ms g rest (Qc (Value.ref b :: As).toArray) free := by
  obtain ⟨⟨hrc, hrs, hfr, hlo, hws, hcw⟩, hcode, hini, hy, hlen, hl, hin, hse⟩ := cw
  have hK : Back l R p e below s args y 3 8 (PreOf R mc ms Pc) (PostOf Qc mc ms free) := va_backW (hh := hh) (bytes := bytes) (maxL := maxL) (ret := ret) hM hp.1 hrc hrs hfr hlo hws hcw (fun a' U hW => word_at hW (Or.inl (by first | rfl | simp [Cond.onTables, Cond.keeps, Cond.steady])) hini)
  obtain ⟨hx, hb, hml, ho, -⟩ := S
  obtain ⟨-, ⟨cellB, hcB, hoB, hclB⟩, hPc⟩ := hp
  intro T hT X
  obtain ⟨v, vm₁, ⟨U', l2, c2, s2⟩, hW₁, X', ⟨g', mk, t, L, e1, e2, hq, h1, hL, h2, h3⟩, st⟩ := vx_callVW X hx (C := C) (hh := hh) (bytes := bytes) (maxL := maxL) (ret := ret) ho hl hin hse hcode hy hK (by rw [hT]; exact hcB) hoB hclB hg (hsize.trans hml.symm) (argsL := As) (rest := rest) (fun sig h => hn.trans (hlen sig h)) hstack hW (by rw [hb]; exact hdg)
    (fun vm₁ hW₁ => ⟨hf.1, hf.2, hPc (T.setVm vm₁) hT hW₁⟩)
  dsimp only [Pt.U, Pt.locs, Pt.cells, Pt.slots] at X' e1 e2 h1 h2 h3 st
  subst h1; subst h2; subst h3
  exact ⟨v, (T.setVm vm₁).calling g' mk (Value.ref b :: As).toArray, t, U', L, hT, X', hL, e1, e2, hq, st⟩
section
variable {y : MethodName} {bytes cc : ByteArray} {maxL nL mc ms n index : Nat} {ret : Option FieldType} {ws : List Cond} {rm : Room} {Pc : Array Value → State → Prop} {Qc : Array Value → State → Outcome → State → Prop} {XC : String → State → State → Prop} {free : Addr → Prop} {Ts : List Cond} {own C : String} {b : Addr} {As rest : List Value} {g : JFrame}
theorem vx_runVX {hh : List (Nat × Nat × Nat × Nat)} (S : CallFix p m c cc nL s args Ts own) (hM : vx_Met l y ws rm Pc Qc XC mc ms free) (cw : vx_CVW R s args own C index y bytes maxL ret hh ws rm mc ms n) (hp : PreV s H C b Pc As)
    (hg : g.method = m) (hn : As.length = n) (hsize : g.locals.size = nL) (hstack : g.stack = As.reverse ++ .ref b :: rest) (hW : 2 * g.monitorRoom + (rest.map fun v => v.category).sum ≤ 8) (hdg : decode cc g.pc = .ok (.invokevirtual index, 3)) (hf : cells + mc ≤ R.cells ∧ slots + ms ≤ R.slots) :
    vx_Run p l e R s m args below meth c H locs cells slots mc ms g rest (Qc (Value.ref b :: As).toArray) XC free := by
  obtain ⟨⟨hrc, hrs, hfr, hlo, hws, hcw⟩, hcode, hini, hy, hlen, hl, hin, hse⟩ := cw
  have hK : vx_Back l R p e below s args y 3 8 (PreOf R mc ms Pc) (PostOf Qc mc ms free) (vx_Post XC mc ms free) := vx_backW (hh := hh) (bytes := bytes) (maxL := maxL) (ret := ret) hM hp.1 hrc hrs hfr hlo hws hcw (fun a' U hW => word_at hW (Or.inl (by first | rfl | simp [Cond.onTables, Cond.keeps, Cond.steady])) hini)
  obtain ⟨hx, hb, hml, ho, -⟩ := S
  obtain ⟨-, ⟨cellB, hcB, hoB, hclB⟩, hPc⟩ := hp
  intro T hT X
  rcases vx_callVX X hx (C := C) (hh := hh) (bytes := bytes) (maxL := maxL) (ret := ret) ho hl hin hse hcode hy hK (by rw [hT]; exact hcB) hoB hclB hg (hsize.trans hml.symm) (argsL := As) (rest := rest) (fun sig h => hn.trans (hlen sig h)) hstack hW (by rw [hb]; exact hdg)
    (fun vm₁ hW₁ => ⟨hf.1, hf.2, hPc (T.setVm vm₁) hT hW₁⟩) with ⟨v, vm₁, ⟨U', l2, c2, s2⟩, hW₁, X', ⟨g', mk, t, L, e1, e2, hq, h1, hL, h2, h3⟩, st⟩ | ⟨q, vm₁, ⟨U', l2, c2, s2⟩, hW₁, X', ⟨g', mk, t, L, E, ce, e1, e2, hq, hce, hcv, hcl, h1, hL, h2, h3⟩, st⟩
  · dsimp only [Pt.U, Pt.locs, Pt.cells, Pt.slots] at X' e1 e2 h1 h2 h3 st
    subst h1; subst h2; subst h3
    exact Or.inl ⟨v, (T.setVm vm₁).calling g' mk (Value.ref b :: As).toArray, t, U', L, hT, X', hL, e1, e2, hq, st⟩
  · dsimp only [Pt.U, Pt.locs, Pt.cells, Pt.slots] at X' e1 e2 h1 h2 h3 st hcl
    subst h1; subst h2; subst h3
    exact Or.inr ⟨q, (T.setVm vm₁).calling g' mk (Value.ref b :: As).toArray, t, U', L, E, ce, hT, X', hL, e1, e2, hq, hce, hcv, vx_cls hW₁ hcl, st⟩
theorem vx_runSX {hh : List (Nat × Nat × Nat × Nat)} (S : CallFix p m c cc nL s args Ts own) (hM : vx_Met l y ws rm Pc Qc XC mc ms free) (cw : vx_CSW R s args own index y bytes maxL ret hh ws rm mc ms n) (hp : PreS s H Pc As)
    (hg : g.method = m) (hn : As.length = n) (hsize : g.locals.size = nL) (hstack : g.stack = As.reverse ++ rest) (hW : 2 * g.monitorRoom + (rest.map fun v => v.category).sum ≤ 8) (hdg : decode cc g.pc = .ok (.invokestatic index, 3)) (hf : cells + mc ≤ R.cells ∧ slots + ms ≤ R.slots) :
    vx_Run p l e R s m args below meth c H locs cells slots mc ms g rest (Qc As.toArray) XC free := by
  obtain ⟨⟨hrc, hrs, hfr, hlo, hws, hcw⟩, hcode, hini, hy, hlen, hl, hstt⟩ := cw
  have hK : vx_Back l R p e below s args y 3 8 (PreOf R mc ms Pc) (PostOf Qc mc ms free) (vx_Post XC mc ms free) := vx_backW (hh := hh) (bytes := bytes) (maxL := maxL) (ret := ret) hM hp.1 hrc hrs hfr hlo hws hcw (fun a' U hW => word_at hW (Or.inl (by first | rfl | simp [Cond.onTables, Cond.keeps, Cond.steady])) hini)
  obtain ⟨hx, hb, hml, ho, -⟩ := S
  intro T hT X
  rcases vx_callSX X hx (hh := hh) (bytes := bytes) (maxL := maxL) (ret := ret) ho hl hstt hini hcode hy hK hg (hsize.trans hml.symm) (argsL := As) (rest := rest) (fun sig h => hn.trans (hlen sig h)) hstack hW (by rw [hb]; exact hdg)
    (fun vm₁ hW₁ => ⟨hf.1, hf.2, hp.2 (T.setVm vm₁) hT hW₁⟩) with ⟨v, vm₁, ⟨U', l2, c2, s2⟩, hW₁, X', ⟨g', mk, t, L, e1, e2, hq, h1, hL, h2, h3⟩, st⟩ | ⟨q, vm₁, ⟨U', l2, c2, s2⟩, hW₁, X', ⟨g', mk, t, L, E, ce, e1, e2, hq, hce, hcv, hcl, h1, hL, h2, h3⟩, st⟩
  · dsimp only [Pt.U, Pt.locs, Pt.cells, Pt.slots] at X' e1 e2 h1 h2 h3 st
    subst h1; subst h2; subst h3
    exact Or.inl ⟨v, (T.setVm vm₁).calling g' mk As.toArray, t, U', L, hT, X', hL, e1, e2, hq, st⟩
  · dsimp only [Pt.U, Pt.locs, Pt.cells, Pt.slots] at X' e1 e2 h1 h2 h3 st hcl
    subst h1; subst h2; subst h3
    exact Or.inr ⟨q, (T.setVm vm₁).calling g' mk As.toArray, t, U', L, E, ce, hT, X', hL, e1, e2, hq, hce, hcv, vx_cls hW₁ hcl, st⟩
end
end VXH
theorem vx_ofWH {l : Launch} {y : MethodName} {ws ws' : List Cond} {rm : Room} {Pc : Array Value → State → Prop} {Qc : Array Value → State → Outcome → State → Prop} {XC : String → State → State → Prop} {mc ms : Nat} {free : Addr → Prop} {cc : ByteArray} {maxL : Nat} {ret : Option FieldType} {hh : List (Nat × Nat × Nat × Nat)}
    (hy : plainName y.cls = true) (hw : ws = Cond.codeWith y cc maxL ret hh :: ws')
    (body : ∀ p e s m args below meth c s₁, BodyLoose p l y (headSpec ws rm) cc maxL ret e s m args below meth c s₁ → c.maxLocals = maxL → Pc args s →
      W p l e (headSpec ws rm).room s m args below meth c s.heap [] 0 0 (vx_MQ below Qc XC args s mc ms free) (entryFrame m args maxL)) : vx_Met l y ws rm Pc Qc XC mc ms free := by
  refine MetFree.of_bodyS (code := cc) (maxLocals := maxL) (ret := ret) hy ?_ ?_
  · intro args s m h hn
    obtain ⟨m9, meth, c, hn9, h1, h2, h3, h4, -, h5, h6, -⟩ := Cond.codeWith_spec (atoms_spec (ws := ws) h _ (by rw [hw]; exact List.mem_cons_self))
    cases hn.symm.trans hn9
    exact ⟨meth, c, h1, h2, h3, h4, h5, h6⟩
  · intro p e s m args below meth c s₁ B hml hP _
    have hh0 : s₁.heap = s.heap := by rw [B.state]; rfl
    obtain ⟨t, a1, o, b1, b2, b3⟩ := body p e s m args below meth c s₁ B hml hP s₁ hh0 (Stand.of_body B)
    exact ⟨t, o, a1, b1, b2, b3⟩
/-! ===== END ===== -/
end
