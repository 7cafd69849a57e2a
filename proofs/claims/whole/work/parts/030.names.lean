/-! ===== BEGIN printed: names, fields, word lists, decode rows ===== -/
def RX0 : String := "StartSleep$Blocks"
def TX0 : u_T := fun k => match k with
  | 0 => ("StartSleep$Blocks", "working", "[B", true)
  | 1 => ("StartSleep$Blocks", "copies", "[[B", true)
  | 2 => ("StartSleep$Blocks", "versions", "[[I", true)
  | _ => ("StartSleep$Blocks", "changed", "[Z", true)
def tyX0 : Nat → FieldType := fun k => match k with
  | 0 => .array .byte
  | 1 => .array (.array .byte)
  | 2 => .array (.array .int)
  | _ => .array .boolean
abbrev wsX00 : List Cond := u_ws RX0 TX0 4
theorem nmX0 : ∀ a, a < 4 → ∀ b, b < 4 → a ≠ b → (TX0 a).2.1 ≠ (TX0 b).2.1 := by decide +kernel
theorem tyX0_ok : ∀ k, k < 4 → parseFieldDescriptor (TX0 k).2.2.1 = some (tyX0 k) := by decide +kernel
abbrev cX0_init : ByteArray := prog_2_method_1_code
def yX0_init : MethodName := ⟨RX0, "<init>", "()V"⟩
abbrev cX0_has : ByteArray := prog_2_method_2_code
def yX0_has : MethodName := ⟨RX0, "has", "(I)Z"⟩
abbrev cX0_hasOctet : ByteArray := prog_2_method_3_code
def yX0_hasOctet : MethodName := ⟨RX0, "hasOctet", "(I)Z"⟩
abbrev cX0_isChanged : ByteArray := prog_2_method_4_code
def yX0_isChanged : MethodName := ⟨RX0, "isChanged", "(I)Z"⟩
abbrev cX0_howManyChanged : ByteArray := prog_2_method_5_code
def yX0_howManyChanged : MethodName := ⟨RX0, "howManyChanged", "()I"⟩
abbrev cX0_firstChanged : ByteArray := prog_2_method_6_code
def yX0_firstChanged : MethodName := ⟨RX0, "firstChanged", "()I"⟩
abbrev cX0_put : ByteArray := prog_2_method_7_code
def yX0_put : MethodName := ⟨RX0, "put", "(IIB)V"⟩
abbrev cX0_keptOctet : ByteArray := prog_2_method_8_code
def yX0_keptOctet : MethodName := ⟨RX0, "keptOctet", "(II)B"⟩
abbrev cX0_tear : ByteArray := prog_2_method_9_code
def yX0_tear : MethodName := ⟨RX0, "tear", "(I)V"⟩
abbrev cX0_save : ByteArray := prog_2_method_10_code
def yX0_save : MethodName := ⟨RX0, "save", "(I)V"⟩
abbrev cX0_load : ByteArray := prog_2_method_11_code
def yX0_load : MethodName := ⟨RX0, "load", "()V"⟩
abbrev cX0_keptCopy : ByteArray := prog_2_method_12_code
def yX0_keptCopy : MethodName := ⟨RX0, "keptCopy", "(I)I"⟩
def RX1 : String := "StartSleep$Parts"
def TX1 : u_T := fun k => match k with
  | 0 => ("StartSleep$Parts", "told", "[Z", true)
  | 1 => ("StartSleep$Parts", "places", "[I", true)
  | 2 => ("StartSleep$Parts", "failing", "[Z", true)
  | 3 => ("StartSleep$Parts", "count", "I", false)
  | 4 => ("StartSleep$Parts", "things", "[I", true)
  | _ => ("StartSleep$Parts", "thingCount", "I", false)
def tyX1 : Nat → FieldType := fun k => match k with
  | 0 => .array .boolean
  | 1 => .array .int
  | 2 => .array .boolean
  | 3 => .int
  | 4 => .array .int
  | _ => .int
abbrev wsX10 : List Cond := u_ws RX1 TX1 6
theorem nmX1 : ∀ a, a < 6 → ∀ b, b < 6 → a ≠ b → (TX1 a).2.1 ≠ (TX1 b).2.1 := by decide +kernel
theorem tyX1_ok : ∀ k, k < 6 → parseFieldDescriptor (TX1 k).2.2.1 = some (tyX1 k) := by decide +kernel
abbrev cX1_init : ByteArray := prog_3_method_1_code
def yX1_init : MethodName := ⟨RX1, "<init>", "()V"⟩
abbrev cX1_has : ByteArray := prog_3_method_2_code
def yX1_has : MethodName := ⟨RX1, "has", "(I)Z"⟩
abbrev cX1_howMany : ByteArray := prog_3_method_3_code
def yX1_howMany : MethodName := ⟨RX1, "howMany", "()I"⟩
abbrev cX1_tell : ByteArray := prog_3_method_4_code
def yX1_tell : MethodName := ⟨RX1, "tell", "(IIZ)V"⟩
abbrev cX1_beginAll : ByteArray := prog_3_method_5_code
def yX1_beginAll : MethodName := ⟨RX1, "beginAll", "()Z"⟩
abbrev cX1_thing : ByteArray := prog_3_method_6_code
def yX1_thing : MethodName := ⟨RX1, "thing", "(I)I"⟩
abbrev cX1_placeBehind : ByteArray := prog_3_method_7_code
def yX1_placeBehind : MethodName := ⟨RX1, "placeBehind", "(I)I"⟩
abbrev cX1_endThoseBeforeTheLast : ByteArray := prog_3_method_8_code
def yX1_endThoseBeforeTheLast : MethodName := ⟨RX1, "endThoseBeforeTheLast", "()V"⟩
abbrev cX1_note : ByteArray := prog_3_method_9_code
def yX1_note : MethodName := ⟨RX1, "note", "(I)V"⟩
def RX2 : String := "StartSleep$Users"
def TX2 : u_T := fun k => match k with
  | 0 => ("StartSleep$Users", "requests", "[Z", true)
  | _ => ("StartSleep$Users", "requesting", "I", false)
def tyX2 : Nat → FieldType := fun k => match k with
  | 0 => .array .boolean
  | _ => .int
abbrev wsX20 : List Cond := u_ws RX2 TX2 2
theorem nmX2 : ∀ a, a < 2 → ∀ b, b < 2 → a ≠ b → (TX2 a).2.1 ≠ (TX2 b).2.1 := by decide +kernel
theorem tyX2_ok : ∀ k, k < 2 → parseFieldDescriptor (TX2 k).2.2.1 = some (tyX2 k) := by decide +kernel
abbrev cX2_init : ByteArray := prog_4_method_1_code
def yX2_init : MethodName := ⟨RX2, "<init>", "()V"⟩
abbrev cX2_has : ByteArray := prog_4_method_2_code
def yX2_has : MethodName := ⟨RX2, "has", "(I)Z"⟩
abbrev cX2_howMany : ByteArray := prog_4_method_3_code
def yX2_howMany : MethodName := ⟨RX2, "howMany", "()I"⟩
abbrev cX2_set : ByteArray := prog_4_method_4_code
def yX2_set : MethodName := ⟨RX2, "set", "(IZ)Z"⟩
abbrev cX2_clear : ByteArray := prog_4_method_5_code
def yX2_clear : MethodName := ⟨RX2, "clear", "()V"⟩
def RX3 : String := "StartSleep"
def TX3 : u_T := fun k => match k with
  | 0 => ("StartSleep", "users", "LStartSleep$Users;", true)
  | 1 => ("StartSleep", "blocks", "LStartSleep$Blocks;", true)
  | 2 => ("StartSleep", "parts", "LStartSleep$Parts;", true)
  | 3 => ("StartSleep", "mode", "I", false)
  | 4 => ("StartSleep", "now", "J", false)
  | 5 => ("StartSleep", "due", "J", false)
  | 6 => ("StartSleep", "blockInSaving", "I", false)
  | 7 => ("StartSleep", "bankThatRuns", "I", false)
  | 8 => ("StartSleep", "bankToRun", "I", false)
  | 9 => ("StartSleep", "startings", "J", false)
  | 10 => ("StartSleep", "sleeps", "J", false)
  | 11 => ("StartSleep", "checks", "J", false)
  | 12 => ("StartSleep", "cuts", "J", false)
  | _ => ("StartSleep", "lastStarting", "J", false)
def tyX3 : Nat → FieldType := fun k => match k with
  | 0 => .object "StartSleep$Users"
  | 1 => .object "StartSleep$Blocks"
  | 2 => .object "StartSleep$Parts"
  | 3 => .int
  | 4 => .long
  | 5 => .long
  | 6 => .int
  | 7 => .int
  | 8 => .int
  | 9 => .long
  | 10 => .long
  | 11 => .long
  | 12 => .long
  | _ => .long
abbrev wsX30 : List Cond := u_ws RX3 TX3 14
theorem nmX3 : ∀ a, a < 14 → ∀ b, b < 14 → a ≠ b → (TX3 a).2.1 ≠ (TX3 b).2.1 := by decide +kernel
theorem tyX3_ok : ∀ k, k < 14 → parseFieldDescriptor (TX3 k).2.2.1 = some (tyX3 k) := by decide +kernel
abbrev cX3_init : ByteArray := prog_1_method_1_code
def yX3_init : MethodName := ⟨RX3, "<init>", "()V"⟩
abbrev cX3_user : ByteArray := prog_1_method_2_code
def yX3_user : MethodName := ⟨RX3, "user", "()I"⟩
abbrev cX3_request : ByteArray := prog_1_method_3_code
def yX3_request : MethodName := ⟨RX3, "request", "(IZ)I"⟩
abbrev cX3_wake : ByteArray := prog_1_method_4_code
def yX3_wake : MethodName := ⟨RX3, "wake", "(IZ)I"⟩
abbrev cX3_step : ByteArray := prog_1_method_5_code
def yX3_step : MethodName := ⟨RX3, "step", "(J)I"⟩
abbrev cX3_init_ : ByteArray := prog_1_method_6_code
def yX3_init_ : MethodName := ⟨RX3, "init", "(IIZ)I"⟩
abbrev cX3_block : ByteArray := prog_1_method_7_code
def yX3_block : MethodName := ⟨RX3, "block", "(I)I"⟩
abbrev cX3_write : ByteArray := prog_1_method_8_code
def yX3_write : MethodName := ⟨RX3, "write", "(IIB)I"⟩
abbrev cX3_cut : ByteArray := prog_1_method_9_code
def yX3_cut : MethodName := ⟨RX3, "cut", "(J)I"⟩
abbrev cX3_start : ByteArray := prog_1_method_10_code
def yX3_start : MethodName := ⟨RX3, "start", "()I"⟩
abbrev cX3_kept : ByteArray := prog_1_method_11_code
def yX3_kept : MethodName := ⟨RX3, "kept", "(II)B"⟩
abbrev cX3_bank : ByteArray := prog_1_method_12_code
def yX3_bank : MethodName := ⟨RX3, "bank", "(Z)I"⟩
abbrev cX3_time : ByteArray := prog_1_method_13_code
def yX3_time : MethodName := ⟨RX3, "time", "(I)J"⟩
abbrev cX3_order : ByteArray := prog_1_method_14_code
def yX3_order : MethodName := ⟨RX3, "order", "(I)I"⟩
abbrev cX3_canAdvance : ByteArray := prog_1_method_15_code
def yX3_canAdvance : MethodName := ⟨RX3, "canAdvance", "(J)Z"⟩
abbrev cX3_advance : ByteArray := prog_1_method_16_code
def yX3_advance : MethodName := ⟨RX3, "advance", "(J)V"⟩
abbrev cX3_happen : ByteArray := prog_1_method_17_code
def yX3_happen : MethodName := ⟨RX3, "happen", "()V"⟩
abbrev cX3_saveNextOrSleep : ByteArray := prog_1_method_18_code
def yX3_saveNextOrSleep : MethodName := ⟨RX3, "saveNextOrSleep", "()V"⟩
abbrev cX3_endSaving : ByteArray := prog_1_method_19_code
def yX3_endSaving : MethodName := ⟨RX3, "endSaving", "()V"⟩
abbrev cX3_run : ByteArray := prog_1_method_20_code
def yX3_run : MethodName := ⟨RX3, "run", "()V"⟩
abbrev cX3_awaitIdleness : ByteArray := prog_1_method_21_code
def yX3_awaitIdleness : MethodName := ⟨RX3, "awaitIdleness", "()V"⟩
abbrev cX3_sleep : ByteArray := prog_1_method_22_code
def yX3_sleep : MethodName := ⟨RX3, "sleep", "()V"⟩
abbrev cX3_check : ByteArray := prog_1_method_23_code
def yX3_check : MethodName := ⟨RX3, "check", "()V"⟩
abbrev cX3_enter : ByteArray := prog_1_method_24_code
def yX3_enter : MethodName := ⟨RX3, "enter", "(IJ)V"⟩
def RX4 : String := "StartSleepModel"
def TX4 : u_T := fun k => match k with
  | 0 => ("StartSleepModel", "thrown", "I", false)
  | 1 => ("StartSleepModel", "time", "J", false)
  | 2 => ("StartSleepModel", "mode", "I", false)
  | 3 => ("StartSleepModel", "working", "[B", true)
  | 4 => ("StartSleepModel", "copies", "[B", true)
  | 5 => ("StartSleepModel", "versions", "[I", true)
  | 6 => ("StartSleepModel", "changed", "[Z", true)
  | 7 => ("StartSleepModel", "requests", "[Z", true)
  | 8 => ("StartSleepModel", "quiet", "J", false)
  | 9 => ("StartSleepModel", "began", "J", false)
  | 10 => ("StartSleepModel", "saved", "I", false)
  | 11 => ("StartSleepModel", "told", "[Z", true)
  | 12 => ("StartSleepModel", "orders", "[I", true)
  | 13 => ("StartSleepModel", "fails", "[Z", true)
  | 14 => ("StartSleepModel", "things", "[I", true)
  | 15 => ("StartSleepModel", "many", "I", false)
  | 16 => ("StartSleepModel", "toRun", "I", false)
  | 17 => ("StartSleepModel", "runs", "I", false)
  | 18 => ("StartSleepModel", "starts", "J", false)
  | 19 => ("StartSleepModel", "sleeps", "J", false)
  | 20 => ("StartSleepModel", "checks", "J", false)
  | 21 => ("StartSleepModel", "cuts", "J", false)
  | _ => ("StartSleepModel", "lastStart", "J", false)
def tyX4 : Nat → FieldType := fun k => match k with
  | 0 => .int
  | 1 => .long
  | 2 => .int
  | 3 => .array .byte
  | 4 => .array .byte
  | 5 => .array .int
  | 6 => .array .boolean
  | 7 => .array .boolean
  | 8 => .long
  | 9 => .long
  | 10 => .int
  | 11 => .array .boolean
  | 12 => .array .int
  | 13 => .array .boolean
  | 14 => .array .int
  | 15 => .int
  | 16 => .int
  | 17 => .int
  | 18 => .long
  | 19 => .long
  | 20 => .long
  | 21 => .long
  | _ => .long
abbrev wsX40 : List Cond := u_ws RX4 TX4 23
theorem nmX4 : ∀ a, a < 23 → ∀ b, b < 23 → a ≠ b → (TX4 a).2.1 ≠ (TX4 b).2.1 := by decide +kernel
theorem tyX4_ok : ∀ k, k < 23 → parseFieldDescriptor (TX4 k).2.2.1 = some (tyX4 k) := by decide +kernel
abbrev cX4_init : ByteArray := prog_6_method_1_code
def yX4_init : MethodName := ⟨RX4, "<init>", "()V"⟩
abbrev cX4_thrown : ByteArray := prog_6_method_2_code
def yX4_thrown : MethodName := ⟨RX4, "thrown", "()I"⟩
abbrev cX4_user : ByteArray := prog_6_method_3_code
def yX4_user : MethodName := ⟨RX4, "user", "()I"⟩
abbrev cX4_request : ByteArray := prog_6_method_4_code
def yX4_request : MethodName := ⟨RX4, "request", "(IZ)I"⟩
abbrev cX4_run : ByteArray := prog_6_method_5_code
def yX4_run : MethodName := ⟨RX4, "run", "()V"⟩
abbrev cX4_sleep : ByteArray := prog_6_method_6_code
def yX4_sleep : MethodName := ⟨RX4, "sleep", "()V"⟩
abbrev cX4_wake : ByteArray := prog_6_method_7_code
def yX4_wake : MethodName := ⟨RX4, "wake", "(IZ)I"⟩
abbrev cX4_keptCopy : ByteArray := prog_6_method_8_code
def yX4_keptCopy : MethodName := ⟨RX4, "keptCopy", "(I)I"⟩
abbrev cX4_firstChanged : ByteArray := prog_6_method_9_code
def yX4_firstChanged : MethodName := ⟨RX4, "firstChanged", "()I"⟩
abbrev cX4_save : ByteArray := prog_6_method_10_code
def yX4_save : MethodName := ⟨RX4, "save", "()V"⟩
abbrev cX4_isSaved : ByteArray := prog_6_method_11_code
def yX4_isSaved : MethodName := ⟨RX4, "isSaved", "()V"⟩
abbrev cX4_due : ByteArray := prog_6_method_12_code
def yX4_due : MethodName := ⟨RX4, "due", "()J"⟩
abbrev cX4_goOn : ByteArray := prog_6_method_13_code
def yX4_goOn : MethodName := ⟨RX4, "goOn", "(J)V"⟩
abbrev cX4_step : ByteArray := prog_6_method_14_code
def yX4_step : MethodName := ⟨RX4, "step", "(J)I"⟩
abbrev cX4_init_ : ByteArray := prog_6_method_15_code
def yX4_init_ : MethodName := ⟨RX4, "init", "(IIZ)I"⟩
abbrev cX4_block : ByteArray := prog_6_method_16_code
def yX4_block : MethodName := ⟨RX4, "block", "(I)I"⟩
abbrev cX4_write : ByteArray := prog_6_method_17_code
def yX4_write : MethodName := ⟨RX4, "write", "(IIB)I"⟩
abbrev cX4_cut : ByteArray := prog_6_method_18_code
def yX4_cut : MethodName := ⟨RX4, "cut", "(J)I"⟩
abbrev cX4_nextPart : ByteArray := prog_6_method_19_code
def yX4_nextPart : MethodName := ⟨RX4, "nextPart", "(II)I"⟩
abbrev cX4_start : ByteArray := prog_6_method_20_code
def yX4_start : MethodName := ⟨RX4, "start", "()I"⟩
abbrev cX4_kept : ByteArray := prog_6_method_21_code
def yX4_kept : MethodName := ⟨RX4, "kept", "(II)B"⟩
abbrev cX4_bank : ByteArray := prog_6_method_22_code
def yX4_bank : MethodName := ⟨RX4, "bank", "(Z)I"⟩
abbrev cX4_time : ByteArray := prog_6_method_23_code
def yX4_time : MethodName := ⟨RX4, "time", "(I)J"⟩
abbrev cX4_order : ByteArray := prog_6_method_24_code
def yX4_order : MethodName := ⟨RX4, "order", "(I)I"⟩
def RJx00060 : String := "java/lang/ArrayIndexOutOfBoundsException"
def TJx00060 : u_T := fun k => match k with
  | 0 => ("java/lang/Throwable", "backtrace", "Ljava/lang/Object;", false)
  | 1 => ("java/lang/Throwable", "detailMessage", "Ljava/lang/String;", false)
  | 2 => ("java/lang/Throwable", "cause", "Ljava/lang/Throwable;", false)
  | 3 => ("java/lang/Throwable", "stackTrace", "[Ljava/lang/StackTraceElement;", false)
  | 4 => ("java/lang/Throwable", "depth", "I", false)
  | _ => ("java/lang/Throwable", "suppressedExceptions", "Ljava/util/List;", false)
def tyJx00060 : Nat → FieldType := fun k => match k with
  | 0 => .object "java/lang/Object"
  | 1 => .object "java/lang/String"
  | 2 => .object "java/lang/Throwable"
  | 3 => .array (.object "java/lang/StackTraceElement")
  | 4 => .int
  | _ => .object "java/util/List"
abbrev wsJx000600 : List Cond := u_ws RJx00060 TJx00060 6
theorem nmJx00060 : ∀ a, a < 6 → ∀ b, b < 6 → a ≠ b → (TJx00060 a).2.1 ≠ (TJx00060 b).2.1 := by decide +kernel
theorem tyJx00060_ok : ∀ k, k < 6 → parseFieldDescriptor (TJx00060 k).2.2.1 = some (tyJx00060 k) := by decide +kernel
abbrev cJx00060_init_a7421 : ByteArray := prog_7_method_2_code
def yJx00060_init_a7421 : MethodName := ⟨RJx00060, "<init>", "(Ljava/lang/String;)V"⟩
def RJ0 : String := "java/lang/String"
def TJ0 : u_T := fun k => match k with
  | 0 => ("java/lang/String", "value", "[B", true)
  | _ => ("java/lang/String", "coder", "B", true)
def tyJ0 : Nat → FieldType := fun k => match k with
  | 0 => .array .byte
  | _ => .byte
abbrev wsJ00 : List Cond := u_ws RJ0 TJ0 2
theorem nmJ0 : ∀ a, a < 2 → ∀ b, b < 2 → a ≠ b → (TJ0 a).2.1 ≠ (TJ0 b).2.1 := by decide +kernel
theorem tyJ0_ok : ∀ k, k < 2 → parseFieldDescriptor (TJ0 k).2.2.1 = some (tyJ0 k) := by decide +kernel
def RJ10 : String := "java/lang/System"
def TJ10 : u_T := fun k => match k with
  | _ => ("", "", "", false)
def tyJ10 : Nat → FieldType := fun k => match k with
  | _ => .int
abbrev wsJ100 : List Cond := u_ws RJ10 TJ10 0
theorem nmJ10 : ∀ a, a < 0 → ∀ b, b < 0 → a ≠ b → (TJ10 a).2.1 ≠ (TJ10 b).2.1 := by decide +kernel
theorem tyJ10_ok : ∀ k, k < 0 → parseFieldDescriptor (TJ10 k).2.2.1 = some (tyJ10 k) := by decide +kernel
def RL : String := "StartSleepLaw"
abbrev cL_kept : ByteArray := method_3_code
def yL_kept : MethodName := ⟨RL, "kept", "(LStartSleep;II[J)I"⟩
abbrev cL_law : ByteArray := code
def yL_law : MethodName := ⟨RL, "law", "([I)Z"⟩
def wsX0_init : List Cond := .code yX0_init cX0_init 1 none :: ([.methodLink RX0 3 objectInit, .instanceMethod objectInit, .code objectInit ⟨#[0xb1]⟩ 1 none, .arrayClass .byte, .fieldLink RX0 11 "StartSleep$Blocks" "working" "[B", .classLink RX0 15 "[[B", .fieldLink RX0 17 "StartSleep$Blocks" "copies" "[[B", .classLink RX0 20 "[[I", .arrayClass .int, .fieldLink RX0 22 "StartSleep$Blocks" "versions" "[[I", .arrayClass .boolean, .fieldLink RX0 25 "StartSleep$Blocks" "changed" "[Z"] ++ wsX00)
def wsX0_has : List Cond := .code yX0_has cX0_has 1 (some .boolean) :: ([])
def wsX0_hasOctet : List Cond := .code yX0_hasOctet cX0_hasOctet 1 (some .boolean) :: ([])
def wsX0_isChanged : List Cond := .code yX0_isChanged cX0_isChanged 2 (some .boolean) :: ([.fieldLink RX0 25 "StartSleep$Blocks" "changed" "[Z", .methodLink RX0 29 yX0_has, .static yX0_has, .initialized RX0, .code yX0_has cX0_has 1 (some .boolean)] ++ wsX00 ++ (vx_atM "java/lang/ArrayIndexOutOfBoundsException" ["java/lang/IndexOutOfBoundsException", "java/lang/RuntimeException", "java/lang/Exception"]).filter goodWord)
def wsX0_howManyChanged : List Cond := .code yX0_howManyChanged cX0_howManyChanged 3 (some .int) :: ([.fieldLink RX0 25 "StartSleep$Blocks" "changed" "[Z"] ++ wsX00 ++ (vx_atM "java/lang/ArrayIndexOutOfBoundsException" ["java/lang/IndexOutOfBoundsException", "java/lang/RuntimeException", "java/lang/Exception"]).filter goodWord)
def wsX0_firstChanged : List Cond := .code yX0_firstChanged cX0_firstChanged 2 (some .int) :: ([.fieldLink RX0 25 "StartSleep$Blocks" "changed" "[Z"] ++ wsX00 ++ (vx_atM "java/lang/ArrayIndexOutOfBoundsException" ["java/lang/IndexOutOfBoundsException", "java/lang/RuntimeException", "java/lang/Exception"]).filter goodWord)
def wsX0_put : List Cond := .code yX0_put cX0_put 4 none :: ([.fieldLink RX0 11 "StartSleep$Blocks" "working" "[B", .fieldLink RX0 25 "StartSleep$Blocks" "changed" "[Z", .methodLink RX0 29 yX0_has, .static yX0_has, .initialized RX0, .code yX0_has cX0_has 1 (some .boolean), .methodLink RX0 33 yX0_hasOctet, .static yX0_hasOctet, .code yX0_hasOctet cX0_hasOctet 1 (some .boolean)] ++ wsX00 ++ (vx_atM "java/lang/ArrayIndexOutOfBoundsException" ["java/lang/IndexOutOfBoundsException", "java/lang/RuntimeException", "java/lang/Exception"]).filter goodWord)
def wsX0_keptCopy : List Cond := .code yX0_keptCopy cX0_keptCopy 2 (some .int) :: ([.fieldLink RX0 22 "StartSleep$Blocks" "versions" "[[I"] ++ wsX00 ++ (vx_atM "java/lang/ArrayIndexOutOfBoundsException" ["java/lang/IndexOutOfBoundsException", "java/lang/RuntimeException", "java/lang/Exception"]).filter goodWord)
def wsX0_keptOctet : List Cond := .code yX0_keptOctet cX0_keptOctet 3 (some .byte) :: ([.fieldLink RX0 17 "StartSleep$Blocks" "copies" "[[B", .methodLink RX0 29 yX0_has, .static yX0_has, .initialized RX0, .code yX0_has cX0_has 1 (some .boolean), .methodLink RX0 33 yX0_hasOctet, .static yX0_hasOctet, .code yX0_hasOctet cX0_hasOctet 1 (some .boolean), .methodLink RX0 36 yX0_keptCopy, .instanceMethod yX0_keptCopy, .selects RX0 yX0_keptCopy yX0_keptCopy, .code yX0_keptCopy cX0_keptCopy 2 (some .int), .fieldLink RX0 22 "StartSleep$Blocks" "versions" "[[I"] ++ wsX00 ++ (vx_atM "java/lang/ArrayIndexOutOfBoundsException" ["java/lang/IndexOutOfBoundsException", "java/lang/RuntimeException", "java/lang/Exception"]).filter goodWord)
def wsX0_tear : List Cond := .code yX0_tear cX0_tear 2 none :: ([.fieldLink RX0 22 "StartSleep$Blocks" "versions" "[[I", .methodLink RX0 29 yX0_has, .static yX0_has, .initialized RX0, .code yX0_has cX0_has 1 (some .boolean), .methodLink RX0 36 yX0_keptCopy, .instanceMethod yX0_keptCopy, .selects RX0 yX0_keptCopy yX0_keptCopy, .code yX0_keptCopy cX0_keptCopy 2 (some .int)] ++ wsX00 ++ (vx_atM "java/lang/ArrayIndexOutOfBoundsException" ["java/lang/IndexOutOfBoundsException", "java/lang/RuntimeException", "java/lang/Exception"]).filter goodWord)
def wsX0_save : List Cond := .code yX0_save cX0_save 4 none :: ([.fieldLink RX0 11 "StartSleep$Blocks" "working" "[B", .fieldLink RX0 17 "StartSleep$Blocks" "copies" "[[B", .methodLink RX0 40 arraycopyName, .native arraycopyName, .static arraycopyName, .initialized "java/lang/System", .fieldLink RX0 22 "StartSleep$Blocks" "versions" "[[I", .fieldLink RX0 25 "StartSleep$Blocks" "changed" "[Z", .methodLink RX0 29 yX0_has, .static yX0_has, .initialized RX0, .code yX0_has cX0_has 1 (some .boolean), .methodLink RX0 36 yX0_keptCopy, .instanceMethod yX0_keptCopy, .selects RX0 yX0_keptCopy yX0_keptCopy, .code yX0_keptCopy cX0_keptCopy 2 (some .int)] ++ wsX00 ++ (vx_atM "java/lang/ArrayIndexOutOfBoundsException" ["java/lang/IndexOutOfBoundsException", "java/lang/RuntimeException", "java/lang/Exception"]).filter goodWord)
def wsX0_load : List Cond := .code yX0_load cX0_load 2 none :: ([.fieldLink RX0 17 "StartSleep$Blocks" "copies" "[[B", .fieldLink RX0 11 "StartSleep$Blocks" "working" "[B", .methodLink RX0 40 arraycopyName, .native arraycopyName, .static arraycopyName, .initialized "java/lang/System", .fieldLink RX0 25 "StartSleep$Blocks" "changed" "[Z", .methodLink RX0 36 yX0_keptCopy, .instanceMethod yX0_keptCopy, .selects RX0 yX0_keptCopy yX0_keptCopy, .initialized RX0, .code yX0_keptCopy cX0_keptCopy 2 (some .int), .fieldLink RX0 22 "StartSleep$Blocks" "versions" "[[I"] ++ wsX00 ++ (vx_atM "java/lang/ArrayIndexOutOfBoundsException" ["java/lang/IndexOutOfBoundsException", "java/lang/RuntimeException", "java/lang/Exception"]).filter goodWord)
def wsX1_init : List Cond := .code yX1_init cX1_init 1 none :: ([.methodLink RX1 3 objectInit, .instanceMethod objectInit, .code objectInit ⟨#[0xb1]⟩ 1 none, .arrayClass .boolean, .fieldLink RX1 9 "StartSleep$Parts" "told" "[Z", .arrayClass .int, .fieldLink RX1 13 "StartSleep$Parts" "places" "[I", .fieldLink RX1 17 "StartSleep$Parts" "failing" "[Z", .fieldLink RX1 20 "StartSleep$Parts" "things" "[I"] ++ wsX10)
def wsX1_has : List Cond := .code yX1_has cX1_has 1 (some .boolean) :: ([])
def wsX1_howMany : List Cond := .code yX1_howMany cX1_howMany 1 (some .int) :: ([.fieldLink RX1 23 "StartSleep$Parts" "count" "I"] ++ wsX10)
def wsX1_tell : List Cond := .code yX1_tell cX1_tell 4 none :: ([.fieldLink RX1 9 "StartSleep$Parts" "told" "[Z", .fieldLink RX1 23 "StartSleep$Parts" "count" "I", .fieldLink RX1 13 "StartSleep$Parts" "places" "[I", .fieldLink RX1 17 "StartSleep$Parts" "failing" "[Z", .methodLink RX1 27 yX1_has, .static yX1_has, .initialized RX1, .code yX1_has cX1_has 1 (some .boolean)] ++ wsX10 ++ (vx_atM "java/lang/ArrayIndexOutOfBoundsException" ["java/lang/IndexOutOfBoundsException", "java/lang/RuntimeException", "java/lang/Exception"]).filter goodWord)
def wsX1_placeBehind : List Cond := .code yX1_placeBehind cX1_placeBehind 4 (some .int) :: ([.fieldLink RX1 9 "StartSleep$Parts" "told" "[Z", .fieldLink RX1 13 "StartSleep$Parts" "places" "[I"] ++ wsX10 ++ (vx_atM "java/lang/ArrayIndexOutOfBoundsException" ["java/lang/IndexOutOfBoundsException", "java/lang/RuntimeException", "java/lang/Exception"]).filter goodWord)
def wsX1_note : List Cond := .code yX1_note cX1_note 2 none :: ([.fieldLink RX1 31 "StartSleep$Parts" "thingCount" "I", .fieldLink RX1 20 "StartSleep$Parts" "things" "[I"] ++ wsX10 ++ (vx_atM "java/lang/ArrayIndexOutOfBoundsException" ["java/lang/IndexOutOfBoundsException", "java/lang/RuntimeException", "java/lang/Exception"]).filter goodWord)
def wsX1_thing : List Cond := .code yX1_thing cX1_thing 2 (some .int) :: ([.fieldLink RX1 31 "StartSleep$Parts" "thingCount" "I", .fieldLink RX1 20 "StartSleep$Parts" "things" "[I"] ++ wsX10 ++ (vx_atM "java/lang/ArrayIndexOutOfBoundsException" ["java/lang/IndexOutOfBoundsException", "java/lang/RuntimeException", "java/lang/Exception"]).filter goodWord)
def wsX1_endThoseBeforeTheLast : List Cond := .code yX1_endThoseBeforeTheLast cX1_endThoseBeforeTheLast 2 none :: ([.fieldLink RX1 31 "StartSleep$Parts" "thingCount" "I", .methodLink RX1 45 yX1_thing, .instanceMethod yX1_thing, .selects RX1 yX1_thing yX1_thing, .initialized RX1, .code yX1_thing cX1_thing 2 (some .int), .fieldLink RX1 20 "StartSleep$Parts" "things" "[I", .methodLink RX1 38 yX1_note, .instanceMethod yX1_note, .selects RX1 yX1_note yX1_note, .code yX1_note cX1_note 2 none] ++ wsX10 ++ (vx_atM "java/lang/ArrayIndexOutOfBoundsException" ["java/lang/IndexOutOfBoundsException", "java/lang/RuntimeException", "java/lang/Exception"]).filter goodWord)
def wsX1_beginAll_r1 : List Cond := [Cond.fieldLink RX1 31 "StartSleep$Parts" "thingCount" "I", Cond.fieldLink RX1 17 "StartSleep$Parts" "failing" "[Z", Cond.methodLink RX1 34 yX1_placeBehind, Cond.instanceMethod yX1_placeBehind, Cond.selects RX1 yX1_placeBehind yX1_placeBehind, Cond.initialized RX1, Cond.code yX1_placeBehind cX1_placeBehind 4 (some .int), Cond.fieldLink RX1 9 "StartSleep$Parts" "told" "[Z", Cond.fieldLink RX1 13 "StartSleep$Parts" "places" "[I", Cond.methodLink RX1 38 yX1_note, Cond.instanceMethod yX1_note, Cond.selects RX1 yX1_note yX1_note, Cond.code yX1_note cX1_note 2 none, Cond.fieldLink RX1 20 "StartSleep$Parts" "things" "[I", Cond.methodLink RX1 27 yX1_has, Cond.static yX1_has, Cond.code yX1_has cX1_has 1 (some .boolean), Cond.methodLink RX1 42 yX1_endThoseBeforeTheLast, Cond.instanceMethod yX1_endThoseBeforeTheLast, Cond.selects RX1 yX1_endThoseBeforeTheLast yX1_endThoseBeforeTheLast, Cond.code yX1_endThoseBeforeTheLast cX1_endThoseBeforeTheLast 2 none, Cond.methodLink RX1 45 yX1_thing, Cond.instanceMethod yX1_thing, Cond.selects RX1 yX1_thing yX1_thing]
def wsX1_beginAll_r2 : List Cond := [Cond.code yX1_thing cX1_thing 2 (some .int)]
def wsX1_beginAll : List Cond := .code yX1_beginAll cX1_beginAll 4 (some .boolean) :: ((wsX1_beginAll_r1 ++ wsX1_beginAll_r2) ++ wsX10 ++ (vx_atM "java/lang/ArrayIndexOutOfBoundsException" ["java/lang/IndexOutOfBoundsException", "java/lang/RuntimeException", "java/lang/Exception"]).filter goodWord)
def wsX2_init : List Cond := .code yX2_init cX2_init 1 none :: ([.methodLink RX2 1 objectInit, .instanceMethod objectInit, .code objectInit ⟨#[0xb1]⟩ 1 none, .arrayClass .boolean, .fieldLink RX2 9 "StartSleep$Users" "requests" "[Z"] ++ wsX20)
def wsX2_has : List Cond := .code yX2_has cX2_has 1 (some .boolean) :: ([])
def wsX2_howMany : List Cond := .code yX2_howMany cX2_howMany 1 (some .int) :: ([.fieldLink RX2 13 "StartSleep$Users" "requesting" "I"] ++ wsX20)
def wsX2_set : List Cond := .code yX2_set cX2_set 3 (some .boolean) :: ([.fieldLink RX2 9 "StartSleep$Users" "requests" "[Z", .fieldLink RX2 13 "StartSleep$Users" "requesting" "I", .methodLink RX2 17 yX2_has, .static yX2_has, .initialized RX2, .code yX2_has cX2_has 1 (some .boolean)] ++ wsX20 ++ (vx_atM "java/lang/ArrayIndexOutOfBoundsException" ["java/lang/IndexOutOfBoundsException", "java/lang/RuntimeException", "java/lang/Exception"]).filter goodWord)
def wsX2_clear : List Cond := .code yX2_clear cX2_clear 2 none :: ([.fieldLink RX2 9 "StartSleep$Users" "requests" "[Z", .fieldLink RX2 13 "StartSleep$Users" "requesting" "I"] ++ wsX20 ++ (vx_atM "java/lang/ArrayIndexOutOfBoundsException" ["java/lang/IndexOutOfBoundsException", "java/lang/RuntimeException", "java/lang/Exception"]).filter goodWord)
def wsX3_init_r1 : List Cond := [Cond.methodLink RX3 1 objectInit, Cond.instanceMethod objectInit, Cond.code objectInit ⟨#[0xb1]⟩ 1 none, Cond.classLink RX3 7 RX2, Cond.instantiable RX2 2, Cond.initialized RX2, Cond.fieldLink RX3 10 "StartSleep" "users" "LStartSleep$Users;", Cond.classLink RX3 16 RX0, Cond.instantiable RX0 4, Cond.initialized RX0, Cond.fieldLink RX3 19 "StartSleep" "blocks" "LStartSleep$Blocks;", Cond.classLink RX3 23 RX1, Cond.instantiable RX1 6, Cond.initialized RX1, Cond.fieldLink RX3 26 "StartSleep" "parts" "LStartSleep$Parts;", Cond.fieldLink RX3 30 "StartSleep" "mode" "I", Cond.constantLong RX3 34 (-1), Cond.fieldLink RX3 36 "StartSleep" "due" "J", Cond.fieldLink RX3 40 "StartSleep" "blockInSaving" "I", Cond.methodLink RX3 9 yX2_init, Cond.instanceMethod yX2_init, Cond.code yX2_init cX2_init 1 none, Cond.methodLink RX2 1 objectInit, Cond.arrayClass .boolean]
def wsX3_init_r2 : List Cond := [Cond.fieldLink RX2 9 "StartSleep$Users" "requests" "[Z", Cond.methodLink RX3 18 yX0_init, Cond.instanceMethod yX0_init, Cond.code yX0_init cX0_init 1 none, Cond.methodLink RX0 3 objectInit, Cond.arrayClass .byte, Cond.fieldLink RX0 11 "StartSleep$Blocks" "working" "[B", Cond.classLink RX0 15 "[[B", Cond.fieldLink RX0 17 "StartSleep$Blocks" "copies" "[[B", Cond.classLink RX0 20 "[[I", Cond.arrayClass .int, Cond.fieldLink RX0 22 "StartSleep$Blocks" "versions" "[[I", Cond.fieldLink RX0 25 "StartSleep$Blocks" "changed" "[Z", Cond.methodLink RX3 25 yX1_init, Cond.instanceMethod yX1_init, Cond.code yX1_init cX1_init 1 none, Cond.methodLink RX1 3 objectInit, Cond.fieldLink RX1 9 "StartSleep$Parts" "told" "[Z", Cond.fieldLink RX1 13 "StartSleep$Parts" "places" "[I", Cond.fieldLink RX1 17 "StartSleep$Parts" "failing" "[Z", Cond.fieldLink RX1 20 "StartSleep$Parts" "things" "[I"]
def wsX3_init : List Cond := .code yX3_init cX3_init 1 none :: ((wsX3_init_r1 ++ wsX3_init_r2) ++ wsX20 ++ wsX30 ++ wsX00 ++ wsX10)
def wsX3_user : List Cond := .code yX3_user cX3_user 1 (some .int) :: ([.fieldLink RX3 10 "StartSleep" "users" "LStartSleep$Users;", .methodLink RX3 43 yX2_howMany, .instanceMethod yX2_howMany, .selects RX2 yX2_howMany yX2_howMany, .initialized RX2, .code yX2_howMany cX2_howMany 1 (some .int), .fieldLink RX2 13 "StartSleep$Users" "requesting" "I"] ++ wsX30 ++ wsX20)
def wsX3_awaitIdleness : List Cond := .code yX3_awaitIdleness cX3_awaitIdleness 1 none :: ([.fieldLink RX3 10 "StartSleep" "users" "LStartSleep$Users;", .fieldLink RX3 102 "StartSleep" "now" "J", .constantLong RX3 173 (100), .constantLong RX3 34 (-1), .fieldLink RX3 36 "StartSleep" "due" "J", .methodLink RX3 43 yX2_howMany, .instanceMethod yX2_howMany, .selects RX2 yX2_howMany yX2_howMany, .initialized RX2, .code yX2_howMany cX2_howMany 1 (some .int), .fieldLink RX2 13 "StartSleep$Users" "requesting" "I"] ++ wsX30 ++ wsX20)
def wsX3_request_r1 : List Cond := [Cond.fieldLink RX3 30 "StartSleep" "mode" "I", Cond.fieldLink RX3 10 "StartSleep" "users" "LStartSleep$Users;", Cond.methodLink RX3 47 yX2_has, Cond.static yX2_has, Cond.initialized RX2, Cond.code yX2_has cX2_has 1 (some .boolean), Cond.methodLink RX3 51 yX2_set, Cond.instanceMethod yX2_set, Cond.selects RX2 yX2_set yX2_set, Cond.code yX2_set cX2_set 3 (some .boolean), Cond.fieldLink RX2 9 "StartSleep$Users" "requests" "[Z", Cond.fieldLink RX2 13 "StartSleep$Users" "requesting" "I", Cond.methodLink RX2 17 yX2_has, Cond.methodLink RX3 55 yX3_awaitIdleness, Cond.instanceMethod yX3_awaitIdleness, Cond.selects RX3 yX3_awaitIdleness yX3_awaitIdleness, Cond.initialized RX3, Cond.code yX3_awaitIdleness cX3_awaitIdleness 1 none, Cond.fieldLink RX3 102 "StartSleep" "now" "J", Cond.constantLong RX3 173 (100), Cond.constantLong RX3 34 (-1), Cond.fieldLink RX3 36 "StartSleep" "due" "J", Cond.methodLink RX3 43 yX2_howMany, Cond.instanceMethod yX2_howMany]
def wsX3_request_r2 : List Cond := [Cond.selects RX2 yX2_howMany yX2_howMany, Cond.code yX2_howMany cX2_howMany 1 (some .int)]
def wsX3_request : List Cond := .code yX3_request cX3_request 4 (some .int) :: ((wsX3_request_r1 ++ wsX3_request_r2) ++ wsX30 ++ wsX20 ++ (vx_atM "java/lang/ArrayIndexOutOfBoundsException" ["java/lang/IndexOutOfBoundsException", "java/lang/RuntimeException", "java/lang/Exception"]).filter goodWord)
def wsX3_run : List Cond := .code yX3_run cX3_run 1 none :: ([.fieldLink RX3 30 "StartSleep" "mode" "I", .methodLink RX3 55 yX3_awaitIdleness, .instanceMethod yX3_awaitIdleness, .selects RX3 yX3_awaitIdleness yX3_awaitIdleness, .initialized RX3, .code yX3_awaitIdleness cX3_awaitIdleness 1 none, .fieldLink RX3 10 "StartSleep" "users" "LStartSleep$Users;", .fieldLink RX3 102 "StartSleep" "now" "J", .constantLong RX3 173 (100), .constantLong RX3 34 (-1), .fieldLink RX3 36 "StartSleep" "due" "J", .methodLink RX3 43 yX2_howMany, .instanceMethod yX2_howMany, .selects RX2 yX2_howMany yX2_howMany, .initialized RX2, .code yX2_howMany cX2_howMany 1 (some .int), .fieldLink RX2 13 "StartSleep$Users" "requesting" "I"] ++ wsX30 ++ wsX20)
def wsX3_enter : List Cond := .code yX3_enter cX3_enter 4 none :: ([.fieldLink RX3 30 "StartSleep" "mode" "I", .fieldLink RX3 36 "StartSleep" "due" "J"] ++ wsX30)
def wsX3_check : List Cond := .code yX3_check cX3_check 1 none :: ([.fieldLink RX3 138 "StartSleep" "checks" "J", .fieldLink RX3 102 "StartSleep" "now" "J", .constantLong RX3 175 (20), .methodLink RX3 92 yX3_enter, .instanceMethod yX3_enter, .selects RX3 yX3_enter yX3_enter, .initialized RX3, .code yX3_enter cX3_enter 4 none, .fieldLink RX3 30 "StartSleep" "mode" "I", .fieldLink RX3 36 "StartSleep" "due" "J"] ++ wsX30)
def wsX3_wake_r1 : List Cond := [Cond.fieldLink RX3 30 "StartSleep" "mode" "I", Cond.methodLink RX3 58 yX3_run, Cond.instanceMethod yX3_run, Cond.selects RX3 yX3_run yX3_run, Cond.initialized RX3, Cond.code yX3_run cX3_run 1 none, Cond.methodLink RX3 55 yX3_awaitIdleness, Cond.instanceMethod yX3_awaitIdleness, Cond.selects RX3 yX3_awaitIdleness yX3_awaitIdleness, Cond.code yX3_awaitIdleness cX3_awaitIdleness 1 none, Cond.fieldLink RX3 10 "StartSleep" "users" "LStartSleep$Users;", Cond.fieldLink RX3 102 "StartSleep" "now" "J", Cond.constantLong RX3 173 (100), Cond.constantLong RX3 34 (-1), Cond.fieldLink RX3 36 "StartSleep" "due" "J", Cond.methodLink RX3 43 yX2_howMany, Cond.instanceMethod yX2_howMany, Cond.selects RX2 yX2_howMany yX2_howMany, Cond.initialized RX2, Cond.code yX2_howMany cX2_howMany 1 (some .int), Cond.fieldLink RX2 13 "StartSleep$Users" "requesting" "I", Cond.methodLink RX3 61 yX3_check, Cond.instanceMethod yX3_check, Cond.selects RX3 yX3_check yX3_check]
def wsX3_wake_r2 : List Cond := [Cond.code yX3_check cX3_check 1 none, Cond.fieldLink RX3 138 "StartSleep" "checks" "J", Cond.constantLong RX3 175 (20), Cond.methodLink RX3 92 yX3_enter, Cond.instanceMethod yX3_enter, Cond.selects RX3 yX3_enter yX3_enter, Cond.code yX3_enter cX3_enter 4 none]
def wsX3_wake : List Cond := .code yX3_wake cX3_wake 3 (some .int) :: ((wsX3_wake_r1 ++ wsX3_wake_r2) ++ wsX30 ++ wsX20)
def wsX3_canAdvance : List Cond := .code yX3_canAdvance cX3_canAdvance 3 (some .boolean) :: ([.fieldLink RX3 102 "StartSleep" "now" "J", .constantLong RX3 147 (100000)] ++ wsX30)
def wsX3_sleep : List Cond := .code yX3_sleep cX3_sleep 1 none :: ([.fieldLink RX3 135 "StartSleep" "sleeps" "J", .constantLong RX3 34 (-1), .methodLink RX3 92 yX3_enter, .instanceMethod yX3_enter, .selects RX3 yX3_enter yX3_enter, .initialized RX3, .code yX3_enter cX3_enter 4 none, .fieldLink RX3 30 "StartSleep" "mode" "I", .fieldLink RX3 36 "StartSleep" "due" "J"] ++ wsX30)
def wsX3_saveNextOrSleep_r1 : List Cond := [Cond.fieldLink RX3 19 "StartSleep" "blocks" "LStartSleep$Blocks;", Cond.fieldLink RX3 40 "StartSleep" "blockInSaving" "I", Cond.fieldLink RX3 102 "StartSleep" "now" "J", Cond.constantLong RX3 168 (5), Cond.methodLink RX3 161 yX0_firstChanged, Cond.instanceMethod yX0_firstChanged, Cond.selects RX0 yX0_firstChanged yX0_firstChanged, Cond.initialized RX0, Cond.code yX0_firstChanged cX0_firstChanged 2 (some .int), Cond.fieldLink RX0 25 "StartSleep$Blocks" "changed" "[Z", Cond.methodLink RX3 158 yX3_sleep, Cond.instanceMethod yX3_sleep, Cond.selects RX3 yX3_sleep yX3_sleep, Cond.initialized RX3, Cond.code yX3_sleep cX3_sleep 1 none, Cond.fieldLink RX3 135 "StartSleep" "sleeps" "J", Cond.constantLong RX3 34 (-1), Cond.methodLink RX3 92 yX3_enter, Cond.instanceMethod yX3_enter, Cond.selects RX3 yX3_enter yX3_enter, Cond.code yX3_enter cX3_enter 4 none, Cond.fieldLink RX3 30 "StartSleep" "mode" "I", Cond.fieldLink RX3 36 "StartSleep" "due" "J", Cond.methodLink RX3 164 yX0_tear]
def wsX3_saveNextOrSleep_r2 : List Cond := [Cond.instanceMethod yX0_tear, Cond.selects RX0 yX0_tear yX0_tear, Cond.code yX0_tear cX0_tear 2 none, Cond.fieldLink RX0 22 "StartSleep$Blocks" "versions" "[[I", Cond.methodLink RX0 29 yX0_has, Cond.static yX0_has, Cond.code yX0_has cX0_has 1 (some .boolean), Cond.methodLink RX0 36 yX0_keptCopy, Cond.instanceMethod yX0_keptCopy, Cond.selects RX0 yX0_keptCopy yX0_keptCopy, Cond.code yX0_keptCopy cX0_keptCopy 2 (some .int)]
def wsX3_saveNextOrSleep : List Cond := .code yX3_saveNextOrSleep cX3_saveNextOrSleep 1 none :: ((wsX3_saveNextOrSleep_r1 ++ wsX3_saveNextOrSleep_r2) ++ wsX30 ++ wsX00 ++ (vx_atM "java/lang/ArrayIndexOutOfBoundsException" ["java/lang/IndexOutOfBoundsException", "java/lang/RuntimeException", "java/lang/Exception"]).filter goodWord)
def wsX3_endSaving_r1 : List Cond := [Cond.fieldLink RX3 19 "StartSleep" "blocks" "LStartSleep$Blocks;", Cond.fieldLink RX3 40 "StartSleep" "blockInSaving" "I", Cond.fieldLink RX3 10 "StartSleep" "users" "LStartSleep$Users;", Cond.methodLink RX3 170 yX0_save, Cond.instanceMethod yX0_save, Cond.selects RX0 yX0_save yX0_save, Cond.initialized RX0, Cond.code yX0_save cX0_save 4 none, Cond.fieldLink RX0 11 "StartSleep$Blocks" "working" "[B", Cond.fieldLink RX0 17 "StartSleep$Blocks" "copies" "[[B", Cond.methodLink RX0 40 arraycopyName, Cond.native arraycopyName, Cond.static arraycopyName, Cond.initialized "java/lang/System", Cond.fieldLink RX0 22 "StartSleep$Blocks" "versions" "[[I", Cond.fieldLink RX0 25 "StartSleep$Blocks" "changed" "[Z", Cond.methodLink RX0 29 yX0_has, Cond.static yX0_has, Cond.code yX0_has cX0_has 1 (some .boolean), Cond.methodLink RX0 36 yX0_keptCopy, Cond.instanceMethod yX0_keptCopy, Cond.selects RX0 yX0_keptCopy yX0_keptCopy, Cond.code yX0_keptCopy cX0_keptCopy 2 (some .int), Cond.methodLink RX3 43 yX2_howMany]
def wsX3_endSaving_r2 : List Cond := [Cond.instanceMethod yX2_howMany, Cond.selects RX2 yX2_howMany yX2_howMany, Cond.initialized RX2, Cond.code yX2_howMany cX2_howMany 1 (some .int), Cond.fieldLink RX2 13 "StartSleep$Users" "requesting" "I", Cond.methodLink RX3 58 yX3_run, Cond.instanceMethod yX3_run, Cond.selects RX3 yX3_run yX3_run, Cond.initialized RX3, Cond.code yX3_run cX3_run 1 none, Cond.fieldLink RX3 30 "StartSleep" "mode" "I", Cond.methodLink RX3 55 yX3_awaitIdleness, Cond.instanceMethod yX3_awaitIdleness, Cond.selects RX3 yX3_awaitIdleness yX3_awaitIdleness, Cond.code yX3_awaitIdleness cX3_awaitIdleness 1 none, Cond.fieldLink RX3 102 "StartSleep" "now" "J", Cond.constantLong RX3 173 (100), Cond.constantLong RX3 34 (-1), Cond.fieldLink RX3 36 "StartSleep" "due" "J", Cond.methodLink RX3 152 yX3_saveNextOrSleep, Cond.instanceMethod yX3_saveNextOrSleep, Cond.selects RX3 yX3_saveNextOrSleep yX3_saveNextOrSleep, Cond.code yX3_saveNextOrSleep cX3_saveNextOrSleep 1 none, Cond.constantLong RX3 168 (5)]
def wsX3_endSaving_r3 : List Cond := [Cond.methodLink RX3 161 yX0_firstChanged, Cond.instanceMethod yX0_firstChanged, Cond.selects RX0 yX0_firstChanged yX0_firstChanged, Cond.code yX0_firstChanged cX0_firstChanged 2 (some .int), Cond.methodLink RX3 158 yX3_sleep, Cond.instanceMethod yX3_sleep, Cond.selects RX3 yX3_sleep yX3_sleep, Cond.code yX3_sleep cX3_sleep 1 none, Cond.fieldLink RX3 135 "StartSleep" "sleeps" "J", Cond.methodLink RX3 92 yX3_enter, Cond.instanceMethod yX3_enter, Cond.selects RX3 yX3_enter yX3_enter, Cond.code yX3_enter cX3_enter 4 none, Cond.methodLink RX3 164 yX0_tear, Cond.instanceMethod yX0_tear, Cond.selects RX0 yX0_tear yX0_tear, Cond.code yX0_tear cX0_tear 2 none]
def wsX3_endSaving : List Cond := .code yX3_endSaving cX3_endSaving 1 none :: ((wsX3_endSaving_r1 ++ (wsX3_endSaving_r2 ++ wsX3_endSaving_r3)) ++ wsX30 ++ wsX00 ++ wsX20 ++ (vx_atM "java/lang/ArrayIndexOutOfBoundsException" ["java/lang/IndexOutOfBoundsException", "java/lang/RuntimeException", "java/lang/Exception"]).filter goodWord)
def wsX3_happen_r1 : List Cond := [Cond.fieldLink RX3 30 "StartSleep" "mode" "I", Cond.methodLink RX3 152 yX3_saveNextOrSleep, Cond.instanceMethod yX3_saveNextOrSleep, Cond.selects RX3 yX3_saveNextOrSleep yX3_saveNextOrSleep, Cond.initialized RX3, Cond.code yX3_saveNextOrSleep cX3_saveNextOrSleep 1 none, Cond.fieldLink RX3 19 "StartSleep" "blocks" "LStartSleep$Blocks;", Cond.fieldLink RX3 40 "StartSleep" "blockInSaving" "I", Cond.fieldLink RX3 102 "StartSleep" "now" "J", Cond.constantLong RX3 168 (5), Cond.methodLink RX3 161 yX0_firstChanged, Cond.instanceMethod yX0_firstChanged, Cond.selects RX0 yX0_firstChanged yX0_firstChanged, Cond.initialized RX0, Cond.code yX0_firstChanged cX0_firstChanged 2 (some .int), Cond.fieldLink RX0 25 "StartSleep$Blocks" "changed" "[Z", Cond.methodLink RX3 158 yX3_sleep, Cond.instanceMethod yX3_sleep, Cond.selects RX3 yX3_sleep yX3_sleep, Cond.code yX3_sleep cX3_sleep 1 none, Cond.fieldLink RX3 135 "StartSleep" "sleeps" "J", Cond.constantLong RX3 34 (-1), Cond.methodLink RX3 92 yX3_enter, Cond.instanceMethod yX3_enter]
def wsX3_happen_r2 : List Cond := [Cond.selects RX3 yX3_enter yX3_enter, Cond.code yX3_enter cX3_enter 4 none, Cond.fieldLink RX3 36 "StartSleep" "due" "J", Cond.methodLink RX3 164 yX0_tear, Cond.instanceMethod yX0_tear, Cond.selects RX0 yX0_tear yX0_tear, Cond.code yX0_tear cX0_tear 2 none, Cond.fieldLink RX0 22 "StartSleep$Blocks" "versions" "[[I", Cond.methodLink RX0 29 yX0_has, Cond.static yX0_has, Cond.code yX0_has cX0_has 1 (some .boolean), Cond.methodLink RX0 36 yX0_keptCopy, Cond.instanceMethod yX0_keptCopy, Cond.selects RX0 yX0_keptCopy yX0_keptCopy, Cond.code yX0_keptCopy cX0_keptCopy 2 (some .int), Cond.methodLink RX3 155 yX3_endSaving, Cond.instanceMethod yX3_endSaving, Cond.selects RX3 yX3_endSaving yX3_endSaving, Cond.code yX3_endSaving cX3_endSaving 1 none, Cond.fieldLink RX3 10 "StartSleep" "users" "LStartSleep$Users;", Cond.methodLink RX3 170 yX0_save, Cond.instanceMethod yX0_save, Cond.selects RX0 yX0_save yX0_save, Cond.code yX0_save cX0_save 4 none]
def wsX3_happen_r3 : List Cond := [Cond.fieldLink RX0 11 "StartSleep$Blocks" "working" "[B", Cond.fieldLink RX0 17 "StartSleep$Blocks" "copies" "[[B", Cond.methodLink RX0 40 arraycopyName, Cond.native arraycopyName, Cond.static arraycopyName, Cond.initialized "java/lang/System", Cond.methodLink RX3 43 yX2_howMany, Cond.instanceMethod yX2_howMany, Cond.selects RX2 yX2_howMany yX2_howMany, Cond.initialized RX2, Cond.code yX2_howMany cX2_howMany 1 (some .int), Cond.fieldLink RX2 13 "StartSleep$Users" "requesting" "I", Cond.methodLink RX3 58 yX3_run, Cond.instanceMethod yX3_run, Cond.selects RX3 yX3_run yX3_run, Cond.code yX3_run cX3_run 1 none, Cond.methodLink RX3 55 yX3_awaitIdleness, Cond.instanceMethod yX3_awaitIdleness, Cond.selects RX3 yX3_awaitIdleness yX3_awaitIdleness, Cond.code yX3_awaitIdleness cX3_awaitIdleness 1 none, Cond.constantLong RX3 173 (100)]
def wsX3_happen : List Cond := .code yX3_happen cX3_happen 1 none :: ((wsX3_happen_r1 ++ (wsX3_happen_r2 ++ wsX3_happen_r3)) ++ wsX30 ++ wsX00 ++ wsX20 ++ (vx_atM "java/lang/ArrayIndexOutOfBoundsException" ["java/lang/IndexOutOfBoundsException", "java/lang/RuntimeException", "java/lang/Exception"]).filter goodWord)
def wsX3_advance_r1 : List Cond := [Cond.fieldLink RX3 36 "StartSleep" "due" "J", Cond.constantLong RX3 34 (-1), Cond.fieldLink RX3 102 "StartSleep" "now" "J", Cond.methodLink RX3 149 yX3_happen, Cond.instanceMethod yX3_happen, Cond.selects RX3 yX3_happen yX3_happen, Cond.initialized RX3, Cond.code yX3_happen cX3_happen 1 none, Cond.fieldLink RX3 30 "StartSleep" "mode" "I", Cond.methodLink RX3 152 yX3_saveNextOrSleep, Cond.instanceMethod yX3_saveNextOrSleep, Cond.selects RX3 yX3_saveNextOrSleep yX3_saveNextOrSleep, Cond.code yX3_saveNextOrSleep cX3_saveNextOrSleep 1 none, Cond.fieldLink RX3 19 "StartSleep" "blocks" "LStartSleep$Blocks;", Cond.fieldLink RX3 40 "StartSleep" "blockInSaving" "I", Cond.constantLong RX3 168 (5), Cond.methodLink RX3 161 yX0_firstChanged, Cond.instanceMethod yX0_firstChanged, Cond.selects RX0 yX0_firstChanged yX0_firstChanged, Cond.initialized RX0, Cond.code yX0_firstChanged cX0_firstChanged 2 (some .int), Cond.fieldLink RX0 25 "StartSleep$Blocks" "changed" "[Z", Cond.methodLink RX3 158 yX3_sleep, Cond.instanceMethod yX3_sleep]
def wsX3_advance_r2 : List Cond := [Cond.selects RX3 yX3_sleep yX3_sleep, Cond.code yX3_sleep cX3_sleep 1 none, Cond.fieldLink RX3 135 "StartSleep" "sleeps" "J", Cond.methodLink RX3 92 yX3_enter, Cond.instanceMethod yX3_enter, Cond.selects RX3 yX3_enter yX3_enter, Cond.code yX3_enter cX3_enter 4 none, Cond.methodLink RX3 164 yX0_tear, Cond.instanceMethod yX0_tear, Cond.selects RX0 yX0_tear yX0_tear, Cond.code yX0_tear cX0_tear 2 none, Cond.fieldLink RX0 22 "StartSleep$Blocks" "versions" "[[I", Cond.methodLink RX0 29 yX0_has, Cond.static yX0_has, Cond.code yX0_has cX0_has 1 (some .boolean), Cond.methodLink RX0 36 yX0_keptCopy, Cond.instanceMethod yX0_keptCopy, Cond.selects RX0 yX0_keptCopy yX0_keptCopy, Cond.code yX0_keptCopy cX0_keptCopy 2 (some .int), Cond.methodLink RX3 155 yX3_endSaving, Cond.instanceMethod yX3_endSaving, Cond.selects RX3 yX3_endSaving yX3_endSaving, Cond.code yX3_endSaving cX3_endSaving 1 none, Cond.fieldLink RX3 10 "StartSleep" "users" "LStartSleep$Users;"]
def wsX3_advance_r3 : List Cond := [Cond.methodLink RX3 170 yX0_save, Cond.instanceMethod yX0_save, Cond.selects RX0 yX0_save yX0_save, Cond.code yX0_save cX0_save 4 none, Cond.fieldLink RX0 11 "StartSleep$Blocks" "working" "[B", Cond.fieldLink RX0 17 "StartSleep$Blocks" "copies" "[[B", Cond.methodLink RX0 40 arraycopyName, Cond.native arraycopyName, Cond.static arraycopyName, Cond.initialized "java/lang/System", Cond.methodLink RX3 43 yX2_howMany, Cond.instanceMethod yX2_howMany, Cond.selects RX2 yX2_howMany yX2_howMany, Cond.initialized RX2, Cond.code yX2_howMany cX2_howMany 1 (some .int), Cond.fieldLink RX2 13 "StartSleep$Users" "requesting" "I", Cond.methodLink RX3 58 yX3_run, Cond.instanceMethod yX3_run, Cond.selects RX3 yX3_run yX3_run, Cond.code yX3_run cX3_run 1 none, Cond.methodLink RX3 55 yX3_awaitIdleness, Cond.instanceMethod yX3_awaitIdleness, Cond.selects RX3 yX3_awaitIdleness yX3_awaitIdleness, Cond.code yX3_awaitIdleness cX3_awaitIdleness 1 none]
def wsX3_advance_r4 : List Cond := [Cond.constantLong RX3 173 (100)]
def wsX3_advance : List Cond := .code yX3_advance cX3_advance 4 none :: ((wsX3_advance_r1 ++ (wsX3_advance_r2 ++ (wsX3_advance_r3 ++ wsX3_advance_r4))) ++ wsX30 ++ wsX00 ++ wsX20 ++ (vx_atM "java/lang/ArrayIndexOutOfBoundsException" ["java/lang/IndexOutOfBoundsException", "java/lang/RuntimeException", "java/lang/Exception"]).filter goodWord)
def wsX3_step_r1 : List Cond := [Cond.fieldLink RX3 30 "StartSleep" "mode" "I", Cond.methodLink RX3 64 yX3_canAdvance, Cond.instanceMethod yX3_canAdvance, Cond.selects RX3 yX3_canAdvance yX3_canAdvance, Cond.initialized RX3, Cond.code yX3_canAdvance cX3_canAdvance 3 (some .boolean), Cond.fieldLink RX3 102 "StartSleep" "now" "J", Cond.constantLong RX3 147 (100000), Cond.methodLink RX3 68 yX3_advance, Cond.instanceMethod yX3_advance, Cond.selects RX3 yX3_advance yX3_advance, Cond.code yX3_advance cX3_advance 4 none, Cond.fieldLink RX3 36 "StartSleep" "due" "J", Cond.constantLong RX3 34 (-1), Cond.methodLink RX3 149 yX3_happen, Cond.instanceMethod yX3_happen, Cond.selects RX3 yX3_happen yX3_happen, Cond.code yX3_happen cX3_happen 1 none, Cond.methodLink RX3 152 yX3_saveNextOrSleep, Cond.instanceMethod yX3_saveNextOrSleep, Cond.selects RX3 yX3_saveNextOrSleep yX3_saveNextOrSleep, Cond.code yX3_saveNextOrSleep cX3_saveNextOrSleep 1 none, Cond.fieldLink RX3 19 "StartSleep" "blocks" "LStartSleep$Blocks;", Cond.fieldLink RX3 40 "StartSleep" "blockInSaving" "I"]
def wsX3_step_r2 : List Cond := [Cond.constantLong RX3 168 (5), Cond.methodLink RX3 161 yX0_firstChanged, Cond.instanceMethod yX0_firstChanged, Cond.selects RX0 yX0_firstChanged yX0_firstChanged, Cond.initialized RX0, Cond.code yX0_firstChanged cX0_firstChanged 2 (some .int), Cond.fieldLink RX0 25 "StartSleep$Blocks" "changed" "[Z", Cond.methodLink RX3 158 yX3_sleep, Cond.instanceMethod yX3_sleep, Cond.selects RX3 yX3_sleep yX3_sleep, Cond.code yX3_sleep cX3_sleep 1 none, Cond.fieldLink RX3 135 "StartSleep" "sleeps" "J", Cond.methodLink RX3 92 yX3_enter, Cond.instanceMethod yX3_enter, Cond.selects RX3 yX3_enter yX3_enter, Cond.code yX3_enter cX3_enter 4 none, Cond.methodLink RX3 164 yX0_tear, Cond.instanceMethod yX0_tear, Cond.selects RX0 yX0_tear yX0_tear, Cond.code yX0_tear cX0_tear 2 none, Cond.fieldLink RX0 22 "StartSleep$Blocks" "versions" "[[I", Cond.methodLink RX0 29 yX0_has, Cond.static yX0_has, Cond.code yX0_has cX0_has 1 (some .boolean)]
def wsX3_step_r3 : List Cond := [Cond.methodLink RX0 36 yX0_keptCopy, Cond.instanceMethod yX0_keptCopy, Cond.selects RX0 yX0_keptCopy yX0_keptCopy, Cond.code yX0_keptCopy cX0_keptCopy 2 (some .int), Cond.methodLink RX3 155 yX3_endSaving, Cond.instanceMethod yX3_endSaving, Cond.selects RX3 yX3_endSaving yX3_endSaving, Cond.code yX3_endSaving cX3_endSaving 1 none, Cond.fieldLink RX3 10 "StartSleep" "users" "LStartSleep$Users;", Cond.methodLink RX3 170 yX0_save, Cond.instanceMethod yX0_save, Cond.selects RX0 yX0_save yX0_save, Cond.code yX0_save cX0_save 4 none, Cond.fieldLink RX0 11 "StartSleep$Blocks" "working" "[B", Cond.fieldLink RX0 17 "StartSleep$Blocks" "copies" "[[B", Cond.methodLink RX0 40 arraycopyName, Cond.native arraycopyName, Cond.static arraycopyName, Cond.initialized "java/lang/System", Cond.methodLink RX3 43 yX2_howMany, Cond.instanceMethod yX2_howMany, Cond.selects RX2 yX2_howMany yX2_howMany, Cond.initialized RX2, Cond.code yX2_howMany cX2_howMany 1 (some .int)]
def wsX3_step_r4 : List Cond := [Cond.fieldLink RX2 13 "StartSleep$Users" "requesting" "I", Cond.methodLink RX3 58 yX3_run, Cond.instanceMethod yX3_run, Cond.selects RX3 yX3_run yX3_run, Cond.code yX3_run cX3_run 1 none, Cond.methodLink RX3 55 yX3_awaitIdleness, Cond.instanceMethod yX3_awaitIdleness, Cond.selects RX3 yX3_awaitIdleness yX3_awaitIdleness, Cond.code yX3_awaitIdleness cX3_awaitIdleness 1 none, Cond.constantLong RX3 173 (100)]
def wsX3_step : List Cond := .code yX3_step cX3_step 3 (some .int) :: ((wsX3_step_r1 ++ (wsX3_step_r2 ++ (wsX3_step_r3 ++ wsX3_step_r4))) ++ wsX30 ++ wsX00 ++ wsX20 ++ (vx_atM "java/lang/ArrayIndexOutOfBoundsException" ["java/lang/IndexOutOfBoundsException", "java/lang/RuntimeException", "java/lang/Exception"]).filter goodWord)
def wsX3_init_ : List Cond := .code yX3_init_ cX3_init_ 4 (some .int) :: ([.fieldLink RX3 30 "StartSleep" "mode" "I", .fieldLink RX3 26 "StartSleep" "parts" "LStartSleep$Parts;", .methodLink RX3 72 yX1_has, .static yX1_has, .initialized RX1, .code yX1_has cX1_has 1 (some .boolean), .methodLink RX3 73 yX1_tell, .instanceMethod yX1_tell, .selects RX1 yX1_tell yX1_tell, .code yX1_tell cX1_tell 4 none, .fieldLink RX1 9 "StartSleep$Parts" "told" "[Z", .fieldLink RX1 23 "StartSleep$Parts" "count" "I", .fieldLink RX1 13 "StartSleep$Parts" "places" "[I", .fieldLink RX1 17 "StartSleep$Parts" "failing" "[Z", .methodLink RX1 27 yX1_has, .methodLink RX3 77 yX1_howMany, .instanceMethod yX1_howMany, .selects RX1 yX1_howMany yX1_howMany, .code yX1_howMany cX1_howMany 1 (some .int)] ++ wsX30 ++ wsX10 ++ (vx_atM "java/lang/ArrayIndexOutOfBoundsException" ["java/lang/IndexOutOfBoundsException", "java/lang/RuntimeException", "java/lang/Exception"]).filter goodWord)
def wsX3_block : List Cond := .code yX3_block cX3_block 2 (some .int) :: ([.fieldLink RX3 19 "StartSleep" "blocks" "LStartSleep$Blocks;", .methodLink RX3 78 yX0_has, .static yX0_has, .initialized RX0, .code yX0_has cX0_has 1 (some .boolean), .methodLink RX3 79 yX0_isChanged, .instanceMethod yX0_isChanged, .selects RX0 yX0_isChanged yX0_isChanged, .code yX0_isChanged cX0_isChanged 2 (some .boolean), .fieldLink RX0 25 "StartSleep$Blocks" "changed" "[Z", .methodLink RX0 29 yX0_has] ++ wsX30 ++ wsX00 ++ (vx_atM "java/lang/ArrayIndexOutOfBoundsException" ["java/lang/IndexOutOfBoundsException", "java/lang/RuntimeException", "java/lang/Exception"]).filter goodWord)
def wsX3_write : List Cond := .code yX3_write cX3_write 4 (some .int) :: ([.fieldLink RX3 30 "StartSleep" "mode" "I", .fieldLink RX3 19 "StartSleep" "blocks" "LStartSleep$Blocks;", .methodLink RX3 78 yX0_has, .static yX0_has, .initialized RX0, .code yX0_has cX0_has 1 (some .boolean), .methodLink RX3 82 yX0_hasOctet, .static yX0_hasOctet, .code yX0_hasOctet cX0_hasOctet 1 (some .boolean), .methodLink RX3 85 yX0_put, .instanceMethod yX0_put, .selects RX0 yX0_put yX0_put, .code yX0_put cX0_put 4 none, .fieldLink RX0 11 "StartSleep$Blocks" "working" "[B", .fieldLink RX0 25 "StartSleep$Blocks" "changed" "[Z", .methodLink RX0 29 yX0_has, .methodLink RX0 33 yX0_hasOctet] ++ wsX30 ++ wsX00 ++ (vx_atM "java/lang/ArrayIndexOutOfBoundsException" ["java/lang/IndexOutOfBoundsException", "java/lang/RuntimeException", "java/lang/Exception"]).filter goodWord)
def wsX3_cut_r1 : List Cond := [Cond.fieldLink RX3 30 "StartSleep" "mode" "I", Cond.fieldLink RX3 89 "StartSleep" "cuts" "J", Cond.fieldLink RX3 40 "StartSleep" "blockInSaving" "I", Cond.constantLong RX3 34 (-1), Cond.fieldLink RX3 19 "StartSleep" "blocks" "LStartSleep$Blocks;", Cond.methodLink RX3 64 yX3_canAdvance, Cond.instanceMethod yX3_canAdvance, Cond.selects RX3 yX3_canAdvance yX3_canAdvance, Cond.initialized RX3, Cond.code yX3_canAdvance cX3_canAdvance 3 (some .boolean), Cond.fieldLink RX3 102 "StartSleep" "now" "J", Cond.constantLong RX3 147 (100000), Cond.methodLink RX3 68 yX3_advance, Cond.instanceMethod yX3_advance, Cond.selects RX3 yX3_advance yX3_advance, Cond.code yX3_advance cX3_advance 4 none, Cond.fieldLink RX3 36 "StartSleep" "due" "J", Cond.methodLink RX3 149 yX3_happen, Cond.instanceMethod yX3_happen, Cond.selects RX3 yX3_happen yX3_happen, Cond.code yX3_happen cX3_happen 1 none, Cond.methodLink RX3 152 yX3_saveNextOrSleep, Cond.instanceMethod yX3_saveNextOrSleep, Cond.selects RX3 yX3_saveNextOrSleep yX3_saveNextOrSleep]
def wsX3_cut_r2 : List Cond := [Cond.code yX3_saveNextOrSleep cX3_saveNextOrSleep 1 none, Cond.constantLong RX3 168 (5), Cond.methodLink RX3 161 yX0_firstChanged, Cond.instanceMethod yX0_firstChanged, Cond.selects RX0 yX0_firstChanged yX0_firstChanged, Cond.initialized RX0, Cond.code yX0_firstChanged cX0_firstChanged 2 (some .int), Cond.fieldLink RX0 25 "StartSleep$Blocks" "changed" "[Z", Cond.methodLink RX3 158 yX3_sleep, Cond.instanceMethod yX3_sleep, Cond.selects RX3 yX3_sleep yX3_sleep, Cond.code yX3_sleep cX3_sleep 1 none, Cond.fieldLink RX3 135 "StartSleep" "sleeps" "J", Cond.methodLink RX3 92 yX3_enter, Cond.instanceMethod yX3_enter, Cond.selects RX3 yX3_enter yX3_enter, Cond.code yX3_enter cX3_enter 4 none, Cond.methodLink RX3 164 yX0_tear, Cond.instanceMethod yX0_tear, Cond.selects RX0 yX0_tear yX0_tear, Cond.code yX0_tear cX0_tear 2 none, Cond.fieldLink RX0 22 "StartSleep$Blocks" "versions" "[[I", Cond.methodLink RX0 29 yX0_has, Cond.static yX0_has]
def wsX3_cut_r3 : List Cond := [Cond.code yX0_has cX0_has 1 (some .boolean), Cond.methodLink RX0 36 yX0_keptCopy, Cond.instanceMethod yX0_keptCopy, Cond.selects RX0 yX0_keptCopy yX0_keptCopy, Cond.code yX0_keptCopy cX0_keptCopy 2 (some .int), Cond.methodLink RX3 155 yX3_endSaving, Cond.instanceMethod yX3_endSaving, Cond.selects RX3 yX3_endSaving yX3_endSaving, Cond.code yX3_endSaving cX3_endSaving 1 none, Cond.fieldLink RX3 10 "StartSleep" "users" "LStartSleep$Users;", Cond.methodLink RX3 170 yX0_save, Cond.instanceMethod yX0_save, Cond.selects RX0 yX0_save yX0_save, Cond.code yX0_save cX0_save 4 none, Cond.fieldLink RX0 11 "StartSleep$Blocks" "working" "[B", Cond.fieldLink RX0 17 "StartSleep$Blocks" "copies" "[[B", Cond.methodLink RX0 40 arraycopyName, Cond.native arraycopyName, Cond.static arraycopyName, Cond.initialized "java/lang/System", Cond.methodLink RX3 43 yX2_howMany, Cond.instanceMethod yX2_howMany, Cond.selects RX2 yX2_howMany yX2_howMany, Cond.initialized RX2]
def wsX3_cut_r4 : List Cond := [Cond.code yX2_howMany cX2_howMany 1 (some .int), Cond.fieldLink RX2 13 "StartSleep$Users" "requesting" "I", Cond.methodLink RX3 58 yX3_run, Cond.instanceMethod yX3_run, Cond.selects RX3 yX3_run yX3_run, Cond.code yX3_run cX3_run 1 none, Cond.methodLink RX3 55 yX3_awaitIdleness, Cond.instanceMethod yX3_awaitIdleness, Cond.selects RX3 yX3_awaitIdleness yX3_awaitIdleness, Cond.code yX3_awaitIdleness cX3_awaitIdleness 1 none, Cond.constantLong RX3 173 (100), Cond.methodLink RX3 96 yX0_howManyChanged, Cond.instanceMethod yX0_howManyChanged, Cond.selects RX0 yX0_howManyChanged yX0_howManyChanged, Cond.code yX0_howManyChanged cX0_howManyChanged 3 (some .int)]
def wsX3_cut : List Cond := .code yX3_cut cX3_cut 3 (some .int) :: ((wsX3_cut_r1 ++ (wsX3_cut_r2 ++ (wsX3_cut_r3 ++ wsX3_cut_r4))) ++ wsX30 ++ wsX00 ++ wsX20 ++ (vx_atM "java/lang/ArrayIndexOutOfBoundsException" ["java/lang/IndexOutOfBoundsException", "java/lang/RuntimeException", "java/lang/Exception"]).filter goodWord)
def wsX3_start_r1 : List Cond := [Cond.fieldLink RX3 30 "StartSleep" "mode" "I", Cond.fieldLink RX3 99 "StartSleep" "startings" "J", Cond.fieldLink RX3 102 "StartSleep" "now" "J", Cond.fieldLink RX3 105 "StartSleep" "lastStarting" "J", Cond.fieldLink RX3 108 "StartSleep" "bankToRun" "I", Cond.fieldLink RX3 111 "StartSleep" "bankThatRuns" "I", Cond.fieldLink RX3 19 "StartSleep" "blocks" "LStartSleep$Blocks;", Cond.fieldLink RX3 10 "StartSleep" "users" "LStartSleep$Users;", Cond.fieldLink RX3 26 "StartSleep" "parts" "LStartSleep$Parts;", Cond.constantLong RX3 34 (-1), Cond.methodLink RX3 114 yX0_load, Cond.instanceMethod yX0_load, Cond.selects RX0 yX0_load yX0_load, Cond.initialized RX0, Cond.code yX0_load cX0_load 2 none, Cond.fieldLink RX0 17 "StartSleep$Blocks" "copies" "[[B", Cond.fieldLink RX0 11 "StartSleep$Blocks" "working" "[B", Cond.methodLink RX0 40 arraycopyName, Cond.native arraycopyName, Cond.static arraycopyName, Cond.initialized "java/lang/System", Cond.fieldLink RX0 25 "StartSleep$Blocks" "changed" "[Z", Cond.methodLink RX0 36 yX0_keptCopy, Cond.instanceMethod yX0_keptCopy]
def wsX3_start_r2 : List Cond := [Cond.selects RX0 yX0_keptCopy yX0_keptCopy, Cond.code yX0_keptCopy cX0_keptCopy 2 (some .int), Cond.fieldLink RX0 22 "StartSleep$Blocks" "versions" "[[I", Cond.methodLink RX3 117 yX2_clear, Cond.instanceMethod yX2_clear, Cond.selects RX2 yX2_clear yX2_clear, Cond.initialized RX2, Cond.code yX2_clear cX2_clear 2 none, Cond.fieldLink RX2 9 "StartSleep$Users" "requests" "[Z", Cond.fieldLink RX2 13 "StartSleep$Users" "requesting" "I", Cond.methodLink RX3 120 yX1_beginAll, Cond.instanceMethod yX1_beginAll, Cond.selects RX1 yX1_beginAll yX1_beginAll, Cond.initialized RX1, Cond.code yX1_beginAll cX1_beginAll 4 (some .boolean), Cond.fieldLink RX1 31 "StartSleep$Parts" "thingCount" "I", Cond.fieldLink RX1 17 "StartSleep$Parts" "failing" "[Z", Cond.methodLink RX1 34 yX1_placeBehind, Cond.instanceMethod yX1_placeBehind, Cond.selects RX1 yX1_placeBehind yX1_placeBehind, Cond.code yX1_placeBehind cX1_placeBehind 4 (some .int), Cond.fieldLink RX1 9 "StartSleep$Parts" "told" "[Z", Cond.fieldLink RX1 13 "StartSleep$Parts" "places" "[I", Cond.methodLink RX1 38 yX1_note]
def wsX3_start_r3 : List Cond := [Cond.instanceMethod yX1_note, Cond.selects RX1 yX1_note yX1_note, Cond.code yX1_note cX1_note 2 none, Cond.fieldLink RX1 20 "StartSleep$Parts" "things" "[I", Cond.methodLink RX1 27 yX1_has, Cond.static yX1_has, Cond.code yX1_has cX1_has 1 (some .boolean), Cond.methodLink RX1 42 yX1_endThoseBeforeTheLast, Cond.instanceMethod yX1_endThoseBeforeTheLast, Cond.selects RX1 yX1_endThoseBeforeTheLast yX1_endThoseBeforeTheLast, Cond.code yX1_endThoseBeforeTheLast cX1_endThoseBeforeTheLast 2 none, Cond.methodLink RX1 45 yX1_thing, Cond.instanceMethod yX1_thing, Cond.selects RX1 yX1_thing yX1_thing, Cond.code yX1_thing cX1_thing 2 (some .int), Cond.methodLink RX3 58 yX3_run, Cond.instanceMethod yX3_run, Cond.selects RX3 yX3_run yX3_run, Cond.initialized RX3, Cond.code yX3_run cX3_run 1 none, Cond.methodLink RX3 55 yX3_awaitIdleness, Cond.instanceMethod yX3_awaitIdleness, Cond.selects RX3 yX3_awaitIdleness yX3_awaitIdleness, Cond.code yX3_awaitIdleness cX3_awaitIdleness 1 none]
def wsX3_start_r4 : List Cond := [Cond.constantLong RX3 173 (100), Cond.fieldLink RX3 36 "StartSleep" "due" "J", Cond.methodLink RX3 43 yX2_howMany, Cond.instanceMethod yX2_howMany, Cond.selects RX2 yX2_howMany yX2_howMany, Cond.code yX2_howMany cX2_howMany 1 (some .int), Cond.methodLink RX3 92 yX3_enter, Cond.instanceMethod yX3_enter, Cond.selects RX3 yX3_enter yX3_enter, Cond.code yX3_enter cX3_enter 4 none]
def wsX3_start : List Cond := .code yX3_start cX3_start 1 (some .int) :: ((wsX3_start_r1 ++ (wsX3_start_r2 ++ (wsX3_start_r3 ++ wsX3_start_r4))) ++ wsX30 ++ wsX00 ++ wsX20 ++ wsX10 ++ (vx_atM "java/lang/ArrayIndexOutOfBoundsException" ["java/lang/IndexOutOfBoundsException", "java/lang/RuntimeException", "java/lang/Exception"]).filter goodWord)
def wsX3_kept : List Cond := .code yX3_kept cX3_kept 3 (some .byte) :: ([.classLink RX3 124 RJx00060, .instantiable RJx00060 6, .initialized RJx00060, .fieldLink RX3 19 "StartSleep" "blocks" "LStartSleep$Blocks;", .methodLink RX3 78 yX0_has, .static yX0_has, .initialized RX0, .code yX0_has cX0_has 1 (some .boolean), .methodLink RX3 82 yX0_hasOctet, .static yX0_hasOctet, .code yX0_hasOctet cX0_hasOctet 1 (some .boolean), .methodLink RX3 131 yX0_keptOctet, .instanceMethod yX0_keptOctet, .selects RX0 yX0_keptOctet yX0_keptOctet, .code yX0_keptOctet cX0_keptOctet 3 (some .byte), .fieldLink RX0 17 "StartSleep$Blocks" "copies" "[[B", .methodLink RX0 29 yX0_has, .methodLink RX0 33 yX0_hasOctet, .methodLink RX0 36 yX0_keptCopy, .instanceMethod yX0_keptCopy, .selects RX0 yX0_keptCopy yX0_keptCopy, .code yX0_keptCopy cX0_keptCopy 2 (some .int), .fieldLink RX0 22 "StartSleep$Blocks" "versions" "[[I"] ++ wsJx000600 ++ wsX30 ++ wsX00 ++ (vx_atM "java/lang/ArrayIndexOutOfBoundsException" ["java/lang/IndexOutOfBoundsException", "java/lang/RuntimeException", "java/lang/Exception"]).filter goodWord)
def wsX3_bank : List Cond := .code yX3_bank cX3_bank 2 (some .int) :: ([.fieldLink RX3 108 "StartSleep" "bankToRun" "I"] ++ wsX30)
def wsX3_time : List Cond := .code yX3_time cX3_time 2 (some .long) :: ([.fieldLink RX3 102 "StartSleep" "now" "J", .fieldLink RX3 99 "StartSleep" "startings" "J", .fieldLink RX3 135 "StartSleep" "sleeps" "J", .fieldLink RX3 138 "StartSleep" "checks" "J", .fieldLink RX3 89 "StartSleep" "cuts" "J", .fieldLink RX3 105 "StartSleep" "lastStarting" "J", .fieldLink RX3 111 "StartSleep" "bankThatRuns" "I", .constantLong RX3 141 (-2)] ++ wsX30)
def wsX3_order : List Cond := .code yX3_order cX3_order 2 (some .int) :: ([.fieldLink RX3 26 "StartSleep" "parts" "LStartSleep$Parts;", .methodLink RX3 143 yX1_thing, .instanceMethod yX1_thing, .selects RX1 yX1_thing yX1_thing, .initialized RX1, .code yX1_thing cX1_thing 2 (some .int), .fieldLink RX1 31 "StartSleep$Parts" "thingCount" "I", .fieldLink RX1 20 "StartSleep$Parts" "things" "[I"] ++ wsX30 ++ wsX10 ++ (vx_atM "java/lang/ArrayIndexOutOfBoundsException" ["java/lang/IndexOutOfBoundsException", "java/lang/RuntimeException", "java/lang/Exception"]).filter goodWord)
def wsX4_init : List Cond := .code yX4_init cX4_init 1 none :: ([.methodLink RX4 1 objectInit, .instanceMethod objectInit, .code objectInit ⟨#[0xb1]⟩ 1 none, .arrayClass .byte, .fieldLink RX4 7 "StartSleepModel" "working" "[B", .fieldLink RX4 13 "StartSleepModel" "copies" "[B", .arrayClass .int, .fieldLink RX4 16 "StartSleepModel" "versions" "[I", .arrayClass .boolean, .fieldLink RX4 20 "StartSleepModel" "changed" "[Z", .fieldLink RX4 24 "StartSleepModel" "requests" "[Z", .fieldLink RX4 27 "StartSleepModel" "told" "[Z", .fieldLink RX4 30 "StartSleepModel" "orders" "[I", .fieldLink RX4 33 "StartSleepModel" "fails" "[Z", .fieldLink RX4 36 "StartSleepModel" "things" "[I"] ++ wsX40)
def wsX4_thrown : List Cond := .code yX4_thrown cX4_thrown 1 (some .int) :: ([.fieldLink RX4 39 "StartSleepModel" "thrown" "I"] ++ wsX40)
def wsX4_user : List Cond := .code yX4_user cX4_user 3 (some .int) :: ([.fieldLink RX4 39 "StartSleepModel" "thrown" "I", .fieldLink RX4 24 "StartSleepModel" "requests" "[Z"] ++ wsX40 ++ (vx_atM "java/lang/ArrayIndexOutOfBoundsException" ["java/lang/IndexOutOfBoundsException", "java/lang/RuntimeException", "java/lang/Exception"]).filter goodWord)
def wsX4_request : List Cond := .code yX4_request cX4_request 5 (some .int) :: ([.fieldLink RX4 39 "StartSleepModel" "thrown" "I", .fieldLink RX4 43 "StartSleepModel" "mode" "I", .fieldLink RX4 24 "StartSleepModel" "requests" "[Z", .fieldLink RX4 50 "StartSleepModel" "time" "J", .fieldLink RX4 54 "StartSleepModel" "quiet" "J", .methodLink RX4 46 yX4_user, .instanceMethod yX4_user, .selects RX4 yX4_user yX4_user, .initialized RX4, .code yX4_user cX4_user 3 (some .int)] ++ wsX40 ++ (vx_atM "java/lang/ArrayIndexOutOfBoundsException" ["java/lang/IndexOutOfBoundsException", "java/lang/RuntimeException", "java/lang/Exception"]).filter goodWord)
def wsX4_run : List Cond := .code yX4_run cX4_run 1 none :: ([.fieldLink RX4 43 "StartSleepModel" "mode" "I", .fieldLink RX4 50 "StartSleepModel" "time" "J", .fieldLink RX4 54 "StartSleepModel" "quiet" "J"] ++ wsX40)
def wsX4_sleep : List Cond := .code yX4_sleep cX4_sleep 1 none :: ([.fieldLink RX4 43 "StartSleepModel" "mode" "I", .fieldLink RX4 57 "StartSleepModel" "sleeps" "J"] ++ wsX40)
def wsX4_wake : List Cond := .code yX4_wake cX4_wake 3 (some .int) :: ([.fieldLink RX4 39 "StartSleepModel" "thrown" "I", .fieldLink RX4 43 "StartSleepModel" "mode" "I", .fieldLink RX4 50 "StartSleepModel" "time" "J", .fieldLink RX4 63 "StartSleepModel" "began" "J", .fieldLink RX4 66 "StartSleepModel" "checks" "J", .methodLink RX4 60 yX4_run, .instanceMethod yX4_run, .selects RX4 yX4_run yX4_run, .initialized RX4, .code yX4_run cX4_run 1 none, .fieldLink RX4 54 "StartSleepModel" "quiet" "J"] ++ wsX40)
def wsX4_keptCopy : List Cond := .code yX4_keptCopy cX4_keptCopy 2 (some .int) :: ([.fieldLink RX4 16 "StartSleepModel" "versions" "[I"] ++ wsX40 ++ (vx_atM "java/lang/ArrayIndexOutOfBoundsException" ["java/lang/IndexOutOfBoundsException", "java/lang/RuntimeException", "java/lang/Exception"]).filter goodWord)
def wsX4_firstChanged : List Cond := .code yX4_firstChanged cX4_firstChanged 2 (some .int) :: ([.fieldLink RX4 20 "StartSleepModel" "changed" "[Z"] ++ wsX40 ++ (vx_atM "java/lang/ArrayIndexOutOfBoundsException" ["java/lang/IndexOutOfBoundsException", "java/lang/RuntimeException", "java/lang/Exception"]).filter goodWord)
def wsX4_save : List Cond := .code yX4_save cX4_save 1 none :: ([.fieldLink RX4 43 "StartSleepModel" "mode" "I", .fieldLink RX4 50 "StartSleepModel" "time" "J", .fieldLink RX4 63 "StartSleepModel" "began" "J", .fieldLink RX4 72 "StartSleepModel" "saved" "I", .fieldLink RX4 16 "StartSleepModel" "versions" "[I", .methodLink RX4 69 yX4_firstChanged, .instanceMethod yX4_firstChanged, .selects RX4 yX4_firstChanged yX4_firstChanged, .initialized RX4, .code yX4_firstChanged cX4_firstChanged 2 (some .int), .fieldLink RX4 20 "StartSleepModel" "changed" "[Z", .methodLink RX4 75 yX4_keptCopy, .instanceMethod yX4_keptCopy, .selects RX4 yX4_keptCopy yX4_keptCopy, .code yX4_keptCopy cX4_keptCopy 2 (some .int)] ++ wsX40 ++ (vx_atM "java/lang/ArrayIndexOutOfBoundsException" ["java/lang/IndexOutOfBoundsException", "java/lang/RuntimeException", "java/lang/Exception"]).filter goodWord)
def wsX4_isSaved_r1 : List Cond := [Cond.fieldLink RX4 72 "StartSleepModel" "saved" "I", Cond.fieldLink RX4 13 "StartSleepModel" "copies" "[B", Cond.fieldLink RX4 7 "StartSleepModel" "working" "[B", Cond.fieldLink RX4 16 "StartSleepModel" "versions" "[I", Cond.fieldLink RX4 20 "StartSleepModel" "changed" "[Z", Cond.methodLink RX4 75 yX4_keptCopy, Cond.instanceMethod yX4_keptCopy, Cond.selects RX4 yX4_keptCopy yX4_keptCopy, Cond.initialized RX4, Cond.code yX4_keptCopy cX4_keptCopy 2 (some .int), Cond.methodLink RX4 46 yX4_user, Cond.instanceMethod yX4_user, Cond.selects RX4 yX4_user yX4_user, Cond.code yX4_user cX4_user 3 (some .int), Cond.fieldLink RX4 39 "StartSleepModel" "thrown" "I", Cond.fieldLink RX4 24 "StartSleepModel" "requests" "[Z", Cond.methodLink RX4 60 yX4_run, Cond.instanceMethod yX4_run, Cond.selects RX4 yX4_run yX4_run, Cond.code yX4_run cX4_run 1 none, Cond.fieldLink RX4 43 "StartSleepModel" "mode" "I", Cond.fieldLink RX4 50 "StartSleepModel" "time" "J", Cond.fieldLink RX4 54 "StartSleepModel" "quiet" "J", Cond.methodLink RX4 69 yX4_firstChanged]
def wsX4_isSaved_r2 : List Cond := [Cond.instanceMethod yX4_firstChanged, Cond.selects RX4 yX4_firstChanged yX4_firstChanged, Cond.code yX4_firstChanged cX4_firstChanged 2 (some .int), Cond.methodLink RX4 79 yX4_sleep, Cond.instanceMethod yX4_sleep, Cond.selects RX4 yX4_sleep yX4_sleep, Cond.code yX4_sleep cX4_sleep 1 none, Cond.fieldLink RX4 57 "StartSleepModel" "sleeps" "J", Cond.methodLink RX4 82 yX4_save, Cond.instanceMethod yX4_save, Cond.selects RX4 yX4_save yX4_save, Cond.code yX4_save cX4_save 1 none, Cond.fieldLink RX4 63 "StartSleepModel" "began" "J"]
def wsX4_isSaved : List Cond := .code yX4_isSaved cX4_isSaved 4 none :: ((wsX4_isSaved_r1 ++ wsX4_isSaved_r2) ++ wsX40 ++ (vx_atM "java/lang/ArrayIndexOutOfBoundsException" ["java/lang/IndexOutOfBoundsException", "java/lang/RuntimeException", "java/lang/Exception"]).filter goodWord)
def wsX4_due : List Cond := .code yX4_due cX4_due 1 (some .long) :: ([.fieldLink RX4 43 "StartSleepModel" "mode" "I", .fieldLink RX4 54 "StartSleepModel" "quiet" "J", .constantLong RX4 85 (100), .constantLong RX4 87 (-1), .fieldLink RX4 63 "StartSleepModel" "began" "J", .constantLong RX4 89 (5), .constantLong RX4 91 (20), .methodLink RX4 46 yX4_user, .instanceMethod yX4_user, .selects RX4 yX4_user yX4_user, .initialized RX4, .code yX4_user cX4_user 3 (some .int), .fieldLink RX4 39 "StartSleepModel" "thrown" "I", .fieldLink RX4 24 "StartSleepModel" "requests" "[Z"] ++ wsX40 ++ (vx_atM "java/lang/ArrayIndexOutOfBoundsException" ["java/lang/IndexOutOfBoundsException", "java/lang/RuntimeException", "java/lang/Exception"]).filter goodWord)
def wsX4_goOn_r1 : List Cond := [Cond.fieldLink RX4 50 "StartSleepModel" "time" "J", Cond.fieldLink RX4 43 "StartSleepModel" "mode" "I", Cond.methodLink RX4 93 yX4_due, Cond.instanceMethod yX4_due, Cond.selects RX4 yX4_due yX4_due, Cond.initialized RX4, Cond.code yX4_due cX4_due 1 (some .long), Cond.fieldLink RX4 54 "StartSleepModel" "quiet" "J", Cond.constantLong RX4 85 (100), Cond.constantLong RX4 87 (-1), Cond.fieldLink RX4 63 "StartSleepModel" "began" "J", Cond.constantLong RX4 89 (5), Cond.constantLong RX4 91 (20), Cond.methodLink RX4 46 yX4_user, Cond.instanceMethod yX4_user, Cond.selects RX4 yX4_user yX4_user, Cond.code yX4_user cX4_user 3 (some .int), Cond.fieldLink RX4 39 "StartSleepModel" "thrown" "I", Cond.fieldLink RX4 24 "StartSleepModel" "requests" "[Z", Cond.methodLink RX4 69 yX4_firstChanged, Cond.instanceMethod yX4_firstChanged, Cond.selects RX4 yX4_firstChanged yX4_firstChanged, Cond.code yX4_firstChanged cX4_firstChanged 2 (some .int), Cond.fieldLink RX4 20 "StartSleepModel" "changed" "[Z"]
def wsX4_goOn_r2 : List Cond := [Cond.methodLink RX4 82 yX4_save, Cond.instanceMethod yX4_save, Cond.selects RX4 yX4_save yX4_save, Cond.code yX4_save cX4_save 1 none, Cond.fieldLink RX4 72 "StartSleepModel" "saved" "I", Cond.fieldLink RX4 16 "StartSleepModel" "versions" "[I", Cond.methodLink RX4 75 yX4_keptCopy, Cond.instanceMethod yX4_keptCopy, Cond.selects RX4 yX4_keptCopy yX4_keptCopy, Cond.code yX4_keptCopy cX4_keptCopy 2 (some .int), Cond.methodLink RX4 97 yX4_isSaved, Cond.instanceMethod yX4_isSaved, Cond.selects RX4 yX4_isSaved yX4_isSaved, Cond.code yX4_isSaved cX4_isSaved 4 none, Cond.fieldLink RX4 13 "StartSleepModel" "copies" "[B", Cond.fieldLink RX4 7 "StartSleepModel" "working" "[B", Cond.methodLink RX4 60 yX4_run, Cond.instanceMethod yX4_run, Cond.selects RX4 yX4_run yX4_run, Cond.code yX4_run cX4_run 1 none, Cond.methodLink RX4 79 yX4_sleep, Cond.instanceMethod yX4_sleep, Cond.selects RX4 yX4_sleep yX4_sleep, Cond.code yX4_sleep cX4_sleep 1 none]
def wsX4_goOn_r3 : List Cond := [Cond.fieldLink RX4 57 "StartSleepModel" "sleeps" "J"]
def wsX4_goOn : List Cond := .code yX4_goOn cX4_goOn 5 none :: ((wsX4_goOn_r1 ++ (wsX4_goOn_r2 ++ wsX4_goOn_r3)) ++ wsX40 ++ (vx_atM "java/lang/ArrayIndexOutOfBoundsException" ["java/lang/IndexOutOfBoundsException", "java/lang/RuntimeException", "java/lang/Exception"]).filter goodWord)
def wsX4_step_r1 : List Cond := [Cond.fieldLink RX4 39 "StartSleepModel" "thrown" "I", Cond.fieldLink RX4 50 "StartSleepModel" "time" "J", Cond.constantLong RX4 100 (100000), Cond.fieldLink RX4 43 "StartSleepModel" "mode" "I", Cond.methodLink RX4 102 yX4_goOn, Cond.instanceMethod yX4_goOn, Cond.selects RX4 yX4_goOn yX4_goOn, Cond.initialized RX4, Cond.code yX4_goOn cX4_goOn 5 none, Cond.methodLink RX4 93 yX4_due, Cond.instanceMethod yX4_due, Cond.selects RX4 yX4_due yX4_due, Cond.code yX4_due cX4_due 1 (some .long), Cond.fieldLink RX4 54 "StartSleepModel" "quiet" "J", Cond.constantLong RX4 85 (100), Cond.constantLong RX4 87 (-1), Cond.fieldLink RX4 63 "StartSleepModel" "began" "J", Cond.constantLong RX4 89 (5), Cond.constantLong RX4 91 (20), Cond.methodLink RX4 46 yX4_user, Cond.instanceMethod yX4_user, Cond.selects RX4 yX4_user yX4_user, Cond.code yX4_user cX4_user 3 (some .int), Cond.fieldLink RX4 24 "StartSleepModel" "requests" "[Z"]
def wsX4_step_r2 : List Cond := [Cond.methodLink RX4 69 yX4_firstChanged, Cond.instanceMethod yX4_firstChanged, Cond.selects RX4 yX4_firstChanged yX4_firstChanged, Cond.code yX4_firstChanged cX4_firstChanged 2 (some .int), Cond.fieldLink RX4 20 "StartSleepModel" "changed" "[Z", Cond.methodLink RX4 82 yX4_save, Cond.instanceMethod yX4_save, Cond.selects RX4 yX4_save yX4_save, Cond.code yX4_save cX4_save 1 none, Cond.fieldLink RX4 72 "StartSleepModel" "saved" "I", Cond.fieldLink RX4 16 "StartSleepModel" "versions" "[I", Cond.methodLink RX4 75 yX4_keptCopy, Cond.instanceMethod yX4_keptCopy, Cond.selects RX4 yX4_keptCopy yX4_keptCopy, Cond.code yX4_keptCopy cX4_keptCopy 2 (some .int), Cond.methodLink RX4 97 yX4_isSaved, Cond.instanceMethod yX4_isSaved, Cond.selects RX4 yX4_isSaved yX4_isSaved, Cond.code yX4_isSaved cX4_isSaved 4 none, Cond.fieldLink RX4 13 "StartSleepModel" "copies" "[B", Cond.fieldLink RX4 7 "StartSleepModel" "working" "[B", Cond.methodLink RX4 60 yX4_run, Cond.instanceMethod yX4_run, Cond.selects RX4 yX4_run yX4_run]
def wsX4_step_r3 : List Cond := [Cond.code yX4_run cX4_run 1 none, Cond.methodLink RX4 79 yX4_sleep, Cond.instanceMethod yX4_sleep, Cond.selects RX4 yX4_sleep yX4_sleep, Cond.code yX4_sleep cX4_sleep 1 none, Cond.fieldLink RX4 57 "StartSleepModel" "sleeps" "J"]
def wsX4_step : List Cond := .code yX4_step cX4_step 3 (some .int) :: ((wsX4_step_r1 ++ (wsX4_step_r2 ++ wsX4_step_r3)) ++ wsX40 ++ (vx_atM "java/lang/ArrayIndexOutOfBoundsException" ["java/lang/IndexOutOfBoundsException", "java/lang/RuntimeException", "java/lang/Exception"]).filter goodWord)
def wsX4_init_ : List Cond := .code yX4_init_ cX4_init_ 6 (some .int) :: ([.fieldLink RX4 39 "StartSleepModel" "thrown" "I", .fieldLink RX4 43 "StartSleepModel" "mode" "I", .fieldLink RX4 27 "StartSleepModel" "told" "[Z", .fieldLink RX4 30 "StartSleepModel" "orders" "[I", .fieldLink RX4 33 "StartSleepModel" "fails" "[Z"] ++ wsX40 ++ (vx_atM "java/lang/ArrayIndexOutOfBoundsException" ["java/lang/IndexOutOfBoundsException", "java/lang/RuntimeException", "java/lang/Exception"]).filter goodWord)
def wsX4_block : List Cond := .code yX4_block cX4_block 2 (some .int) :: ([.fieldLink RX4 39 "StartSleepModel" "thrown" "I", .fieldLink RX4 20 "StartSleepModel" "changed" "[Z"] ++ wsX40 ++ (vx_atM "java/lang/ArrayIndexOutOfBoundsException" ["java/lang/IndexOutOfBoundsException", "java/lang/RuntimeException", "java/lang/Exception"]).filter goodWord)
def wsX4_write : List Cond := .code yX4_write cX4_write 4 (some .int) :: ([.fieldLink RX4 39 "StartSleepModel" "thrown" "I", .fieldLink RX4 43 "StartSleepModel" "mode" "I", .fieldLink RX4 7 "StartSleepModel" "working" "[B", .fieldLink RX4 20 "StartSleepModel" "changed" "[Z"] ++ wsX40 ++ (vx_atM "java/lang/ArrayIndexOutOfBoundsException" ["java/lang/IndexOutOfBoundsException", "java/lang/RuntimeException", "java/lang/Exception"]).filter goodWord)
def wsX4_cut_r1 : List Cond := [Cond.fieldLink RX4 39 "StartSleepModel" "thrown" "I", Cond.fieldLink RX4 50 "StartSleepModel" "time" "J", Cond.constantLong RX4 100 (100000), Cond.fieldLink RX4 43 "StartSleepModel" "mode" "I", Cond.fieldLink RX4 106 "StartSleepModel" "cuts" "J", Cond.fieldLink RX4 20 "StartSleepModel" "changed" "[Z", Cond.methodLink RX4 102 yX4_goOn, Cond.instanceMethod yX4_goOn, Cond.selects RX4 yX4_goOn yX4_goOn, Cond.initialized RX4, Cond.code yX4_goOn cX4_goOn 5 none, Cond.methodLink RX4 93 yX4_due, Cond.instanceMethod yX4_due, Cond.selects RX4 yX4_due yX4_due, Cond.code yX4_due cX4_due 1 (some .long), Cond.fieldLink RX4 54 "StartSleepModel" "quiet" "J", Cond.constantLong RX4 85 (100), Cond.constantLong RX4 87 (-1), Cond.fieldLink RX4 63 "StartSleepModel" "began" "J", Cond.constantLong RX4 89 (5), Cond.constantLong RX4 91 (20), Cond.methodLink RX4 46 yX4_user, Cond.instanceMethod yX4_user, Cond.selects RX4 yX4_user yX4_user]
def wsX4_cut_r2 : List Cond := [Cond.code yX4_user cX4_user 3 (some .int), Cond.fieldLink RX4 24 "StartSleepModel" "requests" "[Z", Cond.methodLink RX4 69 yX4_firstChanged, Cond.instanceMethod yX4_firstChanged, Cond.selects RX4 yX4_firstChanged yX4_firstChanged, Cond.code yX4_firstChanged cX4_firstChanged 2 (some .int), Cond.methodLink RX4 82 yX4_save, Cond.instanceMethod yX4_save, Cond.selects RX4 yX4_save yX4_save, Cond.code yX4_save cX4_save 1 none, Cond.fieldLink RX4 72 "StartSleepModel" "saved" "I", Cond.fieldLink RX4 16 "StartSleepModel" "versions" "[I", Cond.methodLink RX4 75 yX4_keptCopy, Cond.instanceMethod yX4_keptCopy, Cond.selects RX4 yX4_keptCopy yX4_keptCopy, Cond.code yX4_keptCopy cX4_keptCopy 2 (some .int), Cond.methodLink RX4 97 yX4_isSaved, Cond.instanceMethod yX4_isSaved, Cond.selects RX4 yX4_isSaved yX4_isSaved, Cond.code yX4_isSaved cX4_isSaved 4 none, Cond.fieldLink RX4 13 "StartSleepModel" "copies" "[B", Cond.fieldLink RX4 7 "StartSleepModel" "working" "[B", Cond.methodLink RX4 60 yX4_run, Cond.instanceMethod yX4_run]
def wsX4_cut_r3 : List Cond := [Cond.selects RX4 yX4_run yX4_run, Cond.code yX4_run cX4_run 1 none, Cond.methodLink RX4 79 yX4_sleep, Cond.instanceMethod yX4_sleep, Cond.selects RX4 yX4_sleep yX4_sleep, Cond.code yX4_sleep cX4_sleep 1 none, Cond.fieldLink RX4 57 "StartSleepModel" "sleeps" "J"]
def wsX4_cut : List Cond := .code yX4_cut cX4_cut 5 (some .int) :: ((wsX4_cut_r1 ++ (wsX4_cut_r2 ++ wsX4_cut_r3)) ++ wsX40 ++ (vx_atM "java/lang/ArrayIndexOutOfBoundsException" ["java/lang/IndexOutOfBoundsException", "java/lang/RuntimeException", "java/lang/Exception"]).filter goodWord)
def wsX4_nextPart : List Cond := .code yX4_nextPart cX4_nextPart 6 (some .int) :: ([.fieldLink RX4 27 "StartSleepModel" "told" "[Z", .fieldLink RX4 30 "StartSleepModel" "orders" "[I"] ++ wsX40 ++ (vx_atM "java/lang/ArrayIndexOutOfBoundsException" ["java/lang/IndexOutOfBoundsException", "java/lang/RuntimeException", "java/lang/Exception"]).filter goodWord)
def wsX4_start_r1 : List Cond := [Cond.fieldLink RX4 39 "StartSleepModel" "thrown" "I", Cond.fieldLink RX4 43 "StartSleepModel" "mode" "I", Cond.fieldLink RX4 109 "StartSleepModel" "toRun" "I", Cond.fieldLink RX4 112 "StartSleepModel" "runs" "I", Cond.fieldLink RX4 115 "StartSleepModel" "starts" "J", Cond.fieldLink RX4 50 "StartSleepModel" "time" "J", Cond.fieldLink RX4 118 "StartSleepModel" "lastStart" "J", Cond.fieldLink RX4 20 "StartSleepModel" "changed" "[Z", Cond.fieldLink RX4 7 "StartSleepModel" "working" "[B", Cond.fieldLink RX4 13 "StartSleepModel" "copies" "[B", Cond.fieldLink RX4 24 "StartSleepModel" "requests" "[Z", Cond.fieldLink RX4 121 "StartSleepModel" "many" "I", Cond.fieldLink RX4 36 "StartSleepModel" "things" "[I", Cond.fieldLink RX4 33 "StartSleepModel" "fails" "[Z", Cond.fieldLink RX4 30 "StartSleepModel" "orders" "[I", Cond.methodLink RX4 75 yX4_keptCopy, Cond.instanceMethod yX4_keptCopy, Cond.selects RX4 yX4_keptCopy yX4_keptCopy, Cond.initialized RX4, Cond.code yX4_keptCopy cX4_keptCopy 2 (some .int), Cond.fieldLink RX4 16 "StartSleepModel" "versions" "[I", Cond.methodLink RX4 124 yX4_nextPart, Cond.instanceMethod yX4_nextPart, Cond.selects RX4 yX4_nextPart yX4_nextPart]
def wsX4_start_r2 : List Cond := [Cond.code yX4_nextPart cX4_nextPart 6 (some .int), Cond.fieldLink RX4 27 "StartSleepModel" "told" "[Z", Cond.methodLink RX4 60 yX4_run, Cond.instanceMethod yX4_run, Cond.selects RX4 yX4_run yX4_run, Cond.code yX4_run cX4_run 1 none, Cond.fieldLink RX4 54 "StartSleepModel" "quiet" "J"]
def wsX4_start : List Cond := .code yX4_start cX4_start 4 (some .int) :: ((wsX4_start_r1 ++ wsX4_start_r2) ++ wsX40 ++ (vx_atM "java/lang/ArrayIndexOutOfBoundsException" ["java/lang/IndexOutOfBoundsException", "java/lang/RuntimeException", "java/lang/Exception"]).filter goodWord)
def wsX4_kept : List Cond := .code yX4_kept cX4_kept 3 (some .byte) :: ([.fieldLink RX4 39 "StartSleepModel" "thrown" "I", .fieldLink RX4 13 "StartSleepModel" "copies" "[B", .methodLink RX4 75 yX4_keptCopy, .instanceMethod yX4_keptCopy, .selects RX4 yX4_keptCopy yX4_keptCopy, .initialized RX4, .code yX4_keptCopy cX4_keptCopy 2 (some .int), .fieldLink RX4 16 "StartSleepModel" "versions" "[I"] ++ wsX40 ++ (vx_atM "java/lang/ArrayIndexOutOfBoundsException" ["java/lang/IndexOutOfBoundsException", "java/lang/RuntimeException", "java/lang/Exception"]).filter goodWord)
def wsX4_bank : List Cond := .code yX4_bank cX4_bank 2 (some .int) :: ([.fieldLink RX4 39 "StartSleepModel" "thrown" "I", .fieldLink RX4 109 "StartSleepModel" "toRun" "I"] ++ wsX40)
def wsX4_time : List Cond := .code yX4_time cX4_time 2 (some .long) :: ([.fieldLink RX4 39 "StartSleepModel" "thrown" "I", .constantLong RX4 128 (-2), .fieldLink RX4 50 "StartSleepModel" "time" "J", .fieldLink RX4 115 "StartSleepModel" "starts" "J", .fieldLink RX4 57 "StartSleepModel" "sleeps" "J", .fieldLink RX4 66 "StartSleepModel" "checks" "J", .fieldLink RX4 106 "StartSleepModel" "cuts" "J", .fieldLink RX4 118 "StartSleepModel" "lastStart" "J", .fieldLink RX4 112 "StartSleepModel" "runs" "I"] ++ wsX40)
def wsX4_order : List Cond := .code yX4_order cX4_order 2 (some .int) :: ([.fieldLink RX4 39 "StartSleepModel" "thrown" "I", .fieldLink RX4 121 "StartSleepModel" "many" "I", .fieldLink RX4 36 "StartSleepModel" "things" "[I"] ++ wsX40 ++ (vx_atM "java/lang/ArrayIndexOutOfBoundsException" ["java/lang/IndexOutOfBoundsException", "java/lang/RuntimeException", "java/lang/Exception"]).filter goodWord)
def wsJx00060_init_a7421 : List Cond := .code yJx00060_init_a7421 cJx00060_init_a7421 2 none :: ([])
def wsL_kept_r1 : List Cond := [Cond.classLink RL 13 "java/lang/ArrayIndexOutOfBoundsException", Cond.methodLink RL 7 yX3_kept, Cond.instanceMethod yX3_kept, Cond.selects RX3 yX3_kept yX3_kept, Cond.initialized RX3, Cond.code yX3_kept cX3_kept 3 (some .byte), Cond.classLink RX3 124 RJx00060, Cond.instantiable RJx00060 6, Cond.initialized RJx00060, Cond.fieldLink RX3 19 "StartSleep" "blocks" "LStartSleep$Blocks;", Cond.methodLink RX3 78 yX0_has, Cond.static yX0_has, Cond.initialized RX0, Cond.code yX0_has cX0_has 1 (some .boolean), Cond.methodLink RX3 82 yX0_hasOctet, Cond.static yX0_hasOctet, Cond.code yX0_hasOctet cX0_hasOctet 1 (some .boolean), Cond.methodLink RX3 131 yX0_keptOctet, Cond.instanceMethod yX0_keptOctet, Cond.selects RX0 yX0_keptOctet yX0_keptOctet, Cond.code yX0_keptOctet cX0_keptOctet 3 (some .byte), Cond.fieldLink RX0 17 "StartSleep$Blocks" "copies" "[[B", Cond.methodLink RX0 29 yX0_has, Cond.methodLink RX0 33 yX0_hasOctet]
def wsL_kept_r2 : List Cond := [Cond.methodLink RX0 36 yX0_keptCopy, Cond.instanceMethod yX0_keptCopy, Cond.selects RX0 yX0_keptCopy yX0_keptCopy, Cond.code yX0_keptCopy cX0_keptCopy 2 (some .int), Cond.fieldLink RX0 22 "StartSleep$Blocks" "versions" "[[I"]
def wsL_kept : List Cond := .codeWith yL_kept cL_kept 5 (some .int) [(0, 10, 13, 13)] :: ((wsL_kept_r1 ++ wsL_kept_r2) ++ wsJx000600 ++ wsX30 ++ wsX00 ++ (vx_atM "java/lang/ArrayIndexOutOfBoundsException" ["java/lang/IndexOutOfBoundsException", "java/lang/RuntimeException", "java/lang/Exception"]).filter goodWord)
def wsL_law0_r1 : List Cond := [Cond.classLink RL 8 RX3, Cond.instantiable RX3 14, Cond.initialized RX3, Cond.classLink RL 16 RX4, Cond.instantiable RX4 23, Cond.initialized RX4, Cond.arrayClass .long, Cond.constantLong RL 33 (4294967295), Cond.methodLink RL 15 yX3_init, Cond.instanceMethod yX3_init, Cond.code yX3_init cX3_init 1 none, Cond.methodLink RX3 1 objectInit, Cond.instanceMethod objectInit, Cond.code objectInit ⟨#[0xb1]⟩ 1 none, Cond.classLink RX3 7 RX2, Cond.instantiable RX2 2, Cond.initialized RX2, Cond.fieldLink RX3 10 "StartSleep" "users" "LStartSleep$Users;", Cond.classLink RX3 16 RX0, Cond.instantiable RX0 4, Cond.initialized RX0, Cond.fieldLink RX3 19 "StartSleep" "blocks" "LStartSleep$Blocks;", Cond.classLink RX3 23 RX1, Cond.instantiable RX1 6]
def wsL_law0_r2 : List Cond := [Cond.initialized RX1, Cond.fieldLink RX3 26 "StartSleep" "parts" "LStartSleep$Parts;", Cond.fieldLink RX3 30 "StartSleep" "mode" "I", Cond.constantLong RX3 34 (-1), Cond.fieldLink RX3 36 "StartSleep" "due" "J", Cond.fieldLink RX3 40 "StartSleep" "blockInSaving" "I", Cond.methodLink RX3 9 yX2_init, Cond.instanceMethod yX2_init, Cond.code yX2_init cX2_init 1 none, Cond.methodLink RX2 1 objectInit, Cond.arrayClass .boolean, Cond.fieldLink RX2 9 "StartSleep$Users" "requests" "[Z", Cond.methodLink RX3 18 yX0_init, Cond.instanceMethod yX0_init, Cond.code yX0_init cX0_init 1 none, Cond.methodLink RX0 3 objectInit, Cond.arrayClass .byte, Cond.fieldLink RX0 11 "StartSleep$Blocks" "working" "[B", Cond.classLink RX0 15 "[[B", Cond.fieldLink RX0 17 "StartSleep$Blocks" "copies" "[[B", Cond.classLink RX0 20 "[[I", Cond.arrayClass .int, Cond.fieldLink RX0 22 "StartSleep$Blocks" "versions" "[[I", Cond.fieldLink RX0 25 "StartSleep$Blocks" "changed" "[Z"]
def wsL_law0_r3 : List Cond := [Cond.methodLink RX3 25 yX1_init, Cond.instanceMethod yX1_init, Cond.code yX1_init cX1_init 1 none, Cond.methodLink RX1 3 objectInit, Cond.fieldLink RX1 9 "StartSleep$Parts" "told" "[Z", Cond.fieldLink RX1 13 "StartSleep$Parts" "places" "[I", Cond.fieldLink RX1 17 "StartSleep$Parts" "failing" "[Z", Cond.fieldLink RX1 20 "StartSleep$Parts" "things" "[I", Cond.methodLink RL 18 yX4_init, Cond.instanceMethod yX4_init, Cond.code yX4_init cX4_init 1 none, Cond.methodLink RX4 1 objectInit, Cond.fieldLink RX4 7 "StartSleepModel" "working" "[B", Cond.fieldLink RX4 13 "StartSleepModel" "copies" "[B", Cond.fieldLink RX4 16 "StartSleepModel" "versions" "[I", Cond.fieldLink RX4 20 "StartSleepModel" "changed" "[Z", Cond.fieldLink RX4 24 "StartSleepModel" "requests" "[Z", Cond.fieldLink RX4 27 "StartSleepModel" "told" "[Z", Cond.fieldLink RX4 30 "StartSleepModel" "orders" "[I", Cond.fieldLink RX4 33 "StartSleepModel" "fails" "[Z", Cond.fieldLink RX4 36 "StartSleepModel" "things" "[I", Cond.methodLink RL 19 yX3_user, Cond.instanceMethod yX3_user, Cond.selects RX3 yX3_user yX3_user]
def wsL_law0_r4 : List Cond := [Cond.code yX3_user cX3_user 1 (some .int), Cond.methodLink RX3 43 yX2_howMany, Cond.instanceMethod yX2_howMany, Cond.selects RX2 yX2_howMany yX2_howMany, Cond.code yX2_howMany cX2_howMany 1 (some .int), Cond.fieldLink RX2 13 "StartSleep$Users" "requesting" "I", Cond.methodLink RL 23 yX4_user, Cond.instanceMethod yX4_user, Cond.selects RX4 yX4_user yX4_user, Cond.code yX4_user cX4_user 3 (some .int), Cond.fieldLink RX4 39 "StartSleepModel" "thrown" "I", Cond.methodLink RL 24 yX3_request, Cond.instanceMethod yX3_request, Cond.selects RX3 yX3_request yX3_request, Cond.code yX3_request cX3_request 4 (some .int), Cond.methodLink RX3 47 yX2_has, Cond.static yX2_has, Cond.code yX2_has cX2_has 1 (some .boolean), Cond.methodLink RX3 51 yX2_set, Cond.instanceMethod yX2_set, Cond.selects RX2 yX2_set yX2_set, Cond.code yX2_set cX2_set 3 (some .boolean), Cond.methodLink RX2 17 yX2_has, Cond.methodLink RX3 55 yX3_awaitIdleness]
def wsL_law0_r5 : List Cond := [Cond.instanceMethod yX3_awaitIdleness, Cond.selects RX3 yX3_awaitIdleness yX3_awaitIdleness, Cond.code yX3_awaitIdleness cX3_awaitIdleness 1 none, Cond.fieldLink RX3 102 "StartSleep" "now" "J", Cond.constantLong RX3 173 (100), Cond.methodLink RL 28 yX4_request, Cond.instanceMethod yX4_request, Cond.selects RX4 yX4_request yX4_request, Cond.code yX4_request cX4_request 5 (some .int), Cond.fieldLink RX4 43 "StartSleepModel" "mode" "I", Cond.fieldLink RX4 50 "StartSleepModel" "time" "J", Cond.fieldLink RX4 54 "StartSleepModel" "quiet" "J", Cond.methodLink RX4 46 yX4_user, Cond.methodLink RL 29 yX3_wake, Cond.instanceMethod yX3_wake, Cond.selects RX3 yX3_wake yX3_wake, Cond.code yX3_wake cX3_wake 3 (some .int), Cond.methodLink RX3 58 yX3_run, Cond.instanceMethod yX3_run, Cond.selects RX3 yX3_run yX3_run, Cond.code yX3_run cX3_run 1 none, Cond.methodLink RX3 61 yX3_check, Cond.instanceMethod yX3_check, Cond.selects RX3 yX3_check yX3_check]
def wsL_law0_r6 : List Cond := [Cond.code yX3_check cX3_check 1 none, Cond.fieldLink RX3 138 "StartSleep" "checks" "J", Cond.constantLong RX3 175 (20), Cond.methodLink RX3 92 yX3_enter, Cond.instanceMethod yX3_enter, Cond.selects RX3 yX3_enter yX3_enter, Cond.code yX3_enter cX3_enter 4 none, Cond.methodLink RL 32 yX4_wake, Cond.instanceMethod yX4_wake, Cond.selects RX4 yX4_wake yX4_wake, Cond.code yX4_wake cX4_wake 3 (some .int), Cond.fieldLink RX4 63 "StartSleepModel" "began" "J", Cond.fieldLink RX4 66 "StartSleepModel" "checks" "J", Cond.methodLink RX4 60 yX4_run, Cond.instanceMethod yX4_run, Cond.selects RX4 yX4_run yX4_run, Cond.code yX4_run cX4_run 1 none, Cond.methodLink RL 35 yX3_step, Cond.instanceMethod yX3_step, Cond.selects RX3 yX3_step yX3_step, Cond.code yX3_step cX3_step 3 (some .int), Cond.methodLink RX3 64 yX3_canAdvance, Cond.instanceMethod yX3_canAdvance, Cond.selects RX3 yX3_canAdvance yX3_canAdvance]
def wsL_law0_r7 : List Cond := [Cond.code yX3_canAdvance cX3_canAdvance 3 (some .boolean), Cond.constantLong RX3 147 (100000), Cond.methodLink RX3 68 yX3_advance, Cond.instanceMethod yX3_advance, Cond.selects RX3 yX3_advance yX3_advance, Cond.code yX3_advance cX3_advance 4 none, Cond.methodLink RX3 149 yX3_happen, Cond.instanceMethod yX3_happen, Cond.selects RX3 yX3_happen yX3_happen, Cond.code yX3_happen cX3_happen 1 none, Cond.methodLink RX3 152 yX3_saveNextOrSleep, Cond.instanceMethod yX3_saveNextOrSleep, Cond.selects RX3 yX3_saveNextOrSleep yX3_saveNextOrSleep, Cond.code yX3_saveNextOrSleep cX3_saveNextOrSleep 1 none, Cond.constantLong RX3 168 (5), Cond.methodLink RX3 161 yX0_firstChanged, Cond.instanceMethod yX0_firstChanged, Cond.selects RX0 yX0_firstChanged yX0_firstChanged, Cond.code yX0_firstChanged cX0_firstChanged 2 (some .int), Cond.methodLink RX3 158 yX3_sleep, Cond.instanceMethod yX3_sleep, Cond.selects RX3 yX3_sleep yX3_sleep, Cond.code yX3_sleep cX3_sleep 1 none, Cond.fieldLink RX3 135 "StartSleep" "sleeps" "J"]
def wsL_law0_r8 : List Cond := [Cond.methodLink RX3 164 yX0_tear, Cond.instanceMethod yX0_tear, Cond.selects RX0 yX0_tear yX0_tear, Cond.code yX0_tear cX0_tear 2 none, Cond.methodLink RX0 29 yX0_has, Cond.static yX0_has, Cond.code yX0_has cX0_has 1 (some .boolean), Cond.methodLink RX0 36 yX0_keptCopy, Cond.instanceMethod yX0_keptCopy, Cond.selects RX0 yX0_keptCopy yX0_keptCopy, Cond.code yX0_keptCopy cX0_keptCopy 2 (some .int), Cond.methodLink RX3 155 yX3_endSaving, Cond.instanceMethod yX3_endSaving, Cond.selects RX3 yX3_endSaving yX3_endSaving, Cond.code yX3_endSaving cX3_endSaving 1 none, Cond.methodLink RX3 170 yX0_save, Cond.instanceMethod yX0_save, Cond.selects RX0 yX0_save yX0_save, Cond.code yX0_save cX0_save 4 none, Cond.methodLink RX0 40 arraycopyName, Cond.native arraycopyName, Cond.static arraycopyName, Cond.initialized "java/lang/System", Cond.methodLink RL 39 yX4_step]
def wsL_law0_r9 : List Cond := [Cond.instanceMethod yX4_step, Cond.selects RX4 yX4_step yX4_step, Cond.code yX4_step cX4_step 3 (some .int), Cond.constantLong RX4 100 (100000), Cond.methodLink RX4 102 yX4_goOn, Cond.instanceMethod yX4_goOn, Cond.selects RX4 yX4_goOn yX4_goOn, Cond.code yX4_goOn cX4_goOn 5 none, Cond.methodLink RX4 93 yX4_due, Cond.instanceMethod yX4_due, Cond.selects RX4 yX4_due yX4_due, Cond.code yX4_due cX4_due 1 (some .long), Cond.constantLong RX4 85 (100), Cond.constantLong RX4 87 (-1), Cond.constantLong RX4 89 (5), Cond.constantLong RX4 91 (20), Cond.methodLink RX4 69 yX4_firstChanged, Cond.instanceMethod yX4_firstChanged, Cond.selects RX4 yX4_firstChanged yX4_firstChanged, Cond.code yX4_firstChanged cX4_firstChanged 2 (some .int), Cond.methodLink RX4 82 yX4_save, Cond.instanceMethod yX4_save, Cond.selects RX4 yX4_save yX4_save, Cond.code yX4_save cX4_save 1 none]
def wsL_law0_r10 : List Cond := [Cond.fieldLink RX4 72 "StartSleepModel" "saved" "I", Cond.methodLink RX4 75 yX4_keptCopy, Cond.instanceMethod yX4_keptCopy, Cond.selects RX4 yX4_keptCopy yX4_keptCopy, Cond.code yX4_keptCopy cX4_keptCopy 2 (some .int), Cond.methodLink RX4 97 yX4_isSaved, Cond.instanceMethod yX4_isSaved, Cond.selects RX4 yX4_isSaved yX4_isSaved, Cond.code yX4_isSaved cX4_isSaved 4 none, Cond.methodLink RX4 79 yX4_sleep, Cond.instanceMethod yX4_sleep, Cond.selects RX4 yX4_sleep yX4_sleep, Cond.code yX4_sleep cX4_sleep 1 none, Cond.fieldLink RX4 57 "StartSleepModel" "sleeps" "J", Cond.methodLink RL 40 yX3_init_, Cond.instanceMethod yX3_init_, Cond.selects RX3 yX3_init_ yX3_init_, Cond.code yX3_init_ cX3_init_ 4 (some .int), Cond.methodLink RX3 72 yX1_has, Cond.static yX1_has, Cond.code yX1_has cX1_has 1 (some .boolean), Cond.methodLink RX3 73 yX1_tell, Cond.instanceMethod yX1_tell, Cond.selects RX1 yX1_tell yX1_tell]
def wsL_law0_r11 : List Cond := [Cond.code yX1_tell cX1_tell 4 none, Cond.fieldLink RX1 23 "StartSleep$Parts" "count" "I", Cond.methodLink RX1 27 yX1_has, Cond.methodLink RX3 77 yX1_howMany, Cond.instanceMethod yX1_howMany, Cond.selects RX1 yX1_howMany yX1_howMany, Cond.code yX1_howMany cX1_howMany 1 (some .int), Cond.methodLink RL 44 yX4_init_, Cond.instanceMethod yX4_init_, Cond.selects RX4 yX4_init_ yX4_init_, Cond.code yX4_init_ cX4_init_ 6 (some .int), Cond.methodLink RL 45 yX3_block, Cond.instanceMethod yX3_block, Cond.selects RX3 yX3_block yX3_block, Cond.code yX3_block cX3_block 2 (some .int), Cond.methodLink RX3 78 yX0_has, Cond.methodLink RX3 79 yX0_isChanged, Cond.instanceMethod yX0_isChanged, Cond.selects RX0 yX0_isChanged yX0_isChanged, Cond.code yX0_isChanged cX0_isChanged 2 (some .boolean), Cond.methodLink RL 49 yX4_block, Cond.instanceMethod yX4_block, Cond.selects RX4 yX4_block yX4_block, Cond.code yX4_block cX4_block 2 (some .int)]
def wsL_law0_r12 : List Cond := [Cond.methodLink RL 50 yX3_write, Cond.instanceMethod yX3_write, Cond.selects RX3 yX3_write yX3_write, Cond.code yX3_write cX3_write 4 (some .int), Cond.methodLink RX3 82 yX0_hasOctet, Cond.static yX0_hasOctet, Cond.code yX0_hasOctet cX0_hasOctet 1 (some .boolean), Cond.methodLink RX3 85 yX0_put, Cond.instanceMethod yX0_put, Cond.selects RX0 yX0_put yX0_put, Cond.code yX0_put cX0_put 4 none, Cond.methodLink RX0 33 yX0_hasOctet, Cond.methodLink RL 54 yX4_write, Cond.instanceMethod yX4_write, Cond.selects RX4 yX4_write yX4_write, Cond.code yX4_write cX4_write 4 (some .int), Cond.methodLink RL 55 yX3_cut, Cond.instanceMethod yX3_cut, Cond.selects RX3 yX3_cut yX3_cut, Cond.code yX3_cut cX3_cut 3 (some .int), Cond.fieldLink RX3 89 "StartSleep" "cuts" "J", Cond.methodLink RX3 96 yX0_howManyChanged, Cond.instanceMethod yX0_howManyChanged, Cond.selects RX0 yX0_howManyChanged yX0_howManyChanged]
def wsL_law0_r13 : List Cond := [Cond.code yX0_howManyChanged cX0_howManyChanged 3 (some .int), Cond.methodLink RL 58 yX4_cut, Cond.instanceMethod yX4_cut, Cond.selects RX4 yX4_cut yX4_cut, Cond.code yX4_cut cX4_cut 5 (some .int), Cond.fieldLink RX4 106 "StartSleepModel" "cuts" "J", Cond.methodLink RL 59 yX3_start, Cond.instanceMethod yX3_start, Cond.selects RX3 yX3_start yX3_start, Cond.code yX3_start cX3_start 1 (some .int), Cond.fieldLink RX3 99 "StartSleep" "startings" "J", Cond.fieldLink RX3 105 "StartSleep" "lastStarting" "J", Cond.fieldLink RX3 108 "StartSleep" "bankToRun" "I", Cond.fieldLink RX3 111 "StartSleep" "bankThatRuns" "I", Cond.methodLink RX3 114 yX0_load, Cond.instanceMethod yX0_load, Cond.selects RX0 yX0_load yX0_load, Cond.code yX0_load cX0_load 2 none, Cond.methodLink RX3 117 yX2_clear, Cond.instanceMethod yX2_clear, Cond.selects RX2 yX2_clear yX2_clear, Cond.code yX2_clear cX2_clear 2 none, Cond.methodLink RX3 120 yX1_beginAll, Cond.instanceMethod yX1_beginAll]
def wsL_law0_r14 : List Cond := [Cond.selects RX1 yX1_beginAll yX1_beginAll, Cond.code yX1_beginAll cX1_beginAll 4 (some .boolean), Cond.fieldLink RX1 31 "StartSleep$Parts" "thingCount" "I", Cond.methodLink RX1 34 yX1_placeBehind, Cond.instanceMethod yX1_placeBehind, Cond.selects RX1 yX1_placeBehind yX1_placeBehind, Cond.code yX1_placeBehind cX1_placeBehind 4 (some .int), Cond.methodLink RX1 38 yX1_note, Cond.instanceMethod yX1_note, Cond.selects RX1 yX1_note yX1_note, Cond.code yX1_note cX1_note 2 none, Cond.methodLink RX1 42 yX1_endThoseBeforeTheLast, Cond.instanceMethod yX1_endThoseBeforeTheLast, Cond.selects RX1 yX1_endThoseBeforeTheLast yX1_endThoseBeforeTheLast, Cond.code yX1_endThoseBeforeTheLast cX1_endThoseBeforeTheLast 2 none, Cond.methodLink RX1 45 yX1_thing, Cond.instanceMethod yX1_thing, Cond.selects RX1 yX1_thing yX1_thing, Cond.code yX1_thing cX1_thing 2 (some .int), Cond.methodLink RL 62 yX4_start, Cond.instanceMethod yX4_start, Cond.selects RX4 yX4_start yX4_start, Cond.code yX4_start cX4_start 4 (some .int), Cond.fieldLink RX4 109 "StartSleepModel" "toRun" "I"]
def wsL_law0_r15 : List Cond := [Cond.fieldLink RX4 112 "StartSleepModel" "runs" "I", Cond.fieldLink RX4 115 "StartSleepModel" "starts" "J", Cond.fieldLink RX4 118 "StartSleepModel" "lastStart" "J", Cond.fieldLink RX4 121 "StartSleepModel" "many" "I", Cond.methodLink RX4 124 yX4_nextPart, Cond.instanceMethod yX4_nextPart, Cond.selects RX4 yX4_nextPart yX4_nextPart, Cond.code yX4_nextPart cX4_nextPart 6 (some .int), Cond.methodLink RL 63 yL_kept, Cond.static yL_kept, Cond.initialized RL, Cond.codeWith yL_kept cL_kept 5 (some .int) [(0, 10, 13, 13)], Cond.classLink RL 13 "java/lang/ArrayIndexOutOfBoundsException", Cond.methodLink RL 7 yX3_kept, Cond.instanceMethod yX3_kept, Cond.selects RX3 yX3_kept yX3_kept, Cond.code yX3_kept cX3_kept 3 (some .byte), Cond.classLink RX3 124 RJx00060, Cond.instantiable RJx00060 6, Cond.initialized RJx00060, Cond.methodLink RX3 131 yX0_keptOctet, Cond.instanceMethod yX0_keptOctet, Cond.selects RX0 yX0_keptOctet yX0_keptOctet, Cond.code yX0_keptOctet cX0_keptOctet 3 (some .byte)]
def wsL_law0_r16 : List Cond := [Cond.methodLink RL 68 yX4_kept, Cond.instanceMethod yX4_kept, Cond.selects RX4 yX4_kept yX4_kept, Cond.code yX4_kept cX4_kept 3 (some .byte), Cond.methodLink RL 69 yX4_thrown, Cond.instanceMethod yX4_thrown, Cond.selects RX4 yX4_thrown yX4_thrown, Cond.code yX4_thrown cX4_thrown 1 (some .int), Cond.methodLink RL 72 yX3_bank, Cond.instanceMethod yX3_bank, Cond.selects RX3 yX3_bank yX3_bank, Cond.code yX3_bank cX3_bank 2 (some .int), Cond.methodLink RL 76 yX4_bank, Cond.instanceMethod yX4_bank, Cond.selects RX4 yX4_bank yX4_bank, Cond.code yX4_bank cX4_bank 2 (some .int), Cond.methodLink RL 77 yX3_time, Cond.instanceMethod yX3_time, Cond.selects RX3 yX3_time yX3_time, Cond.code yX3_time cX3_time 2 (some .long), Cond.constantLong RX3 141 (-2), Cond.methodLink RL 81 yX4_time, Cond.instanceMethod yX4_time, Cond.selects RX4 yX4_time yX4_time]
def wsL_law0_r17 : List Cond := [Cond.code yX4_time cX4_time 2 (some .long), Cond.constantLong RX4 128 (-2), Cond.methodLink RL 82 yX3_order, Cond.instanceMethod yX3_order, Cond.selects RX3 yX3_order yX3_order, Cond.code yX3_order cX3_order 2 (some .int), Cond.methodLink RX3 143 yX1_thing, Cond.methodLink RL 85 yX4_order, Cond.instanceMethod yX4_order, Cond.selects RX4 yX4_order yX4_order, Cond.code yX4_order cX4_order 2 (some .int)]
def wsL_law0 : List Cond := (wsL_law0_r1 ++ (wsL_law0_r2 ++ (wsL_law0_r3 ++ (wsL_law0_r4 ++ (wsL_law0_r5 ++ (wsL_law0_r6 ++ (wsL_law0_r7 ++ (wsL_law0_r8 ++ (wsL_law0_r9 ++ (wsL_law0_r10 ++ (wsL_law0_r11 ++ (wsL_law0_r12 ++ (wsL_law0_r13 ++ (wsL_law0_r14 ++ (wsL_law0_r15 ++ (wsL_law0_r16 ++ wsL_law0_r17)))))))))))))))) ++ wsX30 ++ wsX40 ++ wsX20 ++ wsX00 ++ wsX10 ++ wsJx000600 ++ ([] : List Cond)
def wsL_law : List Cond := wsL_law0 ++ (vx_atM "java/lang/ArrayIndexOutOfBoundsException" ["java/lang/IndexOutOfBoundsException", "java/lang/RuntimeException", "java/lang/Exception"]).filter goodWord
set_option maxRecDepth 20000 in
theorem wsL_law_in0 : ∀ w ∈ wsL_law0, w ∈ lw_tbl := fun w h => (goodIn_p wsL_law0 [41, 44, 49, 63, 88, 429, 156, 160, 508, 164, 167, 171, 176, 512, 181, 185, 189, 194, 517, 521, 198, 202, 207, 211, 215, 219, 223, 227, 230, 234, 239, 243, 525, 530, 534, 542, 546, 550, 554, 558, 250, 253, 257, 262, 562, 266, 271, 566, 275, 278, 282, 570, 287, 291, 574, 295, 299, 303, 307, 311, 315, 319, 323, 578, 582, 417, 424, 586, 504, 327, 590, 331, 594, 336, 599] (by decide +kernel) (by decide +kernel) w h).1
theorem wsL_law_x0 : ∀ w ∈ (vx_atM "java/lang/ArrayIndexOutOfBoundsException" ["java/lang/IndexOutOfBoundsException", "java/lang/RuntimeException", "java/lang/Exception"]).filter goodWord, w ∈ lw_tbl := by decide +kernel
theorem wsL_law_in : ∀ w ∈ wsL_law, w ∈ lw_tbl := fun w h => (List.mem_append.mp h).elim (fun h => wsL_law_in0 w h) (fun h => wsL_law_x0 w h)
theorem inlX0 : ∀ w ∈ wsX00, w ∈ wsL_law := fun _ h => List.mem_append_left _ (List.mem_append_left _ (List.mem_append_left _ (List.mem_append_left _ (List.mem_append_right _ h))))
theorem inX0 : ∀ w ∈ wsX00, w ∈ lw_tbl := fun w h => wsL_law_in w (inlX0 w h)
theorem inlX1 : ∀ w ∈ wsX10, w ∈ wsL_law := fun _ h => List.mem_append_left _ (List.mem_append_left _ (List.mem_append_left _ (List.mem_append_right _ h)))
theorem inX1 : ∀ w ∈ wsX10, w ∈ lw_tbl := fun w h => wsL_law_in w (inlX1 w h)
theorem inlX2 : ∀ w ∈ wsX20, w ∈ wsL_law := fun _ h => List.mem_append_left _ (List.mem_append_left _ (List.mem_append_left _ (List.mem_append_left _ (List.mem_append_left _ (List.mem_append_right _ h)))))
theorem inX2 : ∀ w ∈ wsX20, w ∈ lw_tbl := fun w h => wsL_law_in w (inlX2 w h)
theorem inlX3 : ∀ w ∈ wsX30, w ∈ wsL_law := fun _ h => List.mem_append_left _ (List.mem_append_left _ (List.mem_append_left _ (List.mem_append_left _ (List.mem_append_left _ (List.mem_append_left _ (List.mem_append_left _ (List.mem_append_right _ h)))))))
theorem inX3 : ∀ w ∈ wsX30, w ∈ lw_tbl := fun w h => wsL_law_in w (inlX3 w h)
theorem inlX4 : ∀ w ∈ wsX40, w ∈ wsL_law := fun _ h => List.mem_append_left _ (List.mem_append_left _ (List.mem_append_left _ (List.mem_append_left _ (List.mem_append_left _ (List.mem_append_left _ (List.mem_append_right _ h))))))
theorem inX4 : ∀ w ∈ wsX40, w ∈ lw_tbl := fun w h => wsL_law_in w (inlX4 w h)
theorem inlJx00060 : ∀ w ∈ wsJx000600, w ∈ wsL_law := fun _ h => List.mem_append_left _ (List.mem_append_left _ (List.mem_append_right _ h))
theorem inJx00060 : ∀ w ∈ wsJx000600, w ∈ lw_tbl := fun w h => wsL_law_in w (inlJx00060 w h)
theorem inJ0 : ∀ w ∈ wsJ00, w ∈ lw_tbl := by decide +kernel
theorem inJ10 : ∀ w ∈ wsJ100, w ∈ lw_tbl := by decide +kernel
theorem dX0_init_0 : decode cX0_init 0 = .ok (.aload_n 0, 1) := by decide +kernel
theorem dX0_init_1 : decode cX0_init 1 = .ok (.invokespecial 3, 3) := by decide +kernel
theorem dX0_init_4 : decode cX0_init 4 = .ok (.aload_n 0, 1) := by decide +kernel
theorem dX0_init_5 : decode cX0_init 5 = .ok (.sipush 128, 3) := by decide +kernel
theorem dX0_init_8 : decode cX0_init 8 = .ok (.newarray .byte, 2) := by decide +kernel
theorem dX0_init_10 : decode cX0_init 10 = .ok (.putfield 11, 3) := by decide +kernel
theorem dX0_init_13 : decode cX0_init 13 = .ok (.aload_n 0, 1) := by decide +kernel
theorem dX0_init_14 : decode cX0_init 14 = .ok (.iconst 2, 1) := by decide +kernel
theorem dX0_init_15 : decode cX0_init 15 = .ok (.sipush 128, 3) := by decide +kernel
theorem dX0_init_18 : decode cX0_init 18 = .ok (.multianewarray 15 2, 4) := by decide +kernel
theorem dX0_init_22 : decode cX0_init 22 = .ok (.putfield 17, 3) := by decide +kernel
theorem dX0_init_25 : decode cX0_init 25 = .ok (.aload_n 0, 1) := by decide +kernel
theorem dX0_init_26 : decode cX0_init 26 = .ok (.iconst 2, 1) := by decide +kernel
theorem dX0_init_27 : decode cX0_init 27 = .ok (.bipush 8, 2) := by decide +kernel
theorem dX0_init_29 : decode cX0_init 29 = .ok (.multianewarray 20 2, 4) := by decide +kernel
theorem dX0_init_33 : decode cX0_init 33 = .ok (.putfield 22, 3) := by decide +kernel
theorem dX0_init_36 : decode cX0_init 36 = .ok (.aload_n 0, 1) := by decide +kernel
theorem dX0_init_37 : decode cX0_init 37 = .ok (.bipush 8, 2) := by decide +kernel
theorem dX0_init_39 : decode cX0_init 39 = .ok (.newarray .boolean, 2) := by decide +kernel
theorem dX0_init_41 : decode cX0_init 41 = .ok (.putfield 25, 3) := by decide +kernel
theorem dX0_init_44 : decode cX0_init 44 = .ok (.return_, 1) := by decide +kernel
theorem dX0_has_0 : decode cX0_has 0 = .ok (.iload_n 0, 1) := by decide +kernel
theorem dX0_has_1 : decode cX0_has 1 = .ok (.ifCond .lt 13, 3) := by decide +kernel
theorem dX0_has_4 : decode cX0_has 4 = .ok (.iload_n 0, 1) := by decide +kernel
theorem dX0_has_5 : decode cX0_has 5 = .ok (.bipush 8, 2) := by decide +kernel
theorem dX0_has_7 : decode cX0_has 7 = .ok (.if_icmp .ge 7, 3) := by decide +kernel
theorem dX0_has_10 : decode cX0_has 10 = .ok (.iconst 1, 1) := by decide +kernel
theorem dX0_has_11 : decode cX0_has 11 = .ok (.goto 4, 3) := by decide +kernel
theorem dX0_has_14 : decode cX0_has 14 = .ok (.iconst 0, 1) := by decide +kernel
theorem dX0_has_15 : decode cX0_has 15 = .ok (.ireturn, 1) := by decide +kernel
theorem dX0_hasOctet_0 : decode cX0_hasOctet 0 = .ok (.iload_n 0, 1) := by decide +kernel
theorem dX0_hasOctet_1 : decode cX0_hasOctet 1 = .ok (.ifCond .lt 13, 3) := by decide +kernel
theorem dX0_hasOctet_4 : decode cX0_hasOctet 4 = .ok (.iload_n 0, 1) := by decide +kernel
theorem dX0_hasOctet_5 : decode cX0_hasOctet 5 = .ok (.bipush 16, 2) := by decide +kernel
theorem dX0_hasOctet_7 : decode cX0_hasOctet 7 = .ok (.if_icmp .ge 7, 3) := by decide +kernel
theorem dX0_hasOctet_10 : decode cX0_hasOctet 10 = .ok (.iconst 1, 1) := by decide +kernel
theorem dX0_hasOctet_11 : decode cX0_hasOctet 11 = .ok (.goto 4, 3) := by decide +kernel
theorem dX0_hasOctet_14 : decode cX0_hasOctet 14 = .ok (.iconst 0, 1) := by decide +kernel
theorem dX0_hasOctet_15 : decode cX0_hasOctet 15 = .ok (.ireturn, 1) := by decide +kernel
set_option maxRecDepth 20000 in
theorem ggX0_isChanged_X0_has : GoodIn wsX0_isChanged wsX0_has := goodIn_r _ [5] (by decide +kernel) (by decide +kernel)
set_option maxRecDepth 20000 in
theorem gX0_isChanged_X0_has : GoodIn wsX0_isChanged (va_wsS RX0 29 yX0_has wsX0_has) := goodIn_app (goodIn_of _ (by decide +kernel)) ggX0_isChanged_X0_has
theorem dX0_isChanged_0 : decode cX0_isChanged 0 = .ok (.iload_n 1, 1) := by decide +kernel
theorem dX0_isChanged_1 : decode cX0_isChanged 1 = .ok (.invokestatic 29, 3) := by decide +kernel
theorem dX0_isChanged_4 : decode cX0_isChanged 4 = .ok (.ifCond .eq 16, 3) := by decide +kernel
theorem dX0_isChanged_7 : decode cX0_isChanged 7 = .ok (.aload_n 0, 1) := by decide +kernel
theorem dX0_isChanged_8 : decode cX0_isChanged 8 = .ok (.getfield 25, 3) := by decide +kernel
theorem dX0_isChanged_11 : decode cX0_isChanged 11 = .ok (.iload_n 1, 1) := by decide +kernel
theorem dX0_isChanged_12 : decode cX0_isChanged 12 = .ok (.baload, 1) := by decide +kernel
theorem dX0_isChanged_13 : decode cX0_isChanged 13 = .ok (.ifCond .eq 7, 3) := by decide +kernel
theorem dX0_isChanged_16 : decode cX0_isChanged 16 = .ok (.iconst 1, 1) := by decide +kernel
theorem dX0_isChanged_17 : decode cX0_isChanged 17 = .ok (.goto 4, 3) := by decide +kernel
theorem dX0_isChanged_20 : decode cX0_isChanged 20 = .ok (.iconst 0, 1) := by decide +kernel
theorem dX0_isChanged_21 : decode cX0_isChanged 21 = .ok (.ireturn, 1) := by decide +kernel
theorem dX0_howManyChanged_0 : decode cX0_howManyChanged 0 = .ok (.iconst 0, 1) := by decide +kernel
theorem dX0_howManyChanged_1 : decode cX0_howManyChanged 1 = .ok (.istore_n 1, 1) := by decide +kernel
theorem dX0_howManyChanged_2 : decode cX0_howManyChanged 2 = .ok (.iconst 0, 1) := by decide +kernel
theorem dX0_howManyChanged_3 : decode cX0_howManyChanged 3 = .ok (.istore_n 2, 1) := by decide +kernel
theorem dX0_howManyChanged_4 : decode cX0_howManyChanged 4 = .ok (.iload_n 2, 1) := by decide +kernel
theorem dX0_howManyChanged_5 : decode cX0_howManyChanged 5 = .ok (.bipush 8, 2) := by decide +kernel
theorem dX0_howManyChanged_7 : decode cX0_howManyChanged 7 = .ok (.if_icmp .ge 21, 3) := by decide +kernel
theorem dX0_howManyChanged_10 : decode cX0_howManyChanged 10 = .ok (.aload_n 0, 1) := by decide +kernel
theorem dX0_howManyChanged_11 : decode cX0_howManyChanged 11 = .ok (.getfield 25, 3) := by decide +kernel
theorem dX0_howManyChanged_14 : decode cX0_howManyChanged 14 = .ok (.iload_n 2, 1) := by decide +kernel
theorem dX0_howManyChanged_15 : decode cX0_howManyChanged 15 = .ok (.baload, 1) := by decide +kernel
theorem dX0_howManyChanged_16 : decode cX0_howManyChanged 16 = .ok (.ifCond .eq 6, 3) := by decide +kernel
theorem dX0_howManyChanged_19 : decode cX0_howManyChanged 19 = .ok (.iinc 1 1, 3) := by decide +kernel
theorem dX0_howManyChanged_22 : decode cX0_howManyChanged 22 = .ok (.iinc 2 1, 3) := by decide +kernel
theorem dX0_howManyChanged_25 : decode cX0_howManyChanged 25 = .ok (.goto (-21), 3) := by decide +kernel
theorem dX0_howManyChanged_28 : decode cX0_howManyChanged 28 = .ok (.iload_n 1, 1) := by decide +kernel
theorem dX0_howManyChanged_29 : decode cX0_howManyChanged 29 = .ok (.ireturn, 1) := by decide +kernel
theorem dX0_firstChanged_0 : decode cX0_firstChanged 0 = .ok (.iconst 0, 1) := by decide +kernel
theorem dX0_firstChanged_1 : decode cX0_firstChanged 1 = .ok (.istore_n 1, 1) := by decide +kernel
theorem dX0_firstChanged_2 : decode cX0_firstChanged 2 = .ok (.iload_n 1, 1) := by decide +kernel
theorem dX0_firstChanged_3 : decode cX0_firstChanged 3 = .ok (.bipush 8, 2) := by decide +kernel
theorem dX0_firstChanged_5 : decode cX0_firstChanged 5 = .ok (.if_icmp .ge 20, 3) := by decide +kernel
theorem dX0_firstChanged_8 : decode cX0_firstChanged 8 = .ok (.aload_n 0, 1) := by decide +kernel
theorem dX0_firstChanged_9 : decode cX0_firstChanged 9 = .ok (.getfield 25, 3) := by decide +kernel
theorem dX0_firstChanged_12 : decode cX0_firstChanged 12 = .ok (.iload_n 1, 1) := by decide +kernel
theorem dX0_firstChanged_13 : decode cX0_firstChanged 13 = .ok (.baload, 1) := by decide +kernel
theorem dX0_firstChanged_14 : decode cX0_firstChanged 14 = .ok (.ifCond .eq 5, 3) := by decide +kernel
theorem dX0_firstChanged_17 : decode cX0_firstChanged 17 = .ok (.iload_n 1, 1) := by decide +kernel
theorem dX0_firstChanged_18 : decode cX0_firstChanged 18 = .ok (.ireturn, 1) := by decide +kernel
theorem dX0_firstChanged_19 : decode cX0_firstChanged 19 = .ok (.iinc 1 1, 3) := by decide +kernel
theorem dX0_firstChanged_22 : decode cX0_firstChanged 22 = .ok (.goto (-20), 3) := by decide +kernel
theorem dX0_firstChanged_25 : decode cX0_firstChanged 25 = .ok (.iconst (-1), 1) := by decide +kernel
theorem dX0_firstChanged_26 : decode cX0_firstChanged 26 = .ok (.ireturn, 1) := by decide +kernel
set_option maxRecDepth 20000 in
theorem ggX0_put_X0_has : GoodIn wsX0_put wsX0_has := goodIn_r _ [6] (by decide +kernel) (by decide +kernel)
set_option maxRecDepth 20000 in
theorem gX0_put_X0_has : GoodIn wsX0_put (va_wsS RX0 29 yX0_has wsX0_has) := goodIn_app (goodIn_of _ (by decide +kernel)) ggX0_put_X0_has
set_option maxRecDepth 20000 in
theorem ggX0_put_X0_hasOctet : GoodIn wsX0_put wsX0_hasOctet := goodIn_r _ [9] (by decide +kernel) (by decide +kernel)
set_option maxRecDepth 20000 in
theorem gX0_put_X0_hasOctet : GoodIn wsX0_put (va_wsS RX0 33 yX0_hasOctet wsX0_hasOctet) := goodIn_app (goodIn_of _ (by decide +kernel)) ggX0_put_X0_hasOctet
theorem dX0_put_0 : decode cX0_put 0 = .ok (.iload_n 1, 1) := by decide +kernel
theorem dX0_put_1 : decode cX0_put 1 = .ok (.invokestatic 29, 3) := by decide +kernel
theorem dX0_put_4 : decode cX0_put 4 = .ok (.ifCond .eq 29, 3) := by decide +kernel
theorem dX0_put_7 : decode cX0_put 7 = .ok (.iload_n 2, 1) := by decide +kernel
theorem dX0_put_8 : decode cX0_put 8 = .ok (.invokestatic 33, 3) := by decide +kernel
theorem dX0_put_11 : decode cX0_put 11 = .ok (.ifCond .eq 22, 3) := by decide +kernel
theorem dX0_put_14 : decode cX0_put 14 = .ok (.aload_n 0, 1) := by decide +kernel
theorem dX0_put_15 : decode cX0_put 15 = .ok (.getfield 11, 3) := by decide +kernel
theorem dX0_put_18 : decode cX0_put 18 = .ok (.iload_n 1, 1) := by decide +kernel
theorem dX0_put_19 : decode cX0_put 19 = .ok (.bipush 16, 2) := by decide +kernel
theorem dX0_put_21 : decode cX0_put 21 = .ok (.imul, 1) := by decide +kernel
theorem dX0_put_22 : decode cX0_put 22 = .ok (.iload_n 2, 1) := by decide +kernel
theorem dX0_put_23 : decode cX0_put 23 = .ok (.iadd, 1) := by decide +kernel
theorem dX0_put_24 : decode cX0_put 24 = .ok (.iload_n 3, 1) := by decide +kernel
theorem dX0_put_25 : decode cX0_put 25 = .ok (.bastore, 1) := by decide +kernel
theorem dX0_put_26 : decode cX0_put 26 = .ok (.aload_n 0, 1) := by decide +kernel
theorem dX0_put_27 : decode cX0_put 27 = .ok (.getfield 25, 3) := by decide +kernel
theorem dX0_put_30 : decode cX0_put 30 = .ok (.iload_n 1, 1) := by decide +kernel
theorem dX0_put_31 : decode cX0_put 31 = .ok (.iconst 1, 1) := by decide +kernel
theorem dX0_put_32 : decode cX0_put 32 = .ok (.bastore, 1) := by decide +kernel
theorem dX0_put_33 : decode cX0_put 33 = .ok (.return_, 1) := by decide +kernel
set_option maxRecDepth 20000 in
theorem ggX0_keptOctet_X0_has : GoodIn wsX0_keptOctet wsX0_has := goodIn_r _ [5] (by decide +kernel) (by decide +kernel)
set_option maxRecDepth 20000 in
theorem gX0_keptOctet_X0_has : GoodIn wsX0_keptOctet (va_wsS RX0 29 yX0_has wsX0_has) := goodIn_app (goodIn_of _ (by decide +kernel)) ggX0_keptOctet_X0_has
set_option maxRecDepth 20000 in
theorem ggX0_keptOctet_X0_hasOctet : GoodIn wsX0_keptOctet wsX0_hasOctet := goodIn_r _ [8] (by decide +kernel) (by decide +kernel)
set_option maxRecDepth 20000 in
theorem gX0_keptOctet_X0_hasOctet : GoodIn wsX0_keptOctet (va_wsS RX0 33 yX0_hasOctet wsX0_hasOctet) := goodIn_app (goodIn_of _ (by decide +kernel)) ggX0_keptOctet_X0_hasOctet
set_option maxRecDepth 20000 in
theorem ggX0_keptOctet_X0_keptCopy : GoodIn wsX0_keptOctet wsX0_keptCopy := goodIn_ca (goodIn_r _ [12, 13, 14, 15, 16, 17] (by decide +kernel) (by decide +kernel)) (goodIn_sub (fun _ h => List.mem_cons_of_mem _ (List.mem_append_right _ h)) (by decide +kernel))
set_option maxRecDepth 20000 in
theorem gX0_keptOctet_X0_keptCopy : GoodIn wsX0_keptOctet (wsV RX0 36 RX0 yX0_keptCopy wsX0_keptCopy) := goodIn_app (goodIn_of _ (by decide +kernel)) ggX0_keptOctet_X0_keptCopy
theorem dX0_keptOctet_0 : decode cX0_keptOctet 0 = .ok (.iload_n 1, 1) := by decide +kernel
theorem dX0_keptOctet_1 : decode cX0_keptOctet 1 = .ok (.invokestatic 29, 3) := by decide +kernel
theorem dX0_keptOctet_4 : decode cX0_keptOctet 4 = .ok (.ifCond .eq 30, 3) := by decide +kernel
theorem dX0_keptOctet_7 : decode cX0_keptOctet 7 = .ok (.iload_n 2, 1) := by decide +kernel
theorem dX0_keptOctet_8 : decode cX0_keptOctet 8 = .ok (.invokestatic 33, 3) := by decide +kernel
theorem dX0_keptOctet_11 : decode cX0_keptOctet 11 = .ok (.ifCond .eq 23, 3) := by decide +kernel
theorem dX0_keptOctet_14 : decode cX0_keptOctet 14 = .ok (.aload_n 0, 1) := by decide +kernel
theorem dX0_keptOctet_15 : decode cX0_keptOctet 15 = .ok (.getfield 17, 3) := by decide +kernel
theorem dX0_keptOctet_18 : decode cX0_keptOctet 18 = .ok (.aload_n 0, 1) := by decide +kernel
theorem dX0_keptOctet_19 : decode cX0_keptOctet 19 = .ok (.iload_n 1, 1) := by decide +kernel
theorem dX0_keptOctet_20 : decode cX0_keptOctet 20 = .ok (.invokevirtual 36, 3) := by decide +kernel
theorem dX0_keptOctet_23 : decode cX0_keptOctet 23 = .ok (.aaload, 1) := by decide +kernel
theorem dX0_keptOctet_24 : decode cX0_keptOctet 24 = .ok (.iload_n 1, 1) := by decide +kernel
theorem dX0_keptOctet_25 : decode cX0_keptOctet 25 = .ok (.bipush 16, 2) := by decide +kernel
theorem dX0_keptOctet_27 : decode cX0_keptOctet 27 = .ok (.imul, 1) := by decide +kernel
theorem dX0_keptOctet_28 : decode cX0_keptOctet 28 = .ok (.iload_n 2, 1) := by decide +kernel
theorem dX0_keptOctet_29 : decode cX0_keptOctet 29 = .ok (.iadd, 1) := by decide +kernel
theorem dX0_keptOctet_30 : decode cX0_keptOctet 30 = .ok (.baload, 1) := by decide +kernel
theorem dX0_keptOctet_31 : decode cX0_keptOctet 31 = .ok (.goto 4, 3) := by decide +kernel
theorem dX0_keptOctet_34 : decode cX0_keptOctet 34 = .ok (.iconst 0, 1) := by decide +kernel
theorem dX0_keptOctet_35 : decode cX0_keptOctet 35 = .ok (.ireturn, 1) := by decide +kernel
set_option maxRecDepth 20000 in
theorem ggX0_tear_X0_has : GoodIn wsX0_tear wsX0_has := goodIn_r _ [5] (by decide +kernel) (by decide +kernel)
set_option maxRecDepth 20000 in
theorem gX0_tear_X0_has : GoodIn wsX0_tear (va_wsS RX0 29 yX0_has wsX0_has) := goodIn_app (goodIn_of _ (by decide +kernel)) ggX0_tear_X0_has
set_option maxRecDepth 20000 in
theorem ggX0_tear_X0_keptCopy : GoodIn wsX0_tear wsX0_keptCopy := goodIn_ca (goodIn_r _ [9, 1, 10, 11, 12, 13] (by decide +kernel) (by decide +kernel)) (goodIn_sub (fun _ h => List.mem_cons_of_mem _ (List.mem_append_right _ h)) (by decide +kernel))
set_option maxRecDepth 20000 in
theorem gX0_tear_X0_keptCopy : GoodIn wsX0_tear (wsV RX0 36 RX0 yX0_keptCopy wsX0_keptCopy) := goodIn_app (goodIn_of _ (by decide +kernel)) ggX0_tear_X0_keptCopy
theorem dX0_tear_0 : decode cX0_tear 0 = .ok (.iload_n 1, 1) := by decide +kernel
theorem dX0_tear_1 : decode cX0_tear 1 = .ok (.invokestatic 29, 3) := by decide +kernel
theorem dX0_tear_4 : decode cX0_tear 4 = .ok (.ifCond .eq 18, 3) := by decide +kernel
theorem dX0_tear_7 : decode cX0_tear 7 = .ok (.aload_n 0, 1) := by decide +kernel
theorem dX0_tear_8 : decode cX0_tear 8 = .ok (.getfield 22, 3) := by decide +kernel
theorem dX0_tear_11 : decode cX0_tear 11 = .ok (.iconst 1, 1) := by decide +kernel
theorem dX0_tear_12 : decode cX0_tear 12 = .ok (.aload_n 0, 1) := by decide +kernel
theorem dX0_tear_13 : decode cX0_tear 13 = .ok (.iload_n 1, 1) := by decide +kernel
theorem dX0_tear_14 : decode cX0_tear 14 = .ok (.invokevirtual 36, 3) := by decide +kernel
theorem dX0_tear_17 : decode cX0_tear 17 = .ok (.isub, 1) := by decide +kernel
theorem dX0_tear_18 : decode cX0_tear 18 = .ok (.aaload, 1) := by decide +kernel
theorem dX0_tear_19 : decode cX0_tear 19 = .ok (.iload_n 1, 1) := by decide +kernel
theorem dX0_tear_20 : decode cX0_tear 20 = .ok (.iconst 0, 1) := by decide +kernel
theorem dX0_tear_21 : decode cX0_tear 21 = .ok (.iastore, 1) := by decide +kernel
theorem dX0_tear_22 : decode cX0_tear 22 = .ok (.return_, 1) := by decide +kernel
set_option maxRecDepth 20000 in
theorem ggX0_save_X0_has : GoodIn wsX0_save wsX0_has := goodIn_r _ [12] (by decide +kernel) (by decide +kernel)
set_option maxRecDepth 20000 in
theorem gX0_save_X0_has : GoodIn wsX0_save (va_wsS RX0 29 yX0_has wsX0_has) := goodIn_app (goodIn_of _ (by decide +kernel)) ggX0_save_X0_has
set_option maxRecDepth 20000 in
theorem ggX0_save_X0_keptCopy : GoodIn wsX0_save wsX0_keptCopy := goodIn_ca (goodIn_r _ [16, 7, 17, 18, 19, 20] (by decide +kernel) (by decide +kernel)) (goodIn_sub (fun _ h => List.mem_cons_of_mem _ (List.mem_append_right _ h)) (by decide +kernel))
set_option maxRecDepth 20000 in
theorem gX0_save_X0_keptCopy : GoodIn wsX0_save (wsV RX0 36 RX0 yX0_keptCopy wsX0_keptCopy) := goodIn_app (goodIn_of _ (by decide +kernel)) ggX0_save_X0_keptCopy
theorem dX0_save_0 : decode cX0_save 0 = .ok (.iload_n 1, 1) := by decide +kernel
theorem dX0_save_1 : decode cX0_save 1 = .ok (.invokestatic 29, 3) := by decide +kernel
theorem dX0_save_4 : decode cX0_save 4 = .ok (.ifCond .eq 61, 3) := by decide +kernel
theorem dX0_save_7 : decode cX0_save 7 = .ok (.aload_n 0, 1) := by decide +kernel
theorem dX0_save_8 : decode cX0_save 8 = .ok (.iload_n 1, 1) := by decide +kernel
theorem dX0_save_9 : decode cX0_save 9 = .ok (.invokevirtual 36, 3) := by decide +kernel
theorem dX0_save_12 : decode cX0_save 12 = .ok (.istore_n 2, 1) := by decide +kernel
theorem dX0_save_13 : decode cX0_save 13 = .ok (.iconst 1, 1) := by decide +kernel
theorem dX0_save_14 : decode cX0_save 14 = .ok (.iload_n 2, 1) := by decide +kernel
theorem dX0_save_15 : decode cX0_save 15 = .ok (.isub, 1) := by decide +kernel
theorem dX0_save_16 : decode cX0_save 16 = .ok (.istore_n 3, 1) := by decide +kernel
theorem dX0_save_17 : decode cX0_save 17 = .ok (.aload_n 0, 1) := by decide +kernel
theorem dX0_save_18 : decode cX0_save 18 = .ok (.getfield 11, 3) := by decide +kernel
theorem dX0_save_21 : decode cX0_save 21 = .ok (.iload_n 1, 1) := by decide +kernel
theorem dX0_save_22 : decode cX0_save 22 = .ok (.bipush 16, 2) := by decide +kernel
theorem dX0_save_24 : decode cX0_save 24 = .ok (.imul, 1) := by decide +kernel
theorem dX0_save_25 : decode cX0_save 25 = .ok (.aload_n 0, 1) := by decide +kernel
theorem dX0_save_26 : decode cX0_save 26 = .ok (.getfield 17, 3) := by decide +kernel
theorem dX0_save_29 : decode cX0_save 29 = .ok (.iload_n 3, 1) := by decide +kernel
theorem dX0_save_30 : decode cX0_save 30 = .ok (.aaload, 1) := by decide +kernel
theorem dX0_save_31 : decode cX0_save 31 = .ok (.iload_n 1, 1) := by decide +kernel
theorem dX0_save_32 : decode cX0_save 32 = .ok (.bipush 16, 2) := by decide +kernel
theorem dX0_save_34 : decode cX0_save 34 = .ok (.imul, 1) := by decide +kernel
theorem dX0_save_35 : decode cX0_save 35 = .ok (.bipush 16, 2) := by decide +kernel
theorem dX0_save_37 : decode cX0_save 37 = .ok (.invokestatic 40, 3) := by decide +kernel
theorem dX0_save_40 : decode cX0_save 40 = .ok (.aload_n 0, 1) := by decide +kernel
theorem dX0_save_41 : decode cX0_save 41 = .ok (.getfield 22, 3) := by decide +kernel
theorem dX0_save_44 : decode cX0_save 44 = .ok (.iload_n 3, 1) := by decide +kernel
theorem dX0_save_45 : decode cX0_save 45 = .ok (.aaload, 1) := by decide +kernel
theorem dX0_save_46 : decode cX0_save 46 = .ok (.iload_n 1, 1) := by decide +kernel
theorem dX0_save_47 : decode cX0_save 47 = .ok (.aload_n 0, 1) := by decide +kernel
theorem dX0_save_48 : decode cX0_save 48 = .ok (.getfield 22, 3) := by decide +kernel
theorem dX0_save_51 : decode cX0_save 51 = .ok (.iload_n 2, 1) := by decide +kernel
theorem dX0_save_52 : decode cX0_save 52 = .ok (.aaload, 1) := by decide +kernel
theorem dX0_save_53 : decode cX0_save 53 = .ok (.iload_n 1, 1) := by decide +kernel
theorem dX0_save_54 : decode cX0_save 54 = .ok (.iaload, 1) := by decide +kernel
theorem dX0_save_55 : decode cX0_save 55 = .ok (.iconst 1, 1) := by decide +kernel
theorem dX0_save_56 : decode cX0_save 56 = .ok (.iadd, 1) := by decide +kernel
theorem dX0_save_57 : decode cX0_save 57 = .ok (.iastore, 1) := by decide +kernel
