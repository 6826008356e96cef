def RX0 : String := "CausalGate"
def TX0 : u_T := fun k => match k with
  | 0 => ("CausalGate", "throughKeys", "[I", true)
  | 1 => ("CausalGate", "throughLabels", "[I", true)
  | 2 => ("CausalGate", "throughCount", "I", false)
  | 3 => ("CausalGate", "waitKeys", "[I", true)
  | 4 => ("CausalGate", "waitClocks", "[J", true)
  | 5 => ("CausalGate", "waitLabels", "[I", true)
  | 6 => ("CausalGate", "waitCount", "I", false)
  | 7 => ("CausalGate", "gateClock", "J", false)
  | 8 => ("CausalGate", "knownOffers", "I", false)
  | _ => ("CausalGate", "mostWaited", "I", false)
def tyX0 : Nat → FieldType := fun k => match k with
  | 0 => .array .int
  | 1 => .array .int
  | 2 => .int
  | 3 => .array .int
  | 4 => .array .long
  | 5 => .array .int
  | 6 => .int
  | 7 => .long
  | 8 => .int
  | _ => .int
abbrev wsX00 : List Cond := u_ws RX0 TX0 10
theorem nmX0 : ∀ a, a < 10 → ∀ b, b < 10 → a ≠ b → (TX0 a).2.1 ≠ (TX0 b).2.1 := by decide +kernel
theorem tyX0_ok : ∀ k, k < 10 → parseFieldDescriptor (TX0 k).2.2.1 = some (tyX0 k) := by decide +kernel
abbrev cX0_init : ByteArray := prog_1_method_1_code
def yX0_init : MethodName := ⟨RX0, "<init>", "()V"⟩
abbrev cX0_clear : ByteArray := prog_1_method_2_code
def yX0_clear : MethodName := ⟨RX0, "clear", "()V"⟩
abbrev cX0_offer : ByteArray := prog_1_method_3_code
def yX0_offer : MethodName := ⟨RX0, "offer", "(IIJI)I"⟩
abbrev cX0_known : ByteArray := prog_1_method_4_code
def yX0_known : MethodName := ⟨RX0, "known", "(II)Z"⟩
abbrev cX0_clock : ByteArray := prog_1_method_5_code
def yX0_clock : MethodName := ⟨RX0, "clock", "()J"⟩
abbrev cX0_ahead : ByteArray := prog_1_method_8_code
def yX0_ahead : MethodName := ⟨RX0, "ahead", "(J)I"⟩
abbrev cX0_next : ByteArray := prog_1_method_9_code
def yX0_next : MethodName := ⟨RX0, "next", "(JI)I"⟩
abbrev cX0_compare : ByteArray := prog_1_method_10_code
def yX0_compare : MethodName := ⟨RX0, "compare", "(J)I"⟩
abbrev cX0_forget : ByteArray := prog_1_method_11_code
def yX0_forget : MethodName := ⟨RX0, "forget", "(I)I"⟩
abbrev cX0_look : ByteArray := prog_1_method_12_code
def yX0_look : MethodName := ⟨RX0, "look", "(I)I"⟩
abbrev cX0_isActor : ByteArray := prog_1_method_13_code
def yX0_isActor : MethodName := ⟨RX0, "isActor", "(I)Z"⟩
abbrev cX0_isSeq : ByteArray := prog_1_method_14_code
def yX0_isSeq : MethodName := ⟨RX0, "isSeq", "(I)Z"⟩
abbrev cX0_keyOf : ByteArray := prog_1_method_15_code
def yX0_keyOf : MethodName := ⟨RX0, "keyOf", "(II)I"⟩
abbrev cX0_actorOf : ByteArray := prog_1_method_16_code
def yX0_actorOf : MethodName := ⟨RX0, "actorOf", "(I)I"⟩
abbrev cX0_seqOf : ByteArray := prog_1_method_17_code
def yX0_seqOf : MethodName := ⟨RX0, "seqOf", "(I)I"⟩
abbrev cX0_byteOf : ByteArray := prog_1_method_18_code
def yX0_byteOf : MethodName := ⟨RX0, "byteOf", "(JI)I"⟩
abbrev cX0_nextSeq : ByteArray := prog_1_method_19_code
def yX0_nextSeq : MethodName := ⟨RX0, "nextSeq", "(I)I"⟩
abbrev cX0_isKnown : ByteArray := prog_1_method_20_code
def yX0_isKnown : MethodName := ⟨RX0, "isKnown", "(I)Z"⟩
abbrev cX0_canComeThrough : ByteArray := prog_1_method_21_code
def yX0_canComeThrough : MethodName := ⟨RX0, "canComeThrough", "(IJ)Z"⟩
abbrev cX0_lackedActor : ByteArray := prog_1_method_22_code
def yX0_lackedActor : MethodName := ⟨RX0, "lackedActor", "(IJ)I"⟩
abbrev cX0_letThroughAllThatCan : ByteArray := prog_1_method_23_code
def yX0_letThroughAllThatCan : MethodName := ⟨RX0, "letThroughAllThatCan", "()I"⟩
abbrev cX0_firstThatCanComeThrough : ByteArray := prog_1_method_24_code
def yX0_firstThatCanComeThrough : MethodName := ⟨RX0, "firstThatCanComeThrough", "()I"⟩
abbrev cX0_letThrough : ByteArray := prog_1_method_25_code
def yX0_letThrough : MethodName := ⟨RX0, "letThrough", "(I)V"⟩
abbrev cX0_insertWaiting : ByteArray := prog_1_method_26_code
def yX0_insertWaiting : MethodName := ⟨RX0, "insertWaiting", "(IJI)V"⟩
abbrev cX0_removeWaiting : ByteArray := prog_1_method_27_code
def yX0_removeWaiting : MethodName := ⟨RX0, "removeWaiting", "(I)V"⟩
abbrev cX0_moveWaiting : ByteArray := prog_1_method_28_code
def yX0_moveWaiting : MethodName := ⟨RX0, "moveWaiting", "(II)V"⟩
def RX1 : String := "CausalGateModel"
def TX1 : u_T := fun k => match k with
  | _ => ("", "", "", false)
def tyX1 : Nat → FieldType := fun k => match k with
  | _ => .int
abbrev wsX10 : List Cond := u_ws RX1 TX1 0
theorem nmX1 : ∀ a, a < 0 → ∀ b, b < 0 → a ≠ b → (TX1 a).2.1 ≠ (TX1 b).2.1 := by decide +kernel
theorem tyX1_ok : ∀ k, k < 0 → parseFieldDescriptor (TX1 k).2.2.1 = some (tyX1 k) := by decide +kernel
def RJ9 : String := "java/lang/Math"
def TJ9 : u_T := fun k => match k with
  | _ => ("", "", "", false)
def tyJ9 : Nat → FieldType := fun k => match k with
  | _ => .int
abbrev wsJ90 : List Cond := u_ws RJ9 TJ9 0
theorem nmJ9 : ∀ a, a < 0 → ∀ b, b < 0 → a ≠ b → (TJ9 a).2.1 ≠ (TJ9 b).2.1 := by decide +kernel
theorem tyJ9_ok : ∀ k, k < 0 → parseFieldDescriptor (TJ9 k).2.2.1 = some (tyJ9 k) := by decide +kernel
def RJ0 : String := "java/lang/String"
def TJ0 : u_T := fun k => match k with
  | _ => ("", "", "", false)
def tyJ0 : Nat → FieldType := fun k => match k with
  | _ => .int
abbrev wsJ00 : List Cond := u_ws RJ0 TJ0 0
theorem nmJ0 : ∀ a, a < 0 → ∀ b, b < 0 → a ≠ b → (TJ0 a).2.1 ≠ (TJ0 b).2.1 := by decide +kernel
theorem tyJ0_ok : ∀ k, k < 0 → parseFieldDescriptor (TJ0 k).2.2.1 = some (tyJ0 k) := by decide +kernel
def RL : String := "CausalGateLaw"
abbrev cL_offer : ByteArray := method_3_code
def yL_offer : MethodName := ⟨RL, "offer", "(LCausalGate;IIJI[J)I"⟩
abbrev cL_law : ByteArray := code
def yL_law : MethodName := ⟨RL, "law", "([I)Z"⟩
def wsX0_init : List Cond := .code yX0_init cX0_init 1 none :: ([.methodLink RX0 3 objectInit, .instanceMethod objectInit, .code objectInit ⟨#[0xb1]⟩ 1 none, .arrayClass .int, .fieldLink RX0 9 "CausalGate" "throughKeys" "[I", .fieldLink RX0 13 "CausalGate" "throughLabels" "[I", .fieldLink RX0 16 "CausalGate" "waitKeys" "[I", .arrayClass .long, .fieldLink RX0 19 "CausalGate" "waitClocks" "[J", .fieldLink RX0 23 "CausalGate" "waitLabels" "[I"] ++ wsX00)
def wsX0_clear : List Cond := .code yX0_clear cX0_clear 1 none :: ([.fieldLink RX0 26 "CausalGate" "throughCount" "I", .fieldLink RX0 30 "CausalGate" "waitCount" "I", .fieldLink RX0 33 "CausalGate" "gateClock" "J", .fieldLink RX0 37 "CausalGate" "knownOffers" "I", .fieldLink RX0 40 "CausalGate" "mostWaited" "I"] ++ wsX00)
def wsX0_isActor : List Cond := .code yX0_isActor cX0_isActor 1 (some .boolean) :: ([])
def wsX0_isSeq : List Cond := .code yX0_isSeq cX0_isSeq 1 (some .boolean) :: ([])
def wsX0_keyOf : List Cond := .code yX0_keyOf cX0_keyOf 2 (some .int) :: ([])
def wsX0_seqOf : List Cond := .code yX0_seqOf cX0_seqOf 1 (some .int) :: ([])
def wsX0_actorOf : List Cond := .code yX0_actorOf cX0_actorOf 1 (some .int) :: ([])
def wsX0_byteOf : List Cond := .code yX0_byteOf cX0_byteOf 3 (some .int) :: ([])
def wsX0_nextSeq : List Cond := .code yX0_nextSeq cX0_nextSeq 2 (some .int) :: ([.fieldLink RX0 33 "CausalGate" "gateClock" "J", .methodLink RX0 105 yX0_byteOf, .static yX0_byteOf, .initialized RX0, .code yX0_byteOf cX0_byteOf 3 (some .int)] ++ wsX00)
def wsX0_isKnown : List Cond := .code yX0_isKnown cX0_isKnown 3 (some .boolean) :: ([.fieldLink RX0 30 "CausalGate" "waitCount" "I", .fieldLink RX0 16 "CausalGate" "waitKeys" "[I", .methodLink RX0 95 yX0_seqOf, .static yX0_seqOf, .initialized RX0, .code yX0_seqOf cX0_seqOf 1 (some .int), .methodLink RX0 91 yX0_actorOf, .static yX0_actorOf, .code yX0_actorOf cX0_actorOf 1 (some .int), .methodLink RX0 102 yX0_nextSeq, .instanceMethod yX0_nextSeq, .selects RX0 yX0_nextSeq yX0_nextSeq, .code yX0_nextSeq cX0_nextSeq 2 (some .int), .fieldLink RX0 33 "CausalGate" "gateClock" "J", .methodLink RX0 105 yX0_byteOf, .static yX0_byteOf, .code yX0_byteOf cX0_byteOf 3 (some .int)] ++ wsX00)
def wsX0_lackedActor : List Cond := .code yX0_lackedActor cX0_lackedActor 6 (some .int) :: ([.fieldLink RX0 33 "CausalGate" "gateClock" "J", .methodLink RX0 91 yX0_actorOf, .static yX0_actorOf, .initialized RX0, .code yX0_actorOf cX0_actorOf 1 (some .int), .methodLink RX0 95 yX0_seqOf, .static yX0_seqOf, .code yX0_seqOf cX0_seqOf 1 (some .int), .methodLink RX0 102 yX0_nextSeq, .instanceMethod yX0_nextSeq, .selects RX0 yX0_nextSeq yX0_nextSeq, .code yX0_nextSeq cX0_nextSeq 2 (some .int), .methodLink RX0 105 yX0_byteOf, .static yX0_byteOf, .code yX0_byteOf cX0_byteOf 3 (some .int)] ++ wsX00)
def wsX0_canComeThrough : List Cond := .code yX0_canComeThrough cX0_canComeThrough 4 (some .boolean) :: ([.fieldLink RX0 26 "CausalGate" "throughCount" "I", .methodLink RX0 98 yX0_lackedActor, .instanceMethod yX0_lackedActor, .selects RX0 yX0_lackedActor yX0_lackedActor, .initialized RX0, .code yX0_lackedActor cX0_lackedActor 6 (some .int), .fieldLink RX0 33 "CausalGate" "gateClock" "J", .methodLink RX0 91 yX0_actorOf, .static yX0_actorOf, .code yX0_actorOf cX0_actorOf 1 (some .int), .methodLink RX0 95 yX0_seqOf, .static yX0_seqOf, .code yX0_seqOf cX0_seqOf 1 (some .int), .methodLink RX0 102 yX0_nextSeq, .instanceMethod yX0_nextSeq, .selects RX0 yX0_nextSeq yX0_nextSeq, .code yX0_nextSeq cX0_nextSeq 2 (some .int), .methodLink RX0 105 yX0_byteOf, .static yX0_byteOf, .code yX0_byteOf cX0_byteOf 3 (some .int)] ++ wsX00)
def wsX0_moveWaiting : List Cond := .code yX0_moveWaiting cX0_moveWaiting 3 none :: ([.fieldLink RX0 16 "CausalGate" "waitKeys" "[I", .fieldLink RX0 19 "CausalGate" "waitClocks" "[J", .fieldLink RX0 23 "CausalGate" "waitLabels" "[I"] ++ wsX00)
def wsX0_insertWaiting : List Cond := .code yX0_insertWaiting cX0_insertWaiting 6 none :: ([.fieldLink RX0 30 "CausalGate" "waitCount" "I", .fieldLink RX0 16 "CausalGate" "waitKeys" "[I", .fieldLink RX0 19 "CausalGate" "waitClocks" "[J", .fieldLink RX0 23 "CausalGate" "waitLabels" "[I", .methodLink RX0 109 yX0_moveWaiting, .instanceMethod yX0_moveWaiting, .selects RX0 yX0_moveWaiting yX0_moveWaiting, .initialized RX0, .code yX0_moveWaiting cX0_moveWaiting 3 none] ++ wsX00)
def wsX0_firstThatCanComeThrough_r1 : List Cond := [Cond.fieldLink RX0 30 "CausalGate" "waitCount" "I", Cond.fieldLink RX0 16 "CausalGate" "waitKeys" "[I", Cond.fieldLink RX0 19 "CausalGate" "waitClocks" "[J", Cond.methodLink RX0 64 yX0_canComeThrough, Cond.instanceMethod yX0_canComeThrough, Cond.selects RX0 yX0_canComeThrough yX0_canComeThrough, Cond.initialized RX0, Cond.code yX0_canComeThrough cX0_canComeThrough 4 (some .boolean), Cond.fieldLink RX0 26 "CausalGate" "throughCount" "I", Cond.methodLink RX0 98 yX0_lackedActor, Cond.instanceMethod yX0_lackedActor, Cond.selects RX0 yX0_lackedActor yX0_lackedActor, Cond.code yX0_lackedActor cX0_lackedActor 6 (some .int), Cond.fieldLink RX0 33 "CausalGate" "gateClock" "J", Cond.methodLink RX0 91 yX0_actorOf, Cond.static yX0_actorOf, Cond.code yX0_actorOf cX0_actorOf 1 (some .int), Cond.methodLink RX0 95 yX0_seqOf, Cond.static yX0_seqOf, Cond.code yX0_seqOf cX0_seqOf 1 (some .int), Cond.methodLink RX0 102 yX0_nextSeq, Cond.instanceMethod yX0_nextSeq, Cond.selects RX0 yX0_nextSeq yX0_nextSeq, Cond.code yX0_nextSeq cX0_nextSeq 2 (some .int)]
def wsX0_firstThatCanComeThrough_r2 : List Cond := [Cond.methodLink RX0 105 yX0_byteOf, Cond.static yX0_byteOf, Cond.code yX0_byteOf cX0_byteOf 3 (some .int)]
def wsX0_firstThatCanComeThrough : List Cond := .code yX0_firstThatCanComeThrough cX0_firstThatCanComeThrough 2 (some .int) :: ((wsX0_firstThatCanComeThrough_r1 ++ wsX0_firstThatCanComeThrough_r2) ++ wsX00)
def wsX0_removeWaiting : List Cond := .code yX0_removeWaiting cX0_removeWaiting 3 none :: ([.fieldLink RX0 30 "CausalGate" "waitCount" "I", .methodLink RX0 109 yX0_moveWaiting, .instanceMethod yX0_moveWaiting, .selects RX0 yX0_moveWaiting yX0_moveWaiting, .initialized RX0, .code yX0_moveWaiting cX0_moveWaiting 3 none, .fieldLink RX0 16 "CausalGate" "waitKeys" "[I", .fieldLink RX0 19 "CausalGate" "waitClocks" "[J", .fieldLink RX0 23 "CausalGate" "waitLabels" "[I"] ++ wsX00)
def wsX0_letThrough : List Cond := .code yX0_letThrough cX0_letThrough 2 none :: ([.fieldLink RX0 9 "CausalGate" "throughKeys" "[I", .fieldLink RX0 26 "CausalGate" "throughCount" "I", .fieldLink RX0 16 "CausalGate" "waitKeys" "[I", .fieldLink RX0 13 "CausalGate" "throughLabels" "[I", .fieldLink RX0 23 "CausalGate" "waitLabels" "[I", .fieldLink RX0 33 "CausalGate" "gateClock" "J", .methodLink RX0 91 yX0_actorOf, .static yX0_actorOf, .initialized RX0, .code yX0_actorOf cX0_actorOf 1 (some .int), .methodLink RX0 120 yX0_removeWaiting, .instanceMethod yX0_removeWaiting, .selects RX0 yX0_removeWaiting yX0_removeWaiting, .code yX0_removeWaiting cX0_removeWaiting 3 none, .fieldLink RX0 30 "CausalGate" "waitCount" "I", .methodLink RX0 109 yX0_moveWaiting, .instanceMethod yX0_moveWaiting, .selects RX0 yX0_moveWaiting yX0_moveWaiting, .code yX0_moveWaiting cX0_moveWaiting 3 none, .fieldLink RX0 19 "CausalGate" "waitClocks" "[J"] ++ wsX00)
def wsX0_letThroughAllThatCan_r1 : List Cond := [Cond.methodLink RX0 113 yX0_firstThatCanComeThrough, Cond.instanceMethod yX0_firstThatCanComeThrough, Cond.selects RX0 yX0_firstThatCanComeThrough yX0_firstThatCanComeThrough, Cond.initialized RX0, Cond.code yX0_firstThatCanComeThrough cX0_firstThatCanComeThrough 2 (some .int), Cond.fieldLink RX0 30 "CausalGate" "waitCount" "I", Cond.fieldLink RX0 16 "CausalGate" "waitKeys" "[I", Cond.fieldLink RX0 19 "CausalGate" "waitClocks" "[J", Cond.methodLink RX0 64 yX0_canComeThrough, Cond.instanceMethod yX0_canComeThrough, Cond.selects RX0 yX0_canComeThrough yX0_canComeThrough, Cond.code yX0_canComeThrough cX0_canComeThrough 4 (some .boolean), Cond.fieldLink RX0 26 "CausalGate" "throughCount" "I", Cond.methodLink RX0 98 yX0_lackedActor, Cond.instanceMethod yX0_lackedActor, Cond.selects RX0 yX0_lackedActor yX0_lackedActor, Cond.code yX0_lackedActor cX0_lackedActor 6 (some .int), Cond.fieldLink RX0 33 "CausalGate" "gateClock" "J", Cond.methodLink RX0 91 yX0_actorOf, Cond.static yX0_actorOf, Cond.code yX0_actorOf cX0_actorOf 1 (some .int), Cond.methodLink RX0 95 yX0_seqOf, Cond.static yX0_seqOf, Cond.code yX0_seqOf cX0_seqOf 1 (some .int)]
def wsX0_letThroughAllThatCan_r2 : List Cond := [Cond.methodLink RX0 102 yX0_nextSeq, Cond.instanceMethod yX0_nextSeq, Cond.selects RX0 yX0_nextSeq yX0_nextSeq, Cond.code yX0_nextSeq cX0_nextSeq 2 (some .int), Cond.methodLink RX0 105 yX0_byteOf, Cond.static yX0_byteOf, Cond.code yX0_byteOf cX0_byteOf 3 (some .int), Cond.methodLink RX0 116 yX0_letThrough, Cond.instanceMethod yX0_letThrough, Cond.selects RX0 yX0_letThrough yX0_letThrough, Cond.code yX0_letThrough cX0_letThrough 2 none, Cond.fieldLink RX0 9 "CausalGate" "throughKeys" "[I", Cond.fieldLink RX0 13 "CausalGate" "throughLabels" "[I", Cond.fieldLink RX0 23 "CausalGate" "waitLabels" "[I", Cond.methodLink RX0 120 yX0_removeWaiting, Cond.instanceMethod yX0_removeWaiting, Cond.selects RX0 yX0_removeWaiting yX0_removeWaiting, Cond.code yX0_removeWaiting cX0_removeWaiting 3 none, Cond.methodLink RX0 109 yX0_moveWaiting, Cond.instanceMethod yX0_moveWaiting, Cond.selects RX0 yX0_moveWaiting yX0_moveWaiting, Cond.code yX0_moveWaiting cX0_moveWaiting 3 none]
def wsX0_letThroughAllThatCan : List Cond := .code yX0_letThroughAllThatCan cX0_letThroughAllThatCan 3 (some .int) :: ((wsX0_letThroughAllThatCan_r1 ++ wsX0_letThroughAllThatCan_r2) ++ wsX00)
def wsX0_offer_r1 : List Cond := [Cond.classLink RX0 50 "java/lang/IllegalArgumentException", Cond.initialized "java/lang/IllegalArgumentException", Cond.classLink RX0 68 "java/lang/IllegalStateException", Cond.initialized "java/lang/IllegalStateException", Cond.fieldLink RX0 37 "CausalGate" "knownOffers" "I", Cond.fieldLink RX0 30 "CausalGate" "waitCount" "I", Cond.fieldLink RX0 40 "CausalGate" "mostWaited" "I", Cond.methodLink RX0 81 Lib.Math.max.name, Cond.static Lib.Math.max.name, Cond.initialized "java/lang/Math", Cond.code Lib.Math.max.name Lib.Math.max.code 2 (some .int), Cond.methodLink RX0 43 yX0_isActor, Cond.static yX0_isActor, Cond.initialized RX0, Cond.code yX0_isActor cX0_isActor 1 (some .boolean), Cond.methodLink RX0 47 yX0_isSeq, Cond.static yX0_isSeq, Cond.code yX0_isSeq cX0_isSeq 1 (some .boolean), Cond.methodLink RX0 57 yX0_keyOf, Cond.static yX0_keyOf, Cond.code yX0_keyOf cX0_keyOf 2 (some .int), Cond.methodLink RX0 61 yX0_isKnown, Cond.instanceMethod yX0_isKnown, Cond.selects RX0 yX0_isKnown yX0_isKnown]
def wsX0_offer_r2 : List Cond := [Cond.code yX0_isKnown cX0_isKnown 3 (some .boolean), Cond.fieldLink RX0 16 "CausalGate" "waitKeys" "[I", Cond.methodLink RX0 95 yX0_seqOf, Cond.static yX0_seqOf, Cond.code yX0_seqOf cX0_seqOf 1 (some .int), Cond.methodLink RX0 91 yX0_actorOf, Cond.static yX0_actorOf, Cond.code yX0_actorOf cX0_actorOf 1 (some .int), Cond.methodLink RX0 102 yX0_nextSeq, Cond.instanceMethod yX0_nextSeq, Cond.selects RX0 yX0_nextSeq yX0_nextSeq, Cond.code yX0_nextSeq cX0_nextSeq 2 (some .int), Cond.fieldLink RX0 33 "CausalGate" "gateClock" "J", Cond.methodLink RX0 105 yX0_byteOf, Cond.static yX0_byteOf, Cond.code yX0_byteOf cX0_byteOf 3 (some .int), Cond.methodLink RX0 64 yX0_canComeThrough, Cond.instanceMethod yX0_canComeThrough, Cond.selects RX0 yX0_canComeThrough yX0_canComeThrough, Cond.code yX0_canComeThrough cX0_canComeThrough 4 (some .boolean), Cond.fieldLink RX0 26 "CausalGate" "throughCount" "I", Cond.methodLink RX0 98 yX0_lackedActor, Cond.instanceMethod yX0_lackedActor, Cond.selects RX0 yX0_lackedActor yX0_lackedActor]
def wsX0_offer_r3 : List Cond := [Cond.code yX0_lackedActor cX0_lackedActor 6 (some .int), Cond.methodLink RX0 73 yX0_insertWaiting, Cond.instanceMethod yX0_insertWaiting, Cond.selects RX0 yX0_insertWaiting yX0_insertWaiting, Cond.code yX0_insertWaiting cX0_insertWaiting 6 none, Cond.fieldLink RX0 19 "CausalGate" "waitClocks" "[J", Cond.fieldLink RX0 23 "CausalGate" "waitLabels" "[I", Cond.methodLink RX0 109 yX0_moveWaiting, Cond.instanceMethod yX0_moveWaiting, Cond.selects RX0 yX0_moveWaiting yX0_moveWaiting, Cond.code yX0_moveWaiting cX0_moveWaiting 3 none, Cond.methodLink RX0 77 yX0_letThroughAllThatCan, Cond.instanceMethod yX0_letThroughAllThatCan, Cond.selects RX0 yX0_letThroughAllThatCan yX0_letThroughAllThatCan, Cond.code yX0_letThroughAllThatCan cX0_letThroughAllThatCan 3 (some .int), Cond.methodLink RX0 113 yX0_firstThatCanComeThrough, Cond.instanceMethod yX0_firstThatCanComeThrough, Cond.selects RX0 yX0_firstThatCanComeThrough yX0_firstThatCanComeThrough, Cond.code yX0_firstThatCanComeThrough cX0_firstThatCanComeThrough 2 (some .int), Cond.methodLink RX0 116 yX0_letThrough, Cond.instanceMethod yX0_letThrough, Cond.selects RX0 yX0_letThrough yX0_letThrough, Cond.code yX0_letThrough cX0_letThrough 2 none, Cond.fieldLink RX0 9 "CausalGate" "throughKeys" "[I"]
def wsX0_offer_r4 : List Cond := [Cond.fieldLink RX0 13 "CausalGate" "throughLabels" "[I", Cond.methodLink RX0 120 yX0_removeWaiting, Cond.instanceMethod yX0_removeWaiting, Cond.selects RX0 yX0_removeWaiting yX0_removeWaiting, Cond.code yX0_removeWaiting cX0_removeWaiting 3 none]
def wsX0_offer : List Cond := .code yX0_offer cX0_offer 8 (some .int) :: ((wsX0_offer_r1 ++ (wsX0_offer_r2 ++ (wsX0_offer_r3 ++ wsX0_offer_r4))) ++ wsX00 ++ (vx_atS RX0 54 "java/lang/IllegalArgumentException" ["java/lang/RuntimeException", "java/lang/Exception"]).filter goodWord ++ (vx_atS RX0 72 "java/lang/IllegalStateException" ["java/lang/RuntimeException", "java/lang/Exception"]).filter goodWord)
def wsX0_known_r1 : List Cond := [Cond.methodLink RX0 43 yX0_isActor, Cond.static yX0_isActor, Cond.initialized RX0, Cond.code yX0_isActor cX0_isActor 1 (some .boolean), Cond.methodLink RX0 47 yX0_isSeq, Cond.static yX0_isSeq, Cond.code yX0_isSeq cX0_isSeq 1 (some .boolean), Cond.methodLink RX0 57 yX0_keyOf, Cond.static yX0_keyOf, Cond.code yX0_keyOf cX0_keyOf 2 (some .int), Cond.methodLink RX0 61 yX0_isKnown, Cond.instanceMethod yX0_isKnown, Cond.selects RX0 yX0_isKnown yX0_isKnown, Cond.code yX0_isKnown cX0_isKnown 3 (some .boolean), Cond.fieldLink RX0 30 "CausalGate" "waitCount" "I", Cond.fieldLink RX0 16 "CausalGate" "waitKeys" "[I", Cond.methodLink RX0 95 yX0_seqOf, Cond.static yX0_seqOf, Cond.code yX0_seqOf cX0_seqOf 1 (some .int), Cond.methodLink RX0 91 yX0_actorOf, Cond.static yX0_actorOf, Cond.code yX0_actorOf cX0_actorOf 1 (some .int), Cond.methodLink RX0 102 yX0_nextSeq, Cond.instanceMethod yX0_nextSeq]
def wsX0_known_r2 : List Cond := [Cond.selects RX0 yX0_nextSeq yX0_nextSeq, Cond.code yX0_nextSeq cX0_nextSeq 2 (some .int), Cond.fieldLink RX0 33 "CausalGate" "gateClock" "J", Cond.methodLink RX0 105 yX0_byteOf, Cond.static yX0_byteOf, Cond.code yX0_byteOf cX0_byteOf 3 (some .int)]
def wsX0_known : List Cond := .code yX0_known cX0_known 3 (some .boolean) :: ((wsX0_known_r1 ++ wsX0_known_r2) ++ wsX00)
def wsX0_clock : List Cond := .code yX0_clock cX0_clock 1 (some .long) :: ([.fieldLink RX0 33 "CausalGate" "gateClock" "J"] ++ wsX00)
def wsX0_ahead : List Cond := .code yX0_ahead cX0_ahead 5 (some .int) :: ([.fieldLink RX0 33 "CausalGate" "gateClock" "J", .methodLink RX0 81 Lib.Math.max.name, .static Lib.Math.max.name, .initialized "java/lang/Math", .code Lib.Math.max.name Lib.Math.max.code 2 (some .int), .methodLink RX0 105 yX0_byteOf, .static yX0_byteOf, .initialized RX0, .code yX0_byteOf cX0_byteOf 3 (some .int)] ++ wsX00)
def wsX0_next : List Cond := .code yX0_next cX0_next 6 (some .int) :: ([.fieldLink RX0 26 "CausalGate" "throughCount" "I", .methodLink RX0 81 Lib.Math.max.name, .static Lib.Math.max.name, .initialized "java/lang/Math", .code Lib.Math.max.name Lib.Math.max.code 2 (some .int), .fieldLink RX0 9 "CausalGate" "throughKeys" "[I", .methodLink RX0 95 yX0_seqOf, .static yX0_seqOf, .initialized RX0, .code yX0_seqOf cX0_seqOf 1 (some .int), .methodLink RX0 91 yX0_actorOf, .static yX0_actorOf, .code yX0_actorOf cX0_actorOf 1 (some .int), .methodLink RX0 105 yX0_byteOf, .static yX0_byteOf, .code yX0_byteOf cX0_byteOf 3 (some .int)] ++ wsX00)
def wsX0_compare : List Cond := .code yX0_compare cX0_compare 8 (some .int) :: ([.fieldLink RX0 33 "CausalGate" "gateClock" "J", .methodLink RX0 105 yX0_byteOf, .static yX0_byteOf, .initialized RX0, .code yX0_byteOf cX0_byteOf 3 (some .int)] ++ wsX00)
def wsX0_forget : List Cond := .code yX0_forget cX0_forget 4 (some .int) :: ([.fieldLink RX0 30 "CausalGate" "waitCount" "I", .fieldLink RX0 16 "CausalGate" "waitKeys" "[I", .methodLink RX0 91 yX0_actorOf, .static yX0_actorOf, .initialized RX0, .code yX0_actorOf cX0_actorOf 1 (some .int), .methodLink RX0 109 yX0_moveWaiting, .instanceMethod yX0_moveWaiting, .selects RX0 yX0_moveWaiting yX0_moveWaiting, .code yX0_moveWaiting cX0_moveWaiting 3 none, .fieldLink RX0 19 "CausalGate" "waitClocks" "[J", .fieldLink RX0 23 "CausalGate" "waitLabels" "[I"] ++ wsX00)
def wsX0_look : List Cond := .code yX0_look cX0_look 2 (some .int) :: ([.fieldLink RX0 26 "CausalGate" "throughCount" "I", .fieldLink RX0 30 "CausalGate" "waitCount" "I", .fieldLink RX0 37 "CausalGate" "knownOffers" "I", .fieldLink RX0 40 "CausalGate" "mostWaited" "I"] ++ wsX00)
def wsL_offer_r1 : List Cond := [Cond.classLink RL 13 "java/lang/IllegalArgumentException", Cond.classLink RL 15 "java/lang/IllegalStateException", Cond.methodLink RL 7 yX0_offer, Cond.instanceMethod yX0_offer, Cond.selects RX0 yX0_offer yX0_offer, Cond.initialized RX0, Cond.code yX0_offer cX0_offer 8 (some .int), Cond.classLink RX0 50 "java/lang/IllegalArgumentException", Cond.initialized "java/lang/IllegalArgumentException", Cond.classLink RX0 68 "java/lang/IllegalStateException", Cond.initialized "java/lang/IllegalStateException", Cond.fieldLink RX0 37 "CausalGate" "knownOffers" "I", Cond.fieldLink RX0 30 "CausalGate" "waitCount" "I", Cond.fieldLink RX0 40 "CausalGate" "mostWaited" "I", Cond.methodLink RX0 81 Lib.Math.max.name, Cond.static Lib.Math.max.name, Cond.initialized "java/lang/Math", Cond.code Lib.Math.max.name Lib.Math.max.code 2 (some .int), Cond.methodLink RX0 43 yX0_isActor, Cond.static yX0_isActor, Cond.code yX0_isActor cX0_isActor 1 (some .boolean), Cond.methodLink RX0 47 yX0_isSeq, Cond.static yX0_isSeq, Cond.code yX0_isSeq cX0_isSeq 1 (some .boolean)]
def wsL_offer_r2 : List Cond := [Cond.methodLink RX0 57 yX0_keyOf, Cond.static yX0_keyOf, Cond.code yX0_keyOf cX0_keyOf 2 (some .int), Cond.methodLink RX0 61 yX0_isKnown, Cond.instanceMethod yX0_isKnown, Cond.selects RX0 yX0_isKnown yX0_isKnown, Cond.code yX0_isKnown cX0_isKnown 3 (some .boolean), Cond.fieldLink RX0 16 "CausalGate" "waitKeys" "[I", Cond.methodLink RX0 95 yX0_seqOf, Cond.static yX0_seqOf, Cond.code yX0_seqOf cX0_seqOf 1 (some .int), Cond.methodLink RX0 91 yX0_actorOf, Cond.static yX0_actorOf, Cond.code yX0_actorOf cX0_actorOf 1 (some .int), Cond.methodLink RX0 102 yX0_nextSeq, Cond.instanceMethod yX0_nextSeq, Cond.selects RX0 yX0_nextSeq yX0_nextSeq, Cond.code yX0_nextSeq cX0_nextSeq 2 (some .int), Cond.fieldLink RX0 33 "CausalGate" "gateClock" "J", Cond.methodLink RX0 105 yX0_byteOf, Cond.static yX0_byteOf, Cond.code yX0_byteOf cX0_byteOf 3 (some .int), Cond.methodLink RX0 64 yX0_canComeThrough, Cond.instanceMethod yX0_canComeThrough]
def wsL_offer_r3 : List Cond := [Cond.selects RX0 yX0_canComeThrough yX0_canComeThrough, Cond.code yX0_canComeThrough cX0_canComeThrough 4 (some .boolean), Cond.fieldLink RX0 26 "CausalGate" "throughCount" "I", Cond.methodLink RX0 98 yX0_lackedActor, Cond.instanceMethod yX0_lackedActor, Cond.selects RX0 yX0_lackedActor yX0_lackedActor, Cond.code yX0_lackedActor cX0_lackedActor 6 (some .int), Cond.methodLink RX0 73 yX0_insertWaiting, Cond.instanceMethod yX0_insertWaiting, Cond.selects RX0 yX0_insertWaiting yX0_insertWaiting, Cond.code yX0_insertWaiting cX0_insertWaiting 6 none, Cond.fieldLink RX0 19 "CausalGate" "waitClocks" "[J", Cond.fieldLink RX0 23 "CausalGate" "waitLabels" "[I", Cond.methodLink RX0 109 yX0_moveWaiting, Cond.instanceMethod yX0_moveWaiting, Cond.selects RX0 yX0_moveWaiting yX0_moveWaiting, Cond.code yX0_moveWaiting cX0_moveWaiting 3 none, Cond.methodLink RX0 77 yX0_letThroughAllThatCan, Cond.instanceMethod yX0_letThroughAllThatCan, Cond.selects RX0 yX0_letThroughAllThatCan yX0_letThroughAllThatCan, Cond.code yX0_letThroughAllThatCan cX0_letThroughAllThatCan 3 (some .int), Cond.methodLink RX0 113 yX0_firstThatCanComeThrough, Cond.instanceMethod yX0_firstThatCanComeThrough, Cond.selects RX0 yX0_firstThatCanComeThrough yX0_firstThatCanComeThrough]
def wsL_offer_r4 : List Cond := [Cond.code yX0_firstThatCanComeThrough cX0_firstThatCanComeThrough 2 (some .int), Cond.methodLink RX0 116 yX0_letThrough, Cond.instanceMethod yX0_letThrough, Cond.selects RX0 yX0_letThrough yX0_letThrough, Cond.code yX0_letThrough cX0_letThrough 2 none, Cond.fieldLink RX0 9 "CausalGate" "throughKeys" "[I", Cond.fieldLink RX0 13 "CausalGate" "throughLabels" "[I", Cond.methodLink RX0 120 yX0_removeWaiting, Cond.instanceMethod yX0_removeWaiting, Cond.selects RX0 yX0_removeWaiting yX0_removeWaiting, Cond.code yX0_removeWaiting cX0_removeWaiting 3 none]
def wsL_offer : List Cond := .codeWith yL_offer cL_offer 8 (some .int) [(0, 14, 17, 13), (0, 14, 21, 15)] :: ((wsL_offer_r1 ++ (wsL_offer_r2 ++ (wsL_offer_r3 ++ wsL_offer_r4))) ++ wsX00 ++ (vx_atS RX0 54 "java/lang/IllegalArgumentException" ["java/lang/RuntimeException", "java/lang/Exception"]).filter goodWord ++ (vx_atS RX0 72 "java/lang/IllegalStateException" ["java/lang/RuntimeException", "java/lang/Exception"]).filter goodWord)
theorem dX0_init_0 : decode cX0_init 0 = .ok (.aload_n 0, 1) := by decide +kernel
theorem dX0_init_1 : decode cX0_init 1 = .ok (.invokespecial 3, 3) := by decide +kernel
theorem dX0_init_4 : decode cX0_init 4 = .ok (.aload_n 0, 1) := by decide +kernel
theorem dX0_init_5 : decode cX0_init 5 = .ok (.sipush 512, 3) := by decide +kernel
theorem dX0_init_8 : decode cX0_init 8 = .ok (.newarray .int, 2) := by decide +kernel
theorem dX0_init_10 : decode cX0_init 10 = .ok (.putfield 9, 3) := by decide +kernel
theorem dX0_init_13 : decode cX0_init 13 = .ok (.aload_n 0, 1) := by decide +kernel
theorem dX0_init_14 : decode cX0_init 14 = .ok (.sipush 512, 3) := by decide +kernel
theorem dX0_init_17 : decode cX0_init 17 = .ok (.newarray .int, 2) := by decide +kernel
theorem dX0_init_19 : decode cX0_init 19 = .ok (.putfield 13, 3) := by decide +kernel
theorem dX0_init_22 : decode cX0_init 22 = .ok (.aload_n 0, 1) := by decide +kernel
theorem dX0_init_23 : decode cX0_init 23 = .ok (.bipush 65, 2) := by decide +kernel
theorem dX0_init_25 : decode cX0_init 25 = .ok (.newarray .int, 2) := by decide +kernel
theorem dX0_init_27 : decode cX0_init 27 = .ok (.putfield 16, 3) := by decide +kernel
theorem dX0_init_30 : decode cX0_init 30 = .ok (.aload_n 0, 1) := by decide +kernel
theorem dX0_init_31 : decode cX0_init 31 = .ok (.bipush 65, 2) := by decide +kernel
theorem dX0_init_33 : decode cX0_init 33 = .ok (.newarray .long, 2) := by decide +kernel
theorem dX0_init_35 : decode cX0_init 35 = .ok (.putfield 19, 3) := by decide +kernel
theorem dX0_init_38 : decode cX0_init 38 = .ok (.aload_n 0, 1) := by decide +kernel
theorem dX0_init_39 : decode cX0_init 39 = .ok (.bipush 65, 2) := by decide +kernel
theorem dX0_init_41 : decode cX0_init 41 = .ok (.newarray .int, 2) := by decide +kernel
theorem dX0_init_43 : decode cX0_init 43 = .ok (.putfield 23, 3) := by decide +kernel
theorem dX0_init_46 : decode cX0_init 46 = .ok (.return_, 1) := by decide +kernel
theorem dX0_clear_0 : decode cX0_clear 0 = .ok (.aload_n 0, 1) := by decide +kernel
theorem dX0_clear_1 : decode cX0_clear 1 = .ok (.iconst 0, 1) := by decide +kernel
theorem dX0_clear_2 : decode cX0_clear 2 = .ok (.putfield 26, 3) := by decide +kernel
theorem dX0_clear_5 : decode cX0_clear 5 = .ok (.aload_n 0, 1) := by decide +kernel
theorem dX0_clear_6 : decode cX0_clear 6 = .ok (.iconst 0, 1) := by decide +kernel
theorem dX0_clear_7 : decode cX0_clear 7 = .ok (.putfield 30, 3) := by decide +kernel
theorem dX0_clear_10 : decode cX0_clear 10 = .ok (.aload_n 0, 1) := by decide +kernel
theorem dX0_clear_11 : decode cX0_clear 11 = .ok (.lconst 0, 1) := by decide +kernel
theorem dX0_clear_12 : decode cX0_clear 12 = .ok (.putfield 33, 3) := by decide +kernel
theorem dX0_clear_15 : decode cX0_clear 15 = .ok (.aload_n 0, 1) := by decide +kernel
theorem dX0_clear_16 : decode cX0_clear 16 = .ok (.iconst 0, 1) := by decide +kernel
theorem dX0_clear_17 : decode cX0_clear 17 = .ok (.putfield 37, 3) := by decide +kernel
theorem dX0_clear_20 : decode cX0_clear 20 = .ok (.aload_n 0, 1) := by decide +kernel
theorem dX0_clear_21 : decode cX0_clear 21 = .ok (.iconst 0, 1) := by decide +kernel
theorem dX0_clear_22 : decode cX0_clear 22 = .ok (.putfield 40, 3) := by decide +kernel
theorem dX0_clear_25 : decode cX0_clear 25 = .ok (.return_, 1) := by decide +kernel
set_option maxRecDepth 20000 in
theorem ggX0_offer_X0_isActor : GoodIn wsX0_offer wsX0_isActor := goodIn_r _ [15] (by decide +kernel) (by decide +kernel)
set_option maxRecDepth 20000 in
theorem gX0_offer_X0_isActor : GoodIn wsX0_offer (va_wsS RX0 43 yX0_isActor wsX0_isActor) := goodIn_app (goodIn_of _ (by decide +kernel)) ggX0_offer_X0_isActor
set_option maxRecDepth 20000 in
theorem ggX0_offer_X0_isSeq : GoodIn wsX0_offer wsX0_isSeq := goodIn_r _ [18] (by decide +kernel) (by decide +kernel)
set_option maxRecDepth 20000 in
theorem gX0_offer_X0_isSeq : GoodIn wsX0_offer (va_wsS RX0 47 yX0_isSeq wsX0_isSeq) := goodIn_app (goodIn_of _ (by decide +kernel)) ggX0_offer_X0_isSeq
set_option maxRecDepth 20000 in
theorem ggX0_offer_X0_keyOf : GoodIn wsX0_offer wsX0_keyOf := goodIn_r _ [21] (by decide +kernel) (by decide +kernel)
set_option maxRecDepth 20000 in
theorem gX0_offer_X0_keyOf : GoodIn wsX0_offer (va_wsS RX0 57 yX0_keyOf wsX0_keyOf) := goodIn_app (goodIn_of _ (by decide +kernel)) ggX0_offer_X0_keyOf
set_option maxRecDepth 20000 in
theorem ggX0_offer_X0_isKnown : GoodIn wsX0_offer wsX0_isKnown := goodIn_r _ [25, 6, 26, 27, 28, 14, 29, 30, 31, 32, 33, 34, 35, 36, 37, 38, 39, 40, 78, 79, 80, 81, 82, 83, 84, 85, 86, 87] (by decide +kernel) (by decide +kernel)
set_option maxRecDepth 20000 in
theorem gX0_offer_X0_isKnown : GoodIn wsX0_offer (wsV RX0 61 RX0 yX0_isKnown wsX0_isKnown) := goodIn_app (goodIn_of _ (by decide +kernel)) ggX0_offer_X0_isKnown
set_option maxRecDepth 20000 in
theorem ggX0_offer_X0_canComeThrough : GoodIn wsX0_offer wsX0_canComeThrough := goodIn_r _ [44, 45, 46, 47, 48, 14, 49, 37, 30, 31, 32, 27, 28, 29, 33, 34, 35, 36, 38, 39, 40, 78, 79, 80, 81, 82, 83, 84, 85, 86, 87] (by decide +kernel) (by decide +kernel)
set_option maxRecDepth 20000 in
theorem gX0_offer_X0_canComeThrough : GoodIn wsX0_offer (wsV RX0 64 RX0 yX0_canComeThrough wsX0_canComeThrough) := goodIn_app (goodIn_of _ (by decide +kernel)) ggX0_offer_X0_canComeThrough
set_option maxRecDepth 20000 in
theorem ggX0_offer_X0_insertWaiting : GoodIn wsX0_offer wsX0_insertWaiting := goodIn_r _ [53, 6, 26, 54, 55, 56, 57, 58, 14, 59, 78, 79, 80, 81, 82, 83, 84, 85, 86, 87] (by decide +kernel) (by decide +kernel)
set_option maxRecDepth 20000 in
theorem gX0_offer_X0_insertWaiting : GoodIn wsX0_offer (wsV RX0 73 RX0 yX0_insertWaiting wsX0_insertWaiting) := goodIn_app (goodIn_of _ (by decide +kernel)) ggX0_offer_X0_insertWaiting
set_option maxRecDepth 20000 in
theorem ggX0_offer_X0_letThroughAllThatCan : GoodIn wsX0_offer wsX0_letThroughAllThatCan := goodIn_r _ [63, 64, 65, 66, 14, 67, 6, 26, 54, 41, 42, 43, 44, 45, 46, 47, 48, 49, 37, 30, 31, 32, 27, 28, 29, 33, 34, 35, 36, 38, 39, 40, 68, 69, 70, 71, 72, 73, 55, 74, 75, 76, 77, 56, 57, 58, 59, 78, 79, 80, 81, 82, 83, 84, 85, 86, 87] (by decide +kernel) (by decide +kernel)
set_option maxRecDepth 20000 in
theorem gX0_offer_X0_letThroughAllThatCan : GoodIn wsX0_offer (wsV RX0 77 RX0 yX0_letThroughAllThatCan wsX0_letThroughAllThatCan) := goodIn_app (goodIn_of _ (by decide +kernel)) ggX0_offer_X0_letThroughAllThatCan
theorem dX0_offer_0 : decode cX0_offer 0 = .ok (.iload_n 1, 1) := by decide +kernel
theorem dX0_offer_1 : decode cX0_offer 1 = .ok (.invokestatic 43, 3) := by decide +kernel
theorem dX0_offer_4 : decode cX0_offer 4 = .ok (.ifCond .eq 10, 3) := by decide +kernel
theorem dX0_offer_7 : decode cX0_offer 7 = .ok (.iload_n 2, 1) := by decide +kernel
theorem dX0_offer_8 : decode cX0_offer 8 = .ok (.invokestatic 47, 3) := by decide +kernel
theorem dX0_offer_11 : decode cX0_offer 11 = .ok (.ifCond .ne 13, 3) := by decide +kernel
theorem dX0_offer_14 : decode cX0_offer 14 = .ok (.new 50, 3) := by decide +kernel
theorem dX0_offer_17 : decode cX0_offer 17 = .ok (.dup, 1) := by decide +kernel
theorem dX0_offer_18 : decode cX0_offer 18 = .ok (.ldc 52, 2) := by decide +kernel
theorem dX0_offer_20 : decode cX0_offer 20 = .ok (.invokespecial 54, 3) := by decide +kernel
theorem dX0_offer_23 : decode cX0_offer 23 = .ok (.athrow, 1) := by decide +kernel
theorem dX0_offer_24 : decode cX0_offer 24 = .ok (.iload_n 1, 1) := by decide +kernel
theorem dX0_offer_25 : decode cX0_offer 25 = .ok (.iload_n 2, 1) := by decide +kernel
theorem dX0_offer_26 : decode cX0_offer 26 = .ok (.invokestatic 57, 3) := by decide +kernel
theorem dX0_offer_29 : decode cX0_offer 29 = .ok (.istore 6, 2) := by decide +kernel
theorem dX0_offer_31 : decode cX0_offer 31 = .ok (.aload_n 0, 1) := by decide +kernel
theorem dX0_offer_32 : decode cX0_offer 32 = .ok (.iload 6, 2) := by decide +kernel
theorem dX0_offer_34 : decode cX0_offer 34 = .ok (.invokevirtual 61, 3) := by decide +kernel
theorem dX0_offer_37 : decode cX0_offer 37 = .ok (.ifCond .eq 15, 3) := by decide +kernel
theorem dX0_offer_40 : decode cX0_offer 40 = .ok (.aload_n 0, 1) := by decide +kernel
theorem dX0_offer_41 : decode cX0_offer 41 = .ok (.dup, 1) := by decide +kernel
theorem dX0_offer_42 : decode cX0_offer 42 = .ok (.getfield 37, 3) := by decide +kernel
theorem dX0_offer_45 : decode cX0_offer 45 = .ok (.iconst 1, 1) := by decide +kernel
theorem dX0_offer_46 : decode cX0_offer 46 = .ok (.iadd, 1) := by decide +kernel
theorem dX0_offer_47 : decode cX0_offer 47 = .ok (.putfield 37, 3) := by decide +kernel
theorem dX0_offer_50 : decode cX0_offer 50 = .ok (.iconst 0, 1) := by decide +kernel
theorem dX0_offer_51 : decode cX0_offer 51 = .ok (.ireturn, 1) := by decide +kernel
theorem dX0_offer_52 : decode cX0_offer 52 = .ok (.aload_n 0, 1) := by decide +kernel
theorem dX0_offer_53 : decode cX0_offer 53 = .ok (.getfield 30, 3) := by decide +kernel
theorem dX0_offer_56 : decode cX0_offer 56 = .ok (.bipush 64, 2) := by decide +kernel
theorem dX0_offer_58 : decode cX0_offer 58 = .ok (.if_icmp .lt 23, 3) := by decide +kernel
theorem dX0_offer_61 : decode cX0_offer 61 = .ok (.aload_n 0, 1) := by decide +kernel
theorem dX0_offer_62 : decode cX0_offer 62 = .ok (.iload 6, 2) := by decide +kernel
theorem dX0_offer_64 : decode cX0_offer 64 = .ok (.lload_n 3, 1) := by decide +kernel
theorem dX0_offer_65 : decode cX0_offer 65 = .ok (.invokevirtual 64, 3) := by decide +kernel
theorem dX0_offer_68 : decode cX0_offer 68 = .ok (.ifCond .ne 13, 3) := by decide +kernel
theorem dX0_offer_71 : decode cX0_offer 71 = .ok (.new 68, 3) := by decide +kernel
theorem dX0_offer_74 : decode cX0_offer 74 = .ok (.dup, 1) := by decide +kernel
theorem dX0_offer_75 : decode cX0_offer 75 = .ok (.ldc 70, 2) := by decide +kernel
theorem dX0_offer_77 : decode cX0_offer 77 = .ok (.invokespecial 72, 3) := by decide +kernel
theorem dX0_offer_80 : decode cX0_offer 80 = .ok (.athrow, 1) := by decide +kernel
theorem dX0_offer_81 : decode cX0_offer 81 = .ok (.aload_n 0, 1) := by decide +kernel
theorem dX0_offer_82 : decode cX0_offer 82 = .ok (.iload 6, 2) := by decide +kernel
theorem dX0_offer_84 : decode cX0_offer 84 = .ok (.lload_n 3, 1) := by decide +kernel
theorem dX0_offer_85 : decode cX0_offer 85 = .ok (.iload 5, 2) := by decide +kernel
theorem dX0_offer_87 : decode cX0_offer 87 = .ok (.invokevirtual 73, 3) := by decide +kernel
theorem dX0_offer_90 : decode cX0_offer 90 = .ok (.aload_n 0, 1) := by decide +kernel
theorem dX0_offer_91 : decode cX0_offer 91 = .ok (.invokevirtual 77, 3) := by decide +kernel
theorem dX0_offer_94 : decode cX0_offer 94 = .ok (.istore 7, 2) := by decide +kernel
theorem dX0_offer_96 : decode cX0_offer 96 = .ok (.aload_n 0, 1) := by decide +kernel
theorem dX0_offer_97 : decode cX0_offer 97 = .ok (.aload_n 0, 1) := by decide +kernel
theorem dX0_offer_98 : decode cX0_offer 98 = .ok (.getfield 40, 3) := by decide +kernel
theorem dX0_offer_101 : decode cX0_offer 101 = .ok (.aload_n 0, 1) := by decide +kernel
theorem dX0_offer_102 : decode cX0_offer 102 = .ok (.getfield 30, 3) := by decide +kernel
theorem dX0_offer_105 : decode cX0_offer 105 = .ok (.invokestatic 81, 3) := by decide +kernel
theorem dX0_offer_108 : decode cX0_offer 108 = .ok (.putfield 40, 3) := by decide +kernel
theorem dX0_offer_111 : decode cX0_offer 111 = .ok (.iload 7, 2) := by decide +kernel
theorem dX0_offer_113 : decode cX0_offer 113 = .ok (.ireturn, 1) := by decide +kernel
set_option maxRecDepth 20000 in
theorem ggX0_known_X0_isActor : GoodIn wsX0_known wsX0_isActor := goodIn_r _ [4] (by decide +kernel) (by decide +kernel)
set_option maxRecDepth 20000 in
theorem gX0_known_X0_isActor : GoodIn wsX0_known (va_wsS RX0 43 yX0_isActor wsX0_isActor) := goodIn_app (goodIn_of _ (by decide +kernel)) ggX0_known_X0_isActor
set_option maxRecDepth 20000 in
theorem ggX0_known_X0_isSeq : GoodIn wsX0_known wsX0_isSeq := goodIn_r _ [7] (by decide +kernel) (by decide +kernel)
set_option maxRecDepth 20000 in
theorem gX0_known_X0_isSeq : GoodIn wsX0_known (va_wsS RX0 47 yX0_isSeq wsX0_isSeq) := goodIn_app (goodIn_of _ (by decide +kernel)) ggX0_known_X0_isSeq
set_option maxRecDepth 20000 in
theorem ggX0_known_X0_keyOf : GoodIn wsX0_known wsX0_keyOf := goodIn_r _ [10] (by decide +kernel) (by decide +kernel)
set_option maxRecDepth 20000 in
theorem gX0_known_X0_keyOf : GoodIn wsX0_known (va_wsS RX0 57 yX0_keyOf wsX0_keyOf) := goodIn_app (goodIn_of _ (by decide +kernel)) ggX0_known_X0_keyOf
set_option maxRecDepth 20000 in
theorem ggX0_known_X0_isKnown : GoodIn wsX0_known wsX0_isKnown := goodIn_r _ [14, 15, 16, 17, 18, 3, 19, 20, 21, 22, 23, 24, 25, 26, 27, 28, 29, 30, 31, 32, 33, 34, 35, 36, 37, 38, 39, 40] (by decide +kernel) (by decide +kernel)
set_option maxRecDepth 20000 in
theorem gX0_known_X0_isKnown : GoodIn wsX0_known (wsV RX0 61 RX0 yX0_isKnown wsX0_isKnown) := goodIn_app (goodIn_of _ (by decide +kernel)) ggX0_known_X0_isKnown
theorem dX0_known_0 : decode cX0_known 0 = .ok (.iload_n 1, 1) := by decide +kernel
theorem dX0_known_1 : decode cX0_known 1 = .ok (.invokestatic 43, 3) := by decide +kernel
theorem dX0_known_4 : decode cX0_known 4 = .ok (.ifCond .eq 26, 3) := by decide +kernel
theorem dX0_known_7 : decode cX0_known 7 = .ok (.iload_n 2, 1) := by decide +kernel
theorem dX0_known_8 : decode cX0_known 8 = .ok (.invokestatic 47, 3) := by decide +kernel
theorem dX0_known_11 : decode cX0_known 11 = .ok (.ifCond .eq 19, 3) := by decide +kernel
theorem dX0_known_14 : decode cX0_known 14 = .ok (.aload_n 0, 1) := by decide +kernel
theorem dX0_known_15 : decode cX0_known 15 = .ok (.iload_n 1, 1) := by decide +kernel
theorem dX0_known_16 : decode cX0_known 16 = .ok (.iload_n 2, 1) := by decide +kernel
theorem dX0_known_17 : decode cX0_known 17 = .ok (.invokestatic 57, 3) := by decide +kernel
theorem dX0_known_20 : decode cX0_known 20 = .ok (.invokevirtual 61, 3) := by decide +kernel
theorem dX0_known_23 : decode cX0_known 23 = .ok (.ifCond .eq 7, 3) := by decide +kernel
theorem dX0_known_26 : decode cX0_known 26 = .ok (.iconst 1, 1) := by decide +kernel
theorem dX0_known_27 : decode cX0_known 27 = .ok (.goto 4, 3) := by decide +kernel
theorem dX0_known_30 : decode cX0_known 30 = .ok (.iconst 0, 1) := by decide +kernel
theorem dX0_known_31 : decode cX0_known 31 = .ok (.ireturn, 1) := by decide +kernel
theorem dX0_clock_0 : decode cX0_clock 0 = .ok (.aload_n 0, 1) := by decide +kernel
theorem dX0_clock_1 : decode cX0_clock 1 = .ok (.getfield 33, 3) := by decide +kernel
theorem dX0_clock_4 : decode cX0_clock 4 = .ok (.lreturn, 1) := by decide +kernel
set_option maxRecDepth 20000 in
theorem ggX0_ahead_X0_byteOf : GoodIn wsX0_ahead wsX0_byteOf := goodIn_r _ [9] (by decide +kernel) (by decide +kernel)
set_option maxRecDepth 20000 in
theorem gX0_ahead_X0_byteOf : GoodIn wsX0_ahead (va_wsS RX0 105 yX0_byteOf wsX0_byteOf) := goodIn_app (goodIn_of _ (by decide +kernel)) ggX0_ahead_X0_byteOf
theorem dX0_ahead_0 : decode cX0_ahead 0 = .ok (.iconst 0, 1) := by decide +kernel
theorem dX0_ahead_1 : decode cX0_ahead 1 = .ok (.istore_n 3, 1) := by decide +kernel
theorem dX0_ahead_2 : decode cX0_ahead 2 = .ok (.iconst 0, 1) := by decide +kernel
theorem dX0_ahead_3 : decode cX0_ahead 3 = .ok (.istore 4, 2) := by decide +kernel
theorem dX0_ahead_5 : decode cX0_ahead 5 = .ok (.iload 4, 2) := by decide +kernel
theorem dX0_ahead_7 : decode cX0_ahead 7 = .ok (.bipush 8, 2) := by decide +kernel
theorem dX0_ahead_9 : decode cX0_ahead 9 = .ok (.if_icmp .ge 32, 3) := by decide +kernel
theorem dX0_ahead_12 : decode cX0_ahead 12 = .ok (.iload_n 3, 1) := by decide +kernel
theorem dX0_ahead_13 : decode cX0_ahead 13 = .ok (.iconst 0, 1) := by decide +kernel
theorem dX0_ahead_14 : decode cX0_ahead 14 = .ok (.aload_n 0, 1) := by decide +kernel
theorem dX0_ahead_15 : decode cX0_ahead 15 = .ok (.getfield 33, 3) := by decide +kernel
theorem dX0_ahead_18 : decode cX0_ahead 18 = .ok (.iload 4, 2) := by decide +kernel
theorem dX0_ahead_20 : decode cX0_ahead 20 = .ok (.invokestatic 105, 3) := by decide +kernel
theorem dX0_ahead_23 : decode cX0_ahead 23 = .ok (.lload_n 1, 1) := by decide +kernel
theorem dX0_ahead_24 : decode cX0_ahead 24 = .ok (.iload 4, 2) := by decide +kernel
theorem dX0_ahead_26 : decode cX0_ahead 26 = .ok (.invokestatic 105, 3) := by decide +kernel
theorem dX0_ahead_29 : decode cX0_ahead 29 = .ok (.isub, 1) := by decide +kernel
theorem dX0_ahead_30 : decode cX0_ahead 30 = .ok (.invokestatic 81, 3) := by decide +kernel
theorem dX0_ahead_33 : decode cX0_ahead 33 = .ok (.iadd, 1) := by decide +kernel
theorem dX0_ahead_34 : decode cX0_ahead 34 = .ok (.istore_n 3, 1) := by decide +kernel
theorem dX0_ahead_35 : decode cX0_ahead 35 = .ok (.iinc 4 1, 3) := by decide +kernel
theorem dX0_ahead_38 : decode cX0_ahead 38 = .ok (.goto (-33), 3) := by decide +kernel
theorem dX0_ahead_41 : decode cX0_ahead 41 = .ok (.iload_n 3, 1) := by decide +kernel
theorem dX0_ahead_42 : decode cX0_ahead 42 = .ok (.ireturn, 1) := by decide +kernel
set_option maxRecDepth 20000 in
theorem ggX0_next_X0_seqOf : GoodIn wsX0_next wsX0_seqOf := goodIn_r _ [10] (by decide +kernel) (by decide +kernel)
set_option maxRecDepth 20000 in
theorem gX0_next_X0_seqOf : GoodIn wsX0_next (va_wsS RX0 95 yX0_seqOf wsX0_seqOf) := goodIn_app (goodIn_of _ (by decide +kernel)) ggX0_next_X0_seqOf
set_option maxRecDepth 20000 in
theorem ggX0_next_X0_actorOf : GoodIn wsX0_next wsX0_actorOf := goodIn_r _ [13] (by decide +kernel) (by decide +kernel)
set_option maxRecDepth 20000 in
theorem gX0_next_X0_actorOf : GoodIn wsX0_next (va_wsS RX0 91 yX0_actorOf wsX0_actorOf) := goodIn_app (goodIn_of _ (by decide +kernel)) ggX0_next_X0_actorOf
set_option maxRecDepth 20000 in
theorem ggX0_next_X0_byteOf : GoodIn wsX0_next wsX0_byteOf := goodIn_r _ [16] (by decide +kernel) (by decide +kernel)
set_option maxRecDepth 20000 in
theorem gX0_next_X0_byteOf : GoodIn wsX0_next (va_wsS RX0 105 yX0_byteOf wsX0_byteOf) := goodIn_app (goodIn_of _ (by decide +kernel)) ggX0_next_X0_byteOf
theorem dX0_next_0 : decode cX0_next 0 = .ok (.iload_n 3, 1) := by decide +kernel
theorem dX0_next_1 : decode cX0_next 1 = .ok (.aload_n 0, 1) := by decide +kernel
theorem dX0_next_2 : decode cX0_next 2 = .ok (.getfield 26, 3) := by decide +kernel
theorem dX0_next_5 : decode cX0_next 5 = .ok (.if_icmp .lt 5, 3) := by decide +kernel
theorem dX0_next_8 : decode cX0_next 8 = .ok (.iconst (-1), 1) := by decide +kernel
theorem dX0_next_9 : decode cX0_next 9 = .ok (.ireturn, 1) := by decide +kernel
theorem dX0_next_10 : decode cX0_next 10 = .ok (.iload_n 3, 1) := by decide +kernel
theorem dX0_next_11 : decode cX0_next 11 = .ok (.iconst (-1), 1) := by decide +kernel
theorem dX0_next_12 : decode cX0_next 12 = .ok (.invokestatic 81, 3) := by decide +kernel
theorem dX0_next_15 : decode cX0_next 15 = .ok (.iconst 1, 1) := by decide +kernel
theorem dX0_next_16 : decode cX0_next 16 = .ok (.iadd, 1) := by decide +kernel
theorem dX0_next_17 : decode cX0_next 17 = .ok (.istore 4, 2) := by decide +kernel
theorem dX0_next_19 : decode cX0_next 19 = .ok (.iload 4, 2) := by decide +kernel
theorem dX0_next_21 : decode cX0_next 21 = .ok (.aload_n 0, 1) := by decide +kernel
theorem dX0_next_22 : decode cX0_next 22 = .ok (.getfield 26, 3) := by decide +kernel
theorem dX0_next_25 : decode cX0_next 25 = .ok (.if_icmp .ge 38, 3) := by decide +kernel
theorem dX0_next_28 : decode cX0_next 28 = .ok (.aload_n 0, 1) := by decide +kernel
theorem dX0_next_29 : decode cX0_next 29 = .ok (.getfield 9, 3) := by decide +kernel
theorem dX0_next_32 : decode cX0_next 32 = .ok (.iload 4, 2) := by decide +kernel
theorem dX0_next_34 : decode cX0_next 34 = .ok (.iaload, 1) := by decide +kernel
theorem dX0_next_35 : decode cX0_next 35 = .ok (.istore 5, 2) := by decide +kernel
theorem dX0_next_37 : decode cX0_next 37 = .ok (.iload 5, 2) := by decide +kernel
theorem dX0_next_39 : decode cX0_next 39 = .ok (.invokestatic 95, 3) := by decide +kernel
theorem dX0_next_42 : decode cX0_next 42 = .ok (.lload_n 1, 1) := by decide +kernel
theorem dX0_next_43 : decode cX0_next 43 = .ok (.iload 5, 2) := by decide +kernel
theorem dX0_next_45 : decode cX0_next 45 = .ok (.invokestatic 91, 3) := by decide +kernel
theorem dX0_next_48 : decode cX0_next 48 = .ok (.invokestatic 105, 3) := by decide +kernel
theorem dX0_next_51 : decode cX0_next 51 = .ok (.if_icmp .le 6, 3) := by decide +kernel
theorem dX0_next_54 : decode cX0_next 54 = .ok (.iload 4, 2) := by decide +kernel
theorem dX0_next_56 : decode cX0_next 56 = .ok (.ireturn, 1) := by decide +kernel
theorem dX0_next_57 : decode cX0_next 57 = .ok (.iinc 4 1, 3) := by decide +kernel
theorem dX0_next_60 : decode cX0_next 60 = .ok (.goto (-41), 3) := by decide +kernel
theorem dX0_next_63 : decode cX0_next 63 = .ok (.iconst (-1), 1) := by decide +kernel
theorem dX0_next_64 : decode cX0_next 64 = .ok (.ireturn, 1) := by decide +kernel
set_option maxRecDepth 20000 in
theorem ggX0_compare_X0_byteOf : GoodIn wsX0_compare wsX0_byteOf := goodIn_r _ [5] (by decide +kernel) (by decide +kernel)
set_option maxRecDepth 20000 in
theorem gX0_compare_X0_byteOf : GoodIn wsX0_compare (va_wsS RX0 105 yX0_byteOf wsX0_byteOf) := goodIn_app (goodIn_of _ (by decide +kernel)) ggX0_compare_X0_byteOf
theorem dX0_compare_0 : decode cX0_compare 0 = .ok (.iconst 0, 1) := by decide +kernel
theorem dX0_compare_1 : decode cX0_compare 1 = .ok (.istore_n 3, 1) := by decide +kernel
theorem dX0_compare_2 : decode cX0_compare 2 = .ok (.iconst 0, 1) := by decide +kernel
theorem dX0_compare_3 : decode cX0_compare 3 = .ok (.istore 4, 2) := by decide +kernel
theorem dX0_compare_5 : decode cX0_compare 5 = .ok (.iconst 0, 1) := by decide +kernel
theorem dX0_compare_6 : decode cX0_compare 6 = .ok (.istore 5, 2) := by decide +kernel
theorem dX0_compare_8 : decode cX0_compare 8 = .ok (.iload 5, 2) := by decide +kernel
theorem dX0_compare_10 : decode cX0_compare 10 = .ok (.bipush 8, 2) := by decide +kernel
theorem dX0_compare_12 : decode cX0_compare 12 = .ok (.if_icmp .ge 64, 3) := by decide +kernel
theorem dX0_compare_15 : decode cX0_compare 15 = .ok (.aload_n 0, 1) := by decide +kernel
theorem dX0_compare_16 : decode cX0_compare 16 = .ok (.getfield 33, 3) := by decide +kernel
theorem dX0_compare_19 : decode cX0_compare 19 = .ok (.iload 5, 2) := by decide +kernel
theorem dX0_compare_21 : decode cX0_compare 21 = .ok (.invokestatic 105, 3) := by decide +kernel
theorem dX0_compare_24 : decode cX0_compare 24 = .ok (.istore 6, 2) := by decide +kernel
theorem dX0_compare_26 : decode cX0_compare 26 = .ok (.lload_n 1, 1) := by decide +kernel
theorem dX0_compare_27 : decode cX0_compare 27 = .ok (.iload 5, 2) := by decide +kernel
theorem dX0_compare_29 : decode cX0_compare 29 = .ok (.invokestatic 105, 3) := by decide +kernel
theorem dX0_compare_32 : decode cX0_compare 32 = .ok (.istore 7, 2) := by decide +kernel
theorem dX0_compare_34 : decode cX0_compare 34 = .ok (.iload_n 3, 1) := by decide +kernel
theorem dX0_compare_35 : decode cX0_compare 35 = .ok (.ifCond .ne 10, 3) := by decide +kernel
theorem dX0_compare_38 : decode cX0_compare 38 = .ok (.iload 6, 2) := by decide +kernel
theorem dX0_compare_40 : decode cX0_compare 40 = .ok (.iload 7, 2) := by decide +kernel
theorem dX0_compare_42 : decode cX0_compare 42 = .ok (.if_icmp .le 7, 3) := by decide +kernel
theorem dX0_compare_45 : decode cX0_compare 45 = .ok (.iconst 1, 1) := by decide +kernel
theorem dX0_compare_46 : decode cX0_compare 46 = .ok (.goto 4, 3) := by decide +kernel
theorem dX0_compare_49 : decode cX0_compare 49 = .ok (.iconst 0, 1) := by decide +kernel
theorem dX0_compare_50 : decode cX0_compare 50 = .ok (.istore_n 3, 1) := by decide +kernel
theorem dX0_compare_51 : decode cX0_compare 51 = .ok (.iload 4, 2) := by decide +kernel
theorem dX0_compare_53 : decode cX0_compare 53 = .ok (.ifCond .ne 10, 3) := by decide +kernel
theorem dX0_compare_56 : decode cX0_compare 56 = .ok (.iload 6, 2) := by decide +kernel
theorem dX0_compare_58 : decode cX0_compare 58 = .ok (.iload 7, 2) := by decide +kernel
theorem dX0_compare_60 : decode cX0_compare 60 = .ok (.if_icmp .ge 7, 3) := by decide +kernel
theorem dX0_compare_63 : decode cX0_compare 63 = .ok (.iconst 1, 1) := by decide +kernel
theorem dX0_compare_64 : decode cX0_compare 64 = .ok (.goto 4, 3) := by decide +kernel
theorem dX0_compare_67 : decode cX0_compare 67 = .ok (.iconst 0, 1) := by decide +kernel
theorem dX0_compare_68 : decode cX0_compare 68 = .ok (.istore 4, 2) := by decide +kernel
theorem dX0_compare_70 : decode cX0_compare 70 = .ok (.iinc 5 1, 3) := by decide +kernel
theorem dX0_compare_73 : decode cX0_compare 73 = .ok (.goto (-65), 3) := by decide +kernel
theorem dX0_compare_76 : decode cX0_compare 76 = .ok (.iload_n 3, 1) := by decide +kernel
theorem dX0_compare_77 : decode cX0_compare 77 = .ok (.ifCond .eq 14, 3) := by decide +kernel
theorem dX0_compare_80 : decode cX0_compare 80 = .ok (.iload 4, 2) := by decide +kernel
theorem dX0_compare_82 : decode cX0_compare 82 = .ok (.ifCond .eq 7, 3) := by decide +kernel
theorem dX0_compare_85 : decode cX0_compare 85 = .ok (.iconst 3, 1) := by decide +kernel
theorem dX0_compare_86 : decode cX0_compare 86 = .ok (.goto 4, 3) := by decide +kernel
theorem dX0_compare_89 : decode cX0_compare 89 = .ok (.iconst 1, 1) := by decide +kernel
theorem dX0_compare_90 : decode cX0_compare 90 = .ok (.ireturn, 1) := by decide +kernel
theorem dX0_compare_91 : decode cX0_compare 91 = .ok (.iload 4, 2) := by decide +kernel
theorem dX0_compare_93 : decode cX0_compare 93 = .ok (.ifCond .eq 7, 3) := by decide +kernel
theorem dX0_compare_96 : decode cX0_compare 96 = .ok (.iconst 2, 1) := by decide +kernel
theorem dX0_compare_97 : decode cX0_compare 97 = .ok (.goto 4, 3) := by decide +kernel
theorem dX0_compare_100 : decode cX0_compare 100 = .ok (.iconst 0, 1) := by decide +kernel
theorem dX0_compare_101 : decode cX0_compare 101 = .ok (.ireturn, 1) := by decide +kernel
set_option maxRecDepth 20000 in
theorem ggX0_forget_X0_actorOf : GoodIn wsX0_forget wsX0_actorOf := goodIn_r _ [6] (by decide +kernel) (by decide +kernel)
set_option maxRecDepth 20000 in
theorem gX0_forget_X0_actorOf : GoodIn wsX0_forget (va_wsS RX0 91 yX0_actorOf wsX0_actorOf) := goodIn_app (goodIn_of _ (by decide +kernel)) ggX0_forget_X0_actorOf
set_option maxRecDepth 20000 in
theorem ggX0_forget_X0_moveWaiting : GoodIn wsX0_forget wsX0_moveWaiting := goodIn_r _ [10, 2, 11, 12, 13, 14, 15, 16, 17, 18, 19, 20, 21, 22] (by decide +kernel) (by decide +kernel)
set_option maxRecDepth 20000 in
theorem gX0_forget_X0_moveWaiting : GoodIn wsX0_forget (wsV RX0 109 RX0 yX0_moveWaiting wsX0_moveWaiting) := goodIn_app (goodIn_of _ (by decide +kernel)) ggX0_forget_X0_moveWaiting
theorem dX0_forget_0 : decode cX0_forget 0 = .ok (.iconst 0, 1) := by decide +kernel
theorem dX0_forget_1 : decode cX0_forget 1 = .ok (.istore_n 2, 1) := by decide +kernel
theorem dX0_forget_2 : decode cX0_forget 2 = .ok (.iconst 0, 1) := by decide +kernel
theorem dX0_forget_3 : decode cX0_forget 3 = .ok (.istore_n 3, 1) := by decide +kernel
theorem dX0_forget_4 : decode cX0_forget 4 = .ok (.iload_n 3, 1) := by decide +kernel
theorem dX0_forget_5 : decode cX0_forget 5 = .ok (.aload_n 0, 1) := by decide +kernel
theorem dX0_forget_6 : decode cX0_forget 6 = .ok (.getfield 30, 3) := by decide +kernel
theorem dX0_forget_9 : decode cX0_forget 9 = .ok (.if_icmp .ge 31, 3) := by decide +kernel
theorem dX0_forget_12 : decode cX0_forget 12 = .ok (.aload_n 0, 1) := by decide +kernel
theorem dX0_forget_13 : decode cX0_forget 13 = .ok (.getfield 16, 3) := by decide +kernel
theorem dX0_forget_16 : decode cX0_forget 16 = .ok (.iload_n 3, 1) := by decide +kernel
theorem dX0_forget_17 : decode cX0_forget 17 = .ok (.iaload, 1) := by decide +kernel
theorem dX0_forget_18 : decode cX0_forget 18 = .ok (.invokestatic 91, 3) := by decide +kernel
theorem dX0_forget_21 : decode cX0_forget 21 = .ok (.iload_n 1, 1) := by decide +kernel
theorem dX0_forget_22 : decode cX0_forget 22 = .ok (.if_icmp .eq 12, 3) := by decide +kernel
theorem dX0_forget_25 : decode cX0_forget 25 = .ok (.aload_n 0, 1) := by decide +kernel
theorem dX0_forget_26 : decode cX0_forget 26 = .ok (.iload_n 3, 1) := by decide +kernel
theorem dX0_forget_27 : decode cX0_forget 27 = .ok (.iload_n 2, 1) := by decide +kernel
theorem dX0_forget_28 : decode cX0_forget 28 = .ok (.invokevirtual 109, 3) := by decide +kernel
theorem dX0_forget_31 : decode cX0_forget 31 = .ok (.iinc 2 1, 3) := by decide +kernel
theorem dX0_forget_34 : decode cX0_forget 34 = .ok (.iinc 3 1, 3) := by decide +kernel
theorem dX0_forget_37 : decode cX0_forget 37 = .ok (.goto (-33), 3) := by decide +kernel
theorem dX0_forget_40 : decode cX0_forget 40 = .ok (.aload_n 0, 1) := by decide +kernel
theorem dX0_forget_41 : decode cX0_forget 41 = .ok (.getfield 30, 3) := by decide +kernel
theorem dX0_forget_44 : decode cX0_forget 44 = .ok (.iload_n 2, 1) := by decide +kernel
theorem dX0_forget_45 : decode cX0_forget 45 = .ok (.isub, 1) := by decide +kernel
theorem dX0_forget_46 : decode cX0_forget 46 = .ok (.istore_n 3, 1) := by decide +kernel
theorem dX0_forget_47 : decode cX0_forget 47 = .ok (.aload_n 0, 1) := by decide +kernel
theorem dX0_forget_48 : decode cX0_forget 48 = .ok (.iload_n 2, 1) := by decide +kernel
theorem dX0_forget_49 : decode cX0_forget 49 = .ok (.putfield 30, 3) := by decide +kernel
theorem dX0_forget_52 : decode cX0_forget 52 = .ok (.iload_n 3, 1) := by decide +kernel
theorem dX0_forget_53 : decode cX0_forget 53 = .ok (.ireturn, 1) := by decide +kernel
theorem dX0_look_0 : decode cX0_look 0 = .ok (.iload_n 1, 1) := by decide +kernel
theorem dX0_look_1 : decode cX0_look 1 = .ok (.tableswitch 51 0 3 #[31, 36, 41, 46], 31) := by decide +kernel
theorem dX0_look_32 : decode cX0_look 32 = .ok (.aload_n 0, 1) := by decide +kernel
theorem dX0_look_33 : decode cX0_look 33 = .ok (.getfield 26, 3) := by decide +kernel
theorem dX0_look_36 : decode cX0_look 36 = .ok (.ireturn, 1) := by decide +kernel
theorem dX0_look_37 : decode cX0_look 37 = .ok (.aload_n 0, 1) := by decide +kernel
theorem dX0_look_38 : decode cX0_look 38 = .ok (.getfield 30, 3) := by decide +kernel
theorem dX0_look_41 : decode cX0_look 41 = .ok (.ireturn, 1) := by decide +kernel
theorem dX0_look_42 : decode cX0_look 42 = .ok (.aload_n 0, 1) := by decide +kernel
theorem dX0_look_43 : decode cX0_look 43 = .ok (.getfield 37, 3) := by decide +kernel
theorem dX0_look_46 : decode cX0_look 46 = .ok (.ireturn, 1) := by decide +kernel
theorem dX0_look_47 : decode cX0_look 47 = .ok (.aload_n 0, 1) := by decide +kernel
theorem dX0_look_48 : decode cX0_look 48 = .ok (.getfield 40, 3) := by decide +kernel
theorem dX0_look_51 : decode cX0_look 51 = .ok (.ireturn, 1) := by decide +kernel
theorem dX0_look_52 : decode cX0_look 52 = .ok (.iconst (-1), 1) := by decide +kernel
theorem dX0_look_53 : decode cX0_look 53 = .ok (.ireturn, 1) := by decide +kernel
theorem dX0_isActor_0 : decode cX0_isActor 0 = .ok (.iload_n 0, 1) := by decide +kernel
theorem dX0_isActor_1 : decode cX0_isActor 1 = .ok (.ifCond .lt 13, 3) := by decide +kernel
theorem dX0_isActor_4 : decode cX0_isActor 4 = .ok (.iload_n 0, 1) := by decide +kernel
theorem dX0_isActor_5 : decode cX0_isActor 5 = .ok (.bipush 8, 2) := by decide +kernel
theorem dX0_isActor_7 : decode cX0_isActor 7 = .ok (.if_icmp .ge 7, 3) := by decide +kernel
theorem dX0_isActor_10 : decode cX0_isActor 10 = .ok (.iconst 1, 1) := by decide +kernel
theorem dX0_isActor_11 : decode cX0_isActor 11 = .ok (.goto 4, 3) := by decide +kernel
theorem dX0_isActor_14 : decode cX0_isActor 14 = .ok (.iconst 0, 1) := by decide +kernel
theorem dX0_isActor_15 : decode cX0_isActor 15 = .ok (.ireturn, 1) := by decide +kernel
theorem dX0_isSeq_0 : decode cX0_isSeq 0 = .ok (.iload_n 0, 1) := by decide +kernel
theorem dX0_isSeq_1 : decode cX0_isSeq 1 = .ok (.iconst 1, 1) := by decide +kernel
theorem dX0_isSeq_2 : decode cX0_isSeq 2 = .ok (.if_icmp .lt 14, 3) := by decide +kernel
theorem dX0_isSeq_5 : decode cX0_isSeq 5 = .ok (.iload_n 0, 1) := by decide +kernel
theorem dX0_isSeq_6 : decode cX0_isSeq 6 = .ok (.sipush 255, 3) := by decide +kernel
theorem dX0_isSeq_9 : decode cX0_isSeq 9 = .ok (.if_icmp .gt 7, 3) := by decide +kernel
theorem dX0_isSeq_12 : decode cX0_isSeq 12 = .ok (.iconst 1, 1) := by decide +kernel
theorem dX0_isSeq_13 : decode cX0_isSeq 13 = .ok (.goto 4, 3) := by decide +kernel
theorem dX0_isSeq_16 : decode cX0_isSeq 16 = .ok (.iconst 0, 1) := by decide +kernel
theorem dX0_isSeq_17 : decode cX0_isSeq 17 = .ok (.ireturn, 1) := by decide +kernel
theorem dX0_keyOf_0 : decode cX0_keyOf 0 = .ok (.iload_n 0, 1) := by decide +kernel
theorem dX0_keyOf_1 : decode cX0_keyOf 1 = .ok (.bipush 8, 2) := by decide +kernel
theorem dX0_keyOf_3 : decode cX0_keyOf 3 = .ok (.ishl, 1) := by decide +kernel
theorem dX0_keyOf_4 : decode cX0_keyOf 4 = .ok (.iload_n 1, 1) := by decide +kernel
theorem dX0_keyOf_5 : decode cX0_keyOf 5 = .ok (.ior, 1) := by decide +kernel
theorem dX0_keyOf_6 : decode cX0_keyOf 6 = .ok (.ireturn, 1) := by decide +kernel
theorem dX0_actorOf_0 : decode cX0_actorOf 0 = .ok (.iload_n 0, 1) := by decide +kernel
theorem dX0_actorOf_1 : decode cX0_actorOf 1 = .ok (.bipush 8, 2) := by decide +kernel
theorem dX0_actorOf_3 : decode cX0_actorOf 3 = .ok (.ishr, 1) := by decide +kernel
theorem dX0_actorOf_4 : decode cX0_actorOf 4 = .ok (.ireturn, 1) := by decide +kernel
theorem dX0_seqOf_0 : decode cX0_seqOf 0 = .ok (.iload_n 0, 1) := by decide +kernel
theorem dX0_seqOf_1 : decode cX0_seqOf 1 = .ok (.sipush 255, 3) := by decide +kernel
theorem dX0_seqOf_4 : decode cX0_seqOf 4 = .ok (.iand, 1) := by decide +kernel
theorem dX0_seqOf_5 : decode cX0_seqOf 5 = .ok (.ireturn, 1) := by decide +kernel
theorem dX0_byteOf_0 : decode cX0_byteOf 0 = .ok (.lload_n 0, 1) := by decide +kernel
theorem dX0_byteOf_1 : decode cX0_byteOf 1 = .ok (.bipush 8, 2) := by decide +kernel
theorem dX0_byteOf_3 : decode cX0_byteOf 3 = .ok (.iload_n 2, 1) := by decide +kernel
theorem dX0_byteOf_4 : decode cX0_byteOf 4 = .ok (.imul, 1) := by decide +kernel
theorem dX0_byteOf_5 : decode cX0_byteOf 5 = .ok (.lushr, 1) := by decide +kernel
theorem dX0_byteOf_6 : decode cX0_byteOf 6 = .ok (.l2i, 1) := by decide +kernel
theorem dX0_byteOf_7 : decode cX0_byteOf 7 = .ok (.sipush 255, 3) := by decide +kernel
theorem dX0_byteOf_10 : decode cX0_byteOf 10 = .ok (.iand, 1) := by decide +kernel
theorem dX0_byteOf_11 : decode cX0_byteOf 11 = .ok (.ireturn, 1) := by decide +kernel
set_option maxRecDepth 20000 in
theorem ggX0_nextSeq_X0_byteOf : GoodIn wsX0_nextSeq wsX0_byteOf := goodIn_r _ [5] (by decide +kernel) (by decide +kernel)
set_option maxRecDepth 20000 in
theorem gX0_nextSeq_X0_byteOf : GoodIn wsX0_nextSeq (va_wsS RX0 105 yX0_byteOf wsX0_byteOf) := goodIn_app (goodIn_of _ (by decide +kernel)) ggX0_nextSeq_X0_byteOf
theorem dX0_nextSeq_0 : decode cX0_nextSeq 0 = .ok (.aload_n 0, 1) := by decide +kernel
theorem dX0_nextSeq_1 : decode cX0_nextSeq 1 = .ok (.getfield 33, 3) := by decide +kernel
theorem dX0_nextSeq_4 : decode cX0_nextSeq 4 = .ok (.iload_n 1, 1) := by decide +kernel
theorem dX0_nextSeq_5 : decode cX0_nextSeq 5 = .ok (.invokestatic 105, 3) := by decide +kernel
theorem dX0_nextSeq_8 : decode cX0_nextSeq 8 = .ok (.iconst 1, 1) := by decide +kernel
theorem dX0_nextSeq_9 : decode cX0_nextSeq 9 = .ok (.iadd, 1) := by decide +kernel
theorem dX0_nextSeq_10 : decode cX0_nextSeq 10 = .ok (.ireturn, 1) := by decide +kernel
set_option maxRecDepth 20000 in
theorem ggX0_isKnown_X0_seqOf : GoodIn wsX0_isKnown wsX0_seqOf := goodIn_r _ [6] (by decide +kernel) (by decide +kernel)
set_option maxRecDepth 20000 in
theorem gX0_isKnown_X0_seqOf : GoodIn wsX0_isKnown (va_wsS RX0 95 yX0_seqOf wsX0_seqOf) := goodIn_app (goodIn_of _ (by decide +kernel)) ggX0_isKnown_X0_seqOf
set_option maxRecDepth 20000 in
theorem ggX0_isKnown_X0_actorOf : GoodIn wsX0_isKnown wsX0_actorOf := goodIn_r _ [9] (by decide +kernel) (by decide +kernel)
set_option maxRecDepth 20000 in
theorem gX0_isKnown_X0_actorOf : GoodIn wsX0_isKnown (va_wsS RX0 91 yX0_actorOf wsX0_actorOf) := goodIn_app (goodIn_of _ (by decide +kernel)) ggX0_isKnown_X0_actorOf
set_option maxRecDepth 20000 in
theorem ggX0_isKnown_X0_nextSeq : GoodIn wsX0_isKnown wsX0_nextSeq := goodIn_r _ [13, 14, 15, 16, 5, 17, 18, 19, 20, 21, 22, 23, 24, 25, 26, 27] (by decide +kernel) (by decide +kernel)
set_option maxRecDepth 20000 in
theorem gX0_isKnown_X0_nextSeq : GoodIn wsX0_isKnown (wsV RX0 102 RX0 yX0_nextSeq wsX0_nextSeq) := goodIn_app (goodIn_of _ (by decide +kernel)) ggX0_isKnown_X0_nextSeq
theorem dX0_isKnown_0 : decode cX0_isKnown 0 = .ok (.iload_n 1, 1) := by decide +kernel
theorem dX0_isKnown_1 : decode cX0_isKnown 1 = .ok (.invokestatic 95, 3) := by decide +kernel
theorem dX0_isKnown_4 : decode cX0_isKnown 4 = .ok (.aload_n 0, 1) := by decide +kernel
theorem dX0_isKnown_5 : decode cX0_isKnown 5 = .ok (.iload_n 1, 1) := by decide +kernel
theorem dX0_isKnown_6 : decode cX0_isKnown 6 = .ok (.invokestatic 91, 3) := by decide +kernel
theorem dX0_isKnown_9 : decode cX0_isKnown 9 = .ok (.invokevirtual 102, 3) := by decide +kernel
theorem dX0_isKnown_12 : decode cX0_isKnown 12 = .ok (.if_icmp .ge 5, 3) := by decide +kernel
theorem dX0_isKnown_15 : decode cX0_isKnown 15 = .ok (.iconst 1, 1) := by decide +kernel
theorem dX0_isKnown_16 : decode cX0_isKnown 16 = .ok (.ireturn, 1) := by decide +kernel
theorem dX0_isKnown_17 : decode cX0_isKnown 17 = .ok (.iconst 0, 1) := by decide +kernel
theorem dX0_isKnown_18 : decode cX0_isKnown 18 = .ok (.istore_n 2, 1) := by decide +kernel
theorem dX0_isKnown_19 : decode cX0_isKnown 19 = .ok (.iload_n 2, 1) := by decide +kernel
theorem dX0_isKnown_20 : decode cX0_isKnown 20 = .ok (.aload_n 0, 1) := by decide +kernel
theorem dX0_isKnown_21 : decode cX0_isKnown 21 = .ok (.getfield 30, 3) := by decide +kernel
theorem dX0_isKnown_24 : decode cX0_isKnown 24 = .ok (.if_icmp .ge 21, 3) := by decide +kernel
theorem dX0_isKnown_27 : decode cX0_isKnown 27 = .ok (.aload_n 0, 1) := by decide +kernel
theorem dX0_isKnown_28 : decode cX0_isKnown 28 = .ok (.getfield 16, 3) := by decide +kernel
theorem dX0_isKnown_31 : decode cX0_isKnown 31 = .ok (.iload_n 2, 1) := by decide +kernel
theorem dX0_isKnown_32 : decode cX0_isKnown 32 = .ok (.iaload, 1) := by decide +kernel
theorem dX0_isKnown_33 : decode cX0_isKnown 33 = .ok (.iload_n 1, 1) := by decide +kernel
theorem dX0_isKnown_34 : decode cX0_isKnown 34 = .ok (.if_icmp .ne 5, 3) := by decide +kernel
theorem dX0_isKnown_37 : decode cX0_isKnown 37 = .ok (.iconst 1, 1) := by decide +kernel
theorem dX0_isKnown_38 : decode cX0_isKnown 38 = .ok (.ireturn, 1) := by decide +kernel
theorem dX0_isKnown_39 : decode cX0_isKnown 39 = .ok (.iinc 2 1, 3) := by decide +kernel
theorem dX0_isKnown_42 : decode cX0_isKnown 42 = .ok (.goto (-23), 3) := by decide +kernel
theorem dX0_isKnown_45 : decode cX0_isKnown 45 = .ok (.iconst 0, 1) := by decide +kernel
theorem dX0_isKnown_46 : decode cX0_isKnown 46 = .ok (.ireturn, 1) := by decide +kernel
set_option maxRecDepth 20000 in
theorem ggX0_canComeThrough_X0_lackedActor : GoodIn wsX0_canComeThrough wsX0_lackedActor := goodIn_r _ [6, 7, 8, 9, 5, 10, 11, 12, 13, 14, 15, 16, 17, 18, 19, 20, 21, 22, 23, 24, 25, 26, 27, 28, 29, 30] (by decide +kernel) (by decide +kernel)
set_option maxRecDepth 20000 in
theorem gX0_canComeThrough_X0_lackedActor : GoodIn wsX0_canComeThrough (wsV RX0 98 RX0 yX0_lackedActor wsX0_lackedActor) := goodIn_app (goodIn_of _ (by decide +kernel)) ggX0_canComeThrough_X0_lackedActor
theorem dX0_canComeThrough_0 : decode cX0_canComeThrough 0 = .ok (.aload_n 0, 1) := by decide +kernel
theorem dX0_canComeThrough_1 : decode cX0_canComeThrough 1 = .ok (.getfield 26, 3) := by decide +kernel
theorem dX0_canComeThrough_4 : decode cX0_canComeThrough 4 = .ok (.sipush 512, 3) := by decide +kernel
theorem dX0_canComeThrough_7 : decode cX0_canComeThrough 7 = .ok (.if_icmp .ge 17, 3) := by decide +kernel
theorem dX0_canComeThrough_10 : decode cX0_canComeThrough 10 = .ok (.aload_n 0, 1) := by decide +kernel
theorem dX0_canComeThrough_11 : decode cX0_canComeThrough 11 = .ok (.iload_n 1, 1) := by decide +kernel
theorem dX0_canComeThrough_12 : decode cX0_canComeThrough 12 = .ok (.lload_n 2, 1) := by decide +kernel
theorem dX0_canComeThrough_13 : decode cX0_canComeThrough 13 = .ok (.invokevirtual 98, 3) := by decide +kernel
theorem dX0_canComeThrough_16 : decode cX0_canComeThrough 16 = .ok (.iconst (-1), 1) := by decide +kernel
theorem dX0_canComeThrough_17 : decode cX0_canComeThrough 17 = .ok (.if_icmp .ne 7, 3) := by decide +kernel
theorem dX0_canComeThrough_20 : decode cX0_canComeThrough 20 = .ok (.iconst 1, 1) := by decide +kernel
theorem dX0_canComeThrough_21 : decode cX0_canComeThrough 21 = .ok (.goto 4, 3) := by decide +kernel
theorem dX0_canComeThrough_24 : decode cX0_canComeThrough 24 = .ok (.iconst 0, 1) := by decide +kernel
theorem dX0_canComeThrough_25 : decode cX0_canComeThrough 25 = .ok (.ireturn, 1) := by decide +kernel
set_option maxRecDepth 20000 in
theorem ggX0_lackedActor_X0_actorOf : GoodIn wsX0_lackedActor wsX0_actorOf := goodIn_r _ [5] (by decide +kernel) (by decide +kernel)
set_option maxRecDepth 20000 in
theorem gX0_lackedActor_X0_actorOf : GoodIn wsX0_lackedActor (va_wsS RX0 91 yX0_actorOf wsX0_actorOf) := goodIn_app (goodIn_of _ (by decide +kernel)) ggX0_lackedActor_X0_actorOf
set_option maxRecDepth 20000 in
theorem ggX0_lackedActor_X0_seqOf : GoodIn wsX0_lackedActor wsX0_seqOf := goodIn_r _ [8] (by decide +kernel) (by decide +kernel)
set_option maxRecDepth 20000 in
theorem gX0_lackedActor_X0_seqOf : GoodIn wsX0_lackedActor (va_wsS RX0 95 yX0_seqOf wsX0_seqOf) := goodIn_app (goodIn_of _ (by decide +kernel)) ggX0_lackedActor_X0_seqOf
set_option maxRecDepth 20000 in
theorem ggX0_lackedActor_X0_nextSeq : GoodIn wsX0_lackedActor wsX0_nextSeq := goodIn_r _ [12, 1, 13, 14, 4, 15, 16, 17, 18, 19, 20, 21, 22, 23, 24, 25] (by decide +kernel) (by decide +kernel)
set_option maxRecDepth 20000 in
theorem gX0_lackedActor_X0_nextSeq : GoodIn wsX0_lackedActor (wsV RX0 102 RX0 yX0_nextSeq wsX0_nextSeq) := goodIn_app (goodIn_of _ (by decide +kernel)) ggX0_lackedActor_X0_nextSeq
set_option maxRecDepth 20000 in
theorem ggX0_lackedActor_X0_byteOf : GoodIn wsX0_lackedActor wsX0_byteOf := goodIn_r _ [15] (by decide +kernel) (by decide +kernel)
set_option maxRecDepth 20000 in
theorem gX0_lackedActor_X0_byteOf : GoodIn wsX0_lackedActor (va_wsS RX0 105 yX0_byteOf wsX0_byteOf) := goodIn_app (goodIn_of _ (by decide +kernel)) ggX0_lackedActor_X0_byteOf
theorem dX0_lackedActor_0 : decode cX0_lackedActor 0 = .ok (.iload_n 1, 1) := by decide +kernel
theorem dX0_lackedActor_1 : decode cX0_lackedActor 1 = .ok (.invokestatic 91, 3) := by decide +kernel
theorem dX0_lackedActor_4 : decode cX0_lackedActor 4 = .ok (.istore 4, 2) := by decide +kernel
theorem dX0_lackedActor_6 : decode cX0_lackedActor 6 = .ok (.iload_n 1, 1) := by decide +kernel
theorem dX0_lackedActor_7 : decode cX0_lackedActor 7 = .ok (.invokestatic 95, 3) := by decide +kernel
theorem dX0_lackedActor_10 : decode cX0_lackedActor 10 = .ok (.aload_n 0, 1) := by decide +kernel
theorem dX0_lackedActor_11 : decode cX0_lackedActor 11 = .ok (.iload 4, 2) := by decide +kernel
theorem dX0_lackedActor_13 : decode cX0_lackedActor 13 = .ok (.invokevirtual 102, 3) := by decide +kernel
theorem dX0_lackedActor_16 : decode cX0_lackedActor 16 = .ok (.if_icmp .eq 6, 3) := by decide +kernel
theorem dX0_lackedActor_19 : decode cX0_lackedActor 19 = .ok (.iload 4, 2) := by decide +kernel
theorem dX0_lackedActor_21 : decode cX0_lackedActor 21 = .ok (.ireturn, 1) := by decide +kernel
theorem dX0_lackedActor_22 : decode cX0_lackedActor 22 = .ok (.iconst 0, 1) := by decide +kernel
theorem dX0_lackedActor_23 : decode cX0_lackedActor 23 = .ok (.istore 5, 2) := by decide +kernel
theorem dX0_lackedActor_25 : decode cX0_lackedActor 25 = .ok (.iload 5, 2) := by decide +kernel
theorem dX0_lackedActor_27 : decode cX0_lackedActor 27 = .ok (.bipush 8, 2) := by decide +kernel
theorem dX0_lackedActor_29 : decode cX0_lackedActor 29 = .ok (.if_icmp .ge 37, 3) := by decide +kernel
theorem dX0_lackedActor_32 : decode cX0_lackedActor 32 = .ok (.iload 5, 2) := by decide +kernel
theorem dX0_lackedActor_34 : decode cX0_lackedActor 34 = .ok (.iload 4, 2) := by decide +kernel
theorem dX0_lackedActor_36 : decode cX0_lackedActor 36 = .ok (.if_icmp .eq 24, 3) := by decide +kernel
theorem dX0_lackedActor_39 : decode cX0_lackedActor 39 = .ok (.lload_n 2, 1) := by decide +kernel
theorem dX0_lackedActor_40 : decode cX0_lackedActor 40 = .ok (.iload 5, 2) := by decide +kernel
theorem dX0_lackedActor_42 : decode cX0_lackedActor 42 = .ok (.invokestatic 105, 3) := by decide +kernel
theorem dX0_lackedActor_45 : decode cX0_lackedActor 45 = .ok (.aload_n 0, 1) := by decide +kernel
theorem dX0_lackedActor_46 : decode cX0_lackedActor 46 = .ok (.getfield 33, 3) := by decide +kernel
theorem dX0_lackedActor_49 : decode cX0_lackedActor 49 = .ok (.iload 5, 2) := by decide +kernel
theorem dX0_lackedActor_51 : decode cX0_lackedActor 51 = .ok (.invokestatic 105, 3) := by decide +kernel
theorem dX0_lackedActor_54 : decode cX0_lackedActor 54 = .ok (.if_icmp .le 6, 3) := by decide +kernel
theorem dX0_lackedActor_57 : decode cX0_lackedActor 57 = .ok (.iload 5, 2) := by decide +kernel
theorem dX0_lackedActor_59 : decode cX0_lackedActor 59 = .ok (.ireturn, 1) := by decide +kernel
theorem dX0_lackedActor_60 : decode cX0_lackedActor 60 = .ok (.iinc 5 1, 3) := by decide +kernel
theorem dX0_lackedActor_63 : decode cX0_lackedActor 63 = .ok (.goto (-38), 3) := by decide +kernel
theorem dX0_lackedActor_66 : decode cX0_lackedActor 66 = .ok (.iconst (-1), 1) := by decide +kernel
theorem dX0_lackedActor_67 : decode cX0_lackedActor 67 = .ok (.ireturn, 1) := by decide +kernel
set_option maxRecDepth 20000 in
theorem ggX0_letThroughAllThatCan_X0_firstThatCanComeThrough : GoodIn wsX0_letThroughAllThatCan wsX0_firstThatCanComeThrough := goodIn_r _ [5, 6, 7, 8, 9, 10, 11, 4, 12, 13, 14, 15, 16, 17, 18, 19, 20, 21, 22, 23, 24, 25, 26, 27, 28, 29, 30, 31, 47, 48, 49, 50, 51, 52, 53, 54, 55, 56] (by decide +kernel) (by decide +kernel)
set_option maxRecDepth 20000 in
theorem gX0_letThroughAllThatCan_X0_firstThatCanComeThrough : GoodIn wsX0_letThroughAllThatCan (wsV RX0 113 RX0 yX0_firstThatCanComeThrough wsX0_firstThatCanComeThrough) := goodIn_app (goodIn_of _ (by decide +kernel)) ggX0_letThroughAllThatCan_X0_firstThatCanComeThrough
set_option maxRecDepth 20000 in
theorem ggX0_letThroughAllThatCan_X0_letThrough : GoodIn wsX0_letThroughAllThatCan wsX0_letThrough := goodIn_r _ [35, 36, 13, 7, 37, 38, 18, 19, 20, 4, 21, 39, 40, 41, 42, 6, 43, 44, 45, 46, 8, 47, 48, 49, 50, 51, 52, 53, 54, 55, 56] (by decide +kernel) (by decide +kernel)
set_option maxRecDepth 20000 in
theorem gX0_letThroughAllThatCan_X0_letThrough : GoodIn wsX0_letThroughAllThatCan (wsV RX0 116 RX0 yX0_letThrough wsX0_letThrough) := goodIn_app (goodIn_of _ (by decide +kernel)) ggX0_letThroughAllThatCan_X0_letThrough
theorem dX0_letThroughAllThatCan_0 : decode cX0_letThroughAllThatCan 0 = .ok (.iconst 0, 1) := by decide +kernel
theorem dX0_letThroughAllThatCan_1 : decode cX0_letThroughAllThatCan 1 = .ok (.istore_n 1, 1) := by decide +kernel
theorem dX0_letThroughAllThatCan_2 : decode cX0_letThroughAllThatCan 2 = .ok (.iload_n 1, 1) := by decide +kernel
theorem dX0_letThroughAllThatCan_3 : decode cX0_letThroughAllThatCan 3 = .ok (.bipush 65, 2) := by decide +kernel
theorem dX0_letThroughAllThatCan_5 : decode cX0_letThroughAllThatCan 5 = .ok (.if_icmp .ge 26, 3) := by decide +kernel
theorem dX0_letThroughAllThatCan_8 : decode cX0_letThroughAllThatCan 8 = .ok (.aload_n 0, 1) := by decide +kernel
theorem dX0_letThroughAllThatCan_9 : decode cX0_letThroughAllThatCan 9 = .ok (.invokevirtual 113, 3) := by decide +kernel
theorem dX0_letThroughAllThatCan_12 : decode cX0_letThroughAllThatCan 12 = .ok (.istore_n 2, 1) := by decide +kernel
theorem dX0_letThroughAllThatCan_13 : decode cX0_letThroughAllThatCan 13 = .ok (.iload_n 2, 1) := by decide +kernel
theorem dX0_letThroughAllThatCan_14 : decode cX0_letThroughAllThatCan 14 = .ok (.iconst (-1), 1) := by decide +kernel
theorem dX0_letThroughAllThatCan_15 : decode cX0_letThroughAllThatCan 15 = .ok (.if_icmp .ne 5, 3) := by decide +kernel
theorem dX0_letThroughAllThatCan_18 : decode cX0_letThroughAllThatCan 18 = .ok (.iload_n 1, 1) := by decide +kernel
theorem dX0_letThroughAllThatCan_19 : decode cX0_letThroughAllThatCan 19 = .ok (.ireturn, 1) := by decide +kernel
theorem dX0_letThroughAllThatCan_20 : decode cX0_letThroughAllThatCan 20 = .ok (.aload_n 0, 1) := by decide +kernel
theorem dX0_letThroughAllThatCan_21 : decode cX0_letThroughAllThatCan 21 = .ok (.iload_n 2, 1) := by decide +kernel
theorem dX0_letThroughAllThatCan_22 : decode cX0_letThroughAllThatCan 22 = .ok (.invokevirtual 116, 3) := by decide +kernel
theorem dX0_letThroughAllThatCan_25 : decode cX0_letThroughAllThatCan 25 = .ok (.iinc 1 1, 3) := by decide +kernel
theorem dX0_letThroughAllThatCan_28 : decode cX0_letThroughAllThatCan 28 = .ok (.goto (-26), 3) := by decide +kernel
theorem dX0_letThroughAllThatCan_31 : decode cX0_letThroughAllThatCan 31 = .ok (.iload_n 1, 1) := by decide +kernel
theorem dX0_letThroughAllThatCan_32 : decode cX0_letThroughAllThatCan 32 = .ok (.ireturn, 1) := by decide +kernel
set_option maxRecDepth 20000 in
theorem ggX0_firstThatCanComeThrough_X0_canComeThrough : GoodIn wsX0_firstThatCanComeThrough wsX0_canComeThrough := goodIn_r _ [8, 9, 10, 11, 12, 7, 13, 14, 15, 16, 17, 18, 19, 20, 21, 22, 23, 24, 25, 26, 27, 28, 29, 30, 31, 32, 33, 34, 35, 36, 37] (by decide +kernel) (by decide +kernel)
set_option maxRecDepth 20000 in
theorem gX0_firstThatCanComeThrough_X0_canComeThrough : GoodIn wsX0_firstThatCanComeThrough (wsV RX0 64 RX0 yX0_canComeThrough wsX0_canComeThrough) := goodIn_app (goodIn_of _ (by decide +kernel)) ggX0_firstThatCanComeThrough_X0_canComeThrough
theorem dX0_firstThatCanComeThrough_0 : decode cX0_firstThatCanComeThrough 0 = .ok (.iconst 0, 1) := by decide +kernel
theorem dX0_firstThatCanComeThrough_1 : decode cX0_firstThatCanComeThrough 1 = .ok (.istore_n 1, 1) := by decide +kernel
theorem dX0_firstThatCanComeThrough_2 : decode cX0_firstThatCanComeThrough 2 = .ok (.iload_n 1, 1) := by decide +kernel
theorem dX0_firstThatCanComeThrough_3 : decode cX0_firstThatCanComeThrough 3 = .ok (.aload_n 0, 1) := by decide +kernel
theorem dX0_firstThatCanComeThrough_4 : decode cX0_firstThatCanComeThrough 4 = .ok (.getfield 30, 3) := by decide +kernel
theorem dX0_firstThatCanComeThrough_7 : decode cX0_firstThatCanComeThrough 7 = .ok (.if_icmp .ge 30, 3) := by decide +kernel
theorem dX0_firstThatCanComeThrough_10 : decode cX0_firstThatCanComeThrough 10 = .ok (.aload_n 0, 1) := by decide +kernel
theorem dX0_firstThatCanComeThrough_11 : decode cX0_firstThatCanComeThrough 11 = .ok (.aload_n 0, 1) := by decide +kernel
theorem dX0_firstThatCanComeThrough_12 : decode cX0_firstThatCanComeThrough 12 = .ok (.getfield 16, 3) := by decide +kernel
theorem dX0_firstThatCanComeThrough_15 : decode cX0_firstThatCanComeThrough 15 = .ok (.iload_n 1, 1) := by decide +kernel
theorem dX0_firstThatCanComeThrough_16 : decode cX0_firstThatCanComeThrough 16 = .ok (.iaload, 1) := by decide +kernel
theorem dX0_firstThatCanComeThrough_17 : decode cX0_firstThatCanComeThrough 17 = .ok (.aload_n 0, 1) := by decide +kernel
theorem dX0_firstThatCanComeThrough_18 : decode cX0_firstThatCanComeThrough 18 = .ok (.getfield 19, 3) := by decide +kernel
theorem dX0_firstThatCanComeThrough_21 : decode cX0_firstThatCanComeThrough 21 = .ok (.iload_n 1, 1) := by decide +kernel
theorem dX0_firstThatCanComeThrough_22 : decode cX0_firstThatCanComeThrough 22 = .ok (.laload, 1) := by decide +kernel
theorem dX0_firstThatCanComeThrough_23 : decode cX0_firstThatCanComeThrough 23 = .ok (.invokevirtual 64, 3) := by decide +kernel
theorem dX0_firstThatCanComeThrough_26 : decode cX0_firstThatCanComeThrough 26 = .ok (.ifCond .eq 5, 3) := by decide +kernel
theorem dX0_firstThatCanComeThrough_29 : decode cX0_firstThatCanComeThrough 29 = .ok (.iload_n 1, 1) := by decide +kernel
theorem dX0_firstThatCanComeThrough_30 : decode cX0_firstThatCanComeThrough 30 = .ok (.ireturn, 1) := by decide +kernel
theorem dX0_firstThatCanComeThrough_31 : decode cX0_firstThatCanComeThrough 31 = .ok (.iinc 1 1, 3) := by decide +kernel
theorem dX0_firstThatCanComeThrough_34 : decode cX0_firstThatCanComeThrough 34 = .ok (.goto (-32), 3) := by decide +kernel
theorem dX0_firstThatCanComeThrough_37 : decode cX0_firstThatCanComeThrough 37 = .ok (.iconst (-1), 1) := by decide +kernel
theorem dX0_firstThatCanComeThrough_38 : decode cX0_firstThatCanComeThrough 38 = .ok (.ireturn, 1) := by decide +kernel
set_option maxRecDepth 20000 in
theorem ggX0_letThrough_X0_actorOf : GoodIn wsX0_letThrough wsX0_actorOf := goodIn_r _ [10] (by decide +kernel) (by decide +kernel)
set_option maxRecDepth 20000 in
theorem gX0_letThrough_X0_actorOf : GoodIn wsX0_letThrough (va_wsS RX0 91 yX0_actorOf wsX0_actorOf) := goodIn_app (goodIn_of _ (by decide +kernel)) ggX0_letThrough_X0_actorOf
set_option maxRecDepth 20000 in
theorem ggX0_letThrough_X0_removeWaiting : GoodIn wsX0_letThrough wsX0_removeWaiting := goodIn_r _ [14, 15, 16, 17, 18, 9, 19, 3, 20, 5, 21, 22, 23, 24, 25, 26, 27, 28, 29, 30] (by decide +kernel) (by decide +kernel)
set_option maxRecDepth 20000 in
theorem gX0_letThrough_X0_removeWaiting : GoodIn wsX0_letThrough (wsV RX0 120 RX0 yX0_removeWaiting wsX0_removeWaiting) := goodIn_app (goodIn_of _ (by decide +kernel)) ggX0_letThrough_X0_removeWaiting
theorem dX0_letThrough_0 : decode cX0_letThrough 0 = .ok (.aload_n 0, 1) := by decide +kernel
theorem dX0_letThrough_1 : decode cX0_letThrough 1 = .ok (.getfield 9, 3) := by decide +kernel
theorem dX0_letThrough_4 : decode cX0_letThrough 4 = .ok (.aload_n 0, 1) := by decide +kernel
theorem dX0_letThrough_5 : decode cX0_letThrough 5 = .ok (.getfield 26, 3) := by decide +kernel
theorem dX0_letThrough_8 : decode cX0_letThrough 8 = .ok (.aload_n 0, 1) := by decide +kernel
theorem dX0_letThrough_9 : decode cX0_letThrough 9 = .ok (.getfield 16, 3) := by decide +kernel
theorem dX0_letThrough_12 : decode cX0_letThrough 12 = .ok (.iload_n 1, 1) := by decide +kernel
theorem dX0_letThrough_13 : decode cX0_letThrough 13 = .ok (.iaload, 1) := by decide +kernel
theorem dX0_letThrough_14 : decode cX0_letThrough 14 = .ok (.iastore, 1) := by decide +kernel
theorem dX0_letThrough_15 : decode cX0_letThrough 15 = .ok (.aload_n 0, 1) := by decide +kernel
theorem dX0_letThrough_16 : decode cX0_letThrough 16 = .ok (.getfield 13, 3) := by decide +kernel
theorem dX0_letThrough_19 : decode cX0_letThrough 19 = .ok (.aload_n 0, 1) := by decide +kernel
theorem dX0_letThrough_20 : decode cX0_letThrough 20 = .ok (.getfield 26, 3) := by decide +kernel
theorem dX0_letThrough_23 : decode cX0_letThrough 23 = .ok (.aload_n 0, 1) := by decide +kernel
theorem dX0_letThrough_24 : decode cX0_letThrough 24 = .ok (.getfield 23, 3) := by decide +kernel
theorem dX0_letThrough_27 : decode cX0_letThrough 27 = .ok (.iload_n 1, 1) := by decide +kernel
theorem dX0_letThrough_28 : decode cX0_letThrough 28 = .ok (.iaload, 1) := by decide +kernel
theorem dX0_letThrough_29 : decode cX0_letThrough 29 = .ok (.iastore, 1) := by decide +kernel
theorem dX0_letThrough_30 : decode cX0_letThrough 30 = .ok (.aload_n 0, 1) := by decide +kernel
theorem dX0_letThrough_31 : decode cX0_letThrough 31 = .ok (.dup, 1) := by decide +kernel
theorem dX0_letThrough_32 : decode cX0_letThrough 32 = .ok (.getfield 26, 3) := by decide +kernel
theorem dX0_letThrough_35 : decode cX0_letThrough 35 = .ok (.iconst 1, 1) := by decide +kernel
theorem dX0_letThrough_36 : decode cX0_letThrough 36 = .ok (.iadd, 1) := by decide +kernel
theorem dX0_letThrough_37 : decode cX0_letThrough 37 = .ok (.putfield 26, 3) := by decide +kernel
theorem dX0_letThrough_40 : decode cX0_letThrough 40 = .ok (.aload_n 0, 1) := by decide +kernel
theorem dX0_letThrough_41 : decode cX0_letThrough 41 = .ok (.dup, 1) := by decide +kernel
theorem dX0_letThrough_42 : decode cX0_letThrough 42 = .ok (.getfield 33, 3) := by decide +kernel
theorem dX0_letThrough_45 : decode cX0_letThrough 45 = .ok (.lconst 1, 1) := by decide +kernel
theorem dX0_letThrough_46 : decode cX0_letThrough 46 = .ok (.bipush 8, 2) := by decide +kernel
theorem dX0_letThrough_48 : decode cX0_letThrough 48 = .ok (.aload_n 0, 1) := by decide +kernel
theorem dX0_letThrough_49 : decode cX0_letThrough 49 = .ok (.getfield 16, 3) := by decide +kernel
theorem dX0_letThrough_52 : decode cX0_letThrough 52 = .ok (.iload_n 1, 1) := by decide +kernel
theorem dX0_letThrough_53 : decode cX0_letThrough 53 = .ok (.iaload, 1) := by decide +kernel
theorem dX0_letThrough_54 : decode cX0_letThrough 54 = .ok (.invokestatic 91, 3) := by decide +kernel
theorem dX0_letThrough_57 : decode cX0_letThrough 57 = .ok (.imul, 1) := by decide +kernel
theorem dX0_letThrough_58 : decode cX0_letThrough 58 = .ok (.lshl, 1) := by decide +kernel
theorem dX0_letThrough_59 : decode cX0_letThrough 59 = .ok (.ladd, 1) := by decide +kernel
theorem dX0_letThrough_60 : decode cX0_letThrough 60 = .ok (.putfield 33, 3) := by decide +kernel
theorem dX0_letThrough_63 : decode cX0_letThrough 63 = .ok (.aload_n 0, 1) := by decide +kernel
theorem dX0_letThrough_64 : decode cX0_letThrough 64 = .ok (.iload_n 1, 1) := by decide +kernel
theorem dX0_letThrough_65 : decode cX0_letThrough 65 = .ok (.invokevirtual 120, 3) := by decide +kernel
theorem dX0_letThrough_68 : decode cX0_letThrough 68 = .ok (.return_, 1) := by decide +kernel
set_option maxRecDepth 20000 in
theorem ggX0_insertWaiting_X0_moveWaiting : GoodIn wsX0_insertWaiting wsX0_moveWaiting := goodIn_r _ [9, 2, 3, 4, 10, 11, 12, 13, 14, 15, 16, 17, 18, 19] (by decide +kernel) (by decide +kernel)
set_option maxRecDepth 20000 in
theorem gX0_insertWaiting_X0_moveWaiting : GoodIn wsX0_insertWaiting (wsV RX0 109 RX0 yX0_moveWaiting wsX0_moveWaiting) := goodIn_app (goodIn_of _ (by decide +kernel)) ggX0_insertWaiting_X0_moveWaiting
theorem dX0_insertWaiting_0 : decode cX0_insertWaiting 0 = .ok (.aload_n 0, 1) := by decide +kernel
theorem dX0_insertWaiting_1 : decode cX0_insertWaiting 1 = .ok (.getfield 30, 3) := by decide +kernel
theorem dX0_insertWaiting_4 : decode cX0_insertWaiting 4 = .ok (.istore 5, 2) := by decide +kernel
theorem dX0_insertWaiting_6 : decode cX0_insertWaiting 6 = .ok (.iload 5, 2) := by decide +kernel
theorem dX0_insertWaiting_8 : decode cX0_insertWaiting 8 = .ok (.ifCond .le 32, 3) := by decide +kernel
theorem dX0_insertWaiting_11 : decode cX0_insertWaiting 11 = .ok (.aload_n 0, 1) := by decide +kernel
theorem dX0_insertWaiting_12 : decode cX0_insertWaiting 12 = .ok (.getfield 16, 3) := by decide +kernel
theorem dX0_insertWaiting_15 : decode cX0_insertWaiting 15 = .ok (.iload 5, 2) := by decide +kernel
theorem dX0_insertWaiting_17 : decode cX0_insertWaiting 17 = .ok (.iconst 1, 1) := by decide +kernel
theorem dX0_insertWaiting_18 : decode cX0_insertWaiting 18 = .ok (.isub, 1) := by decide +kernel
theorem dX0_insertWaiting_19 : decode cX0_insertWaiting 19 = .ok (.iaload, 1) := by decide +kernel
theorem dX0_insertWaiting_20 : decode cX0_insertWaiting 20 = .ok (.iload_n 1, 1) := by decide +kernel
theorem dX0_insertWaiting_21 : decode cX0_insertWaiting 21 = .ok (.if_icmp .le 19, 3) := by decide +kernel
theorem dX0_insertWaiting_24 : decode cX0_insertWaiting 24 = .ok (.aload_n 0, 1) := by decide +kernel
theorem dX0_insertWaiting_25 : decode cX0_insertWaiting 25 = .ok (.iload 5, 2) := by decide +kernel
theorem dX0_insertWaiting_27 : decode cX0_insertWaiting 27 = .ok (.iconst 1, 1) := by decide +kernel
theorem dX0_insertWaiting_28 : decode cX0_insertWaiting 28 = .ok (.isub, 1) := by decide +kernel
theorem dX0_insertWaiting_29 : decode cX0_insertWaiting 29 = .ok (.iload 5, 2) := by decide +kernel
theorem dX0_insertWaiting_31 : decode cX0_insertWaiting 31 = .ok (.invokevirtual 109, 3) := by decide +kernel
theorem dX0_insertWaiting_34 : decode cX0_insertWaiting 34 = .ok (.iinc 5 (-1), 3) := by decide +kernel
theorem dX0_insertWaiting_37 : decode cX0_insertWaiting 37 = .ok (.goto (-31), 3) := by decide +kernel
theorem dX0_insertWaiting_40 : decode cX0_insertWaiting 40 = .ok (.aload_n 0, 1) := by decide +kernel
theorem dX0_insertWaiting_41 : decode cX0_insertWaiting 41 = .ok (.getfield 16, 3) := by decide +kernel
theorem dX0_insertWaiting_44 : decode cX0_insertWaiting 44 = .ok (.iload 5, 2) := by decide +kernel
theorem dX0_insertWaiting_46 : decode cX0_insertWaiting 46 = .ok (.iload_n 1, 1) := by decide +kernel
theorem dX0_insertWaiting_47 : decode cX0_insertWaiting 47 = .ok (.iastore, 1) := by decide +kernel
theorem dX0_insertWaiting_48 : decode cX0_insertWaiting 48 = .ok (.aload_n 0, 1) := by decide +kernel
theorem dX0_insertWaiting_49 : decode cX0_insertWaiting 49 = .ok (.getfield 19, 3) := by decide +kernel
theorem dX0_insertWaiting_52 : decode cX0_insertWaiting 52 = .ok (.iload 5, 2) := by decide +kernel
theorem dX0_insertWaiting_54 : decode cX0_insertWaiting 54 = .ok (.lload_n 2, 1) := by decide +kernel
theorem dX0_insertWaiting_55 : decode cX0_insertWaiting 55 = .ok (.lastore, 1) := by decide +kernel
theorem dX0_insertWaiting_56 : decode cX0_insertWaiting 56 = .ok (.aload_n 0, 1) := by decide +kernel
theorem dX0_insertWaiting_57 : decode cX0_insertWaiting 57 = .ok (.getfield 23, 3) := by decide +kernel
theorem dX0_insertWaiting_60 : decode cX0_insertWaiting 60 = .ok (.iload 5, 2) := by decide +kernel
theorem dX0_insertWaiting_62 : decode cX0_insertWaiting 62 = .ok (.iload 4, 2) := by decide +kernel
theorem dX0_insertWaiting_64 : decode cX0_insertWaiting 64 = .ok (.iastore, 1) := by decide +kernel
theorem dX0_insertWaiting_65 : decode cX0_insertWaiting 65 = .ok (.aload_n 0, 1) := by decide +kernel
theorem dX0_insertWaiting_66 : decode cX0_insertWaiting 66 = .ok (.dup, 1) := by decide +kernel
theorem dX0_insertWaiting_67 : decode cX0_insertWaiting 67 = .ok (.getfield 30, 3) := by decide +kernel
theorem dX0_insertWaiting_70 : decode cX0_insertWaiting 70 = .ok (.iconst 1, 1) := by decide +kernel
theorem dX0_insertWaiting_71 : decode cX0_insertWaiting 71 = .ok (.iadd, 1) := by decide +kernel
theorem dX0_insertWaiting_72 : decode cX0_insertWaiting 72 = .ok (.putfield 30, 3) := by decide +kernel
theorem dX0_insertWaiting_75 : decode cX0_insertWaiting 75 = .ok (.return_, 1) := by decide +kernel
set_option maxRecDepth 20000 in
theorem ggX0_removeWaiting_X0_moveWaiting : GoodIn wsX0_removeWaiting wsX0_moveWaiting := goodIn_r _ [6, 7, 8, 9, 10, 11, 12, 13, 14, 15, 16, 17, 18, 19] (by decide +kernel) (by decide +kernel)
set_option maxRecDepth 20000 in
theorem gX0_removeWaiting_X0_moveWaiting : GoodIn wsX0_removeWaiting (wsV RX0 109 RX0 yX0_moveWaiting wsX0_moveWaiting) := goodIn_app (goodIn_of _ (by decide +kernel)) ggX0_removeWaiting_X0_moveWaiting
theorem dX0_removeWaiting_0 : decode cX0_removeWaiting 0 = .ok (.iload_n 1, 1) := by decide +kernel
theorem dX0_removeWaiting_1 : decode cX0_removeWaiting 1 = .ok (.iconst 1, 1) := by decide +kernel
theorem dX0_removeWaiting_2 : decode cX0_removeWaiting 2 = .ok (.iadd, 1) := by decide +kernel
theorem dX0_removeWaiting_3 : decode cX0_removeWaiting 3 = .ok (.istore_n 2, 1) := by decide +kernel
theorem dX0_removeWaiting_4 : decode cX0_removeWaiting 4 = .ok (.iload_n 2, 1) := by decide +kernel
theorem dX0_removeWaiting_5 : decode cX0_removeWaiting 5 = .ok (.aload_n 0, 1) := by decide +kernel
theorem dX0_removeWaiting_6 : decode cX0_removeWaiting 6 = .ok (.getfield 30, 3) := by decide +kernel
theorem dX0_removeWaiting_9 : decode cX0_removeWaiting 9 = .ok (.if_icmp .ge 17, 3) := by decide +kernel
theorem dX0_removeWaiting_12 : decode cX0_removeWaiting 12 = .ok (.aload_n 0, 1) := by decide +kernel
theorem dX0_removeWaiting_13 : decode cX0_removeWaiting 13 = .ok (.iload_n 2, 1) := by decide +kernel
theorem dX0_removeWaiting_14 : decode cX0_removeWaiting 14 = .ok (.iload_n 2, 1) := by decide +kernel
theorem dX0_removeWaiting_15 : decode cX0_removeWaiting 15 = .ok (.iconst 1, 1) := by decide +kernel
theorem dX0_removeWaiting_16 : decode cX0_removeWaiting 16 = .ok (.isub, 1) := by decide +kernel
theorem dX0_removeWaiting_17 : decode cX0_removeWaiting 17 = .ok (.invokevirtual 109, 3) := by decide +kernel
theorem dX0_removeWaiting_20 : decode cX0_removeWaiting 20 = .ok (.iinc 2 1, 3) := by decide +kernel
theorem dX0_removeWaiting_23 : decode cX0_removeWaiting 23 = .ok (.goto (-19), 3) := by decide +kernel
theorem dX0_removeWaiting_26 : decode cX0_removeWaiting 26 = .ok (.aload_n 0, 1) := by decide +kernel
theorem dX0_removeWaiting_27 : decode cX0_removeWaiting 27 = .ok (.dup, 1) := by decide +kernel
theorem dX0_removeWaiting_28 : decode cX0_removeWaiting 28 = .ok (.getfield 30, 3) := by decide +kernel
theorem dX0_removeWaiting_31 : decode cX0_removeWaiting 31 = .ok (.iconst 1, 1) := by decide +kernel
theorem dX0_removeWaiting_32 : decode cX0_removeWaiting 32 = .ok (.isub, 1) := by decide +kernel
theorem dX0_removeWaiting_33 : decode cX0_removeWaiting 33 = .ok (.putfield 30, 3) := by decide +kernel
theorem dX0_removeWaiting_36 : decode cX0_removeWaiting 36 = .ok (.return_, 1) := by decide +kernel
theorem dX0_moveWaiting_0 : decode cX0_moveWaiting 0 = .ok (.aload_n 0, 1) := by decide +kernel
theorem dX0_moveWaiting_1 : decode cX0_moveWaiting 1 = .ok (.getfield 16, 3) := by decide +kernel
theorem dX0_moveWaiting_4 : decode cX0_moveWaiting 4 = .ok (.iload_n 2, 1) := by decide +kernel
theorem dX0_moveWaiting_5 : decode cX0_moveWaiting 5 = .ok (.aload_n 0, 1) := by decide +kernel
theorem dX0_moveWaiting_6 : decode cX0_moveWaiting 6 = .ok (.getfield 16, 3) := by decide +kernel
theorem dX0_moveWaiting_9 : decode cX0_moveWaiting 9 = .ok (.iload_n 1, 1) := by decide +kernel
theorem dX0_moveWaiting_10 : decode cX0_moveWaiting 10 = .ok (.iaload, 1) := by decide +kernel
theorem dX0_moveWaiting_11 : decode cX0_moveWaiting 11 = .ok (.iastore, 1) := by decide +kernel
theorem dX0_moveWaiting_12 : decode cX0_moveWaiting 12 = .ok (.aload_n 0, 1) := by decide +kernel
theorem dX0_moveWaiting_13 : decode cX0_moveWaiting 13 = .ok (.getfield 19, 3) := by decide +kernel
theorem dX0_moveWaiting_16 : decode cX0_moveWaiting 16 = .ok (.iload_n 2, 1) := by decide +kernel
theorem dX0_moveWaiting_17 : decode cX0_moveWaiting 17 = .ok (.aload_n 0, 1) := by decide +kernel
theorem dX0_moveWaiting_18 : decode cX0_moveWaiting 18 = .ok (.getfield 19, 3) := by decide +kernel
theorem dX0_moveWaiting_21 : decode cX0_moveWaiting 21 = .ok (.iload_n 1, 1) := by decide +kernel
theorem dX0_moveWaiting_22 : decode cX0_moveWaiting 22 = .ok (.laload, 1) := by decide +kernel
theorem dX0_moveWaiting_23 : decode cX0_moveWaiting 23 = .ok (.lastore, 1) := by decide +kernel
theorem dX0_moveWaiting_24 : decode cX0_moveWaiting 24 = .ok (.aload_n 0, 1) := by decide +kernel
theorem dX0_moveWaiting_25 : decode cX0_moveWaiting 25 = .ok (.getfield 23, 3) := by decide +kernel
theorem dX0_moveWaiting_28 : decode cX0_moveWaiting 28 = .ok (.iload_n 2, 1) := by decide +kernel
theorem dX0_moveWaiting_29 : decode cX0_moveWaiting 29 = .ok (.aload_n 0, 1) := by decide +kernel
theorem dX0_moveWaiting_30 : decode cX0_moveWaiting 30 = .ok (.getfield 23, 3) := by decide +kernel
theorem dX0_moveWaiting_33 : decode cX0_moveWaiting 33 = .ok (.iload_n 1, 1) := by decide +kernel
theorem dX0_moveWaiting_34 : decode cX0_moveWaiting 34 = .ok (.iaload, 1) := by decide +kernel
theorem dX0_moveWaiting_35 : decode cX0_moveWaiting 35 = .ok (.iastore, 1) := by decide +kernel
theorem dX0_moveWaiting_36 : decode cX0_moveWaiting 36 = .ok (.return_, 1) := by decide +kernel
set_option maxRecDepth 20000 in
theorem ggL_offer_X0_offer : GoodIn wsL_offer wsX0_offer := goodIn_ca (goodIn_ca (goodIn_r _ [7, 8, 9, 10, 11, 12, 13, 14, 15, 16, 17, 18, 19, 20, 6, 21, 22, 23, 24, 25, 26, 27, 28, 29, 30, 31, 32, 33, 34, 35, 36, 37, 38, 39, 40, 41, 42, 43, 44, 45, 46, 47, 48, 49, 50, 51, 52, 53, 54, 55, 56, 57, 58, 59, 60, 61, 62, 63, 64, 65, 66, 67, 68, 69, 70, 71, 72, 73, 74, 75, 76, 77, 78, 79, 80, 81, 82, 83, 84, 85, 86, 87, 88, 89, 90, 91, 92, 93] (by decide +kernel) (by decide +kernel)) (goodIn_sub (fun _ h => List.mem_cons_of_mem _ (List.mem_append_left _ (List.mem_append_right _ h))) (by decide +kernel))) (goodIn_sub (fun _ h => List.mem_cons_of_mem _ (List.mem_append_right _ h)) (by decide +kernel))
set_option maxRecDepth 20000 in
theorem gL_offer_X0_offer : GoodIn wsL_offer (wsV RL 7 RX0 yX0_offer wsX0_offer) := goodIn_app (goodIn_of _ (by decide +kernel)) ggL_offer_X0_offer
theorem dL_offer_0 : decode cL_offer 0 = .ok (.aload 6, 2) := by decide +kernel
theorem dL_offer_2 : decode cL_offer 2 = .ok (.iconst 0, 1) := by decide +kernel
theorem dL_offer_3 : decode cL_offer 3 = .ok (.aload_n 0, 1) := by decide +kernel
theorem dL_offer_4 : decode cL_offer 4 = .ok (.iload_n 1, 1) := by decide +kernel
theorem dL_offer_5 : decode cL_offer 5 = .ok (.iload_n 2, 1) := by decide +kernel
theorem dL_offer_6 : decode cL_offer 6 = .ok (.lload_n 3, 1) := by decide +kernel
theorem dL_offer_7 : decode cL_offer 7 = .ok (.iload 5, 2) := by decide +kernel
theorem dL_offer_9 : decode cL_offer 9 = .ok (.invokevirtual 7, 3) := by decide +kernel
theorem dL_offer_12 : decode cL_offer 12 = .ok (.i2l, 1) := by decide +kernel
theorem dL_offer_13 : decode cL_offer 13 = .ok (.lastore, 1) := by decide +kernel
theorem dL_offer_14 : decode cL_offer 14 = .ok (.goto 11, 3) := by decide +kernel
theorem dL_offer_17 : decode cL_offer 17 = .ok (.astore 7, 2) := by decide +kernel
theorem dL_offer_19 : decode cL_offer 19 = .ok (.iconst 1, 1) := by decide +kernel
theorem dL_offer_20 : decode cL_offer 20 = .ok (.ireturn, 1) := by decide +kernel
theorem dL_offer_21 : decode cL_offer 21 = .ok (.astore 7, 2) := by decide +kernel
theorem dL_offer_23 : decode cL_offer 23 = .ok (.iconst 2, 1) := by decide +kernel
theorem dL_offer_24 : decode cL_offer 24 = .ok (.ireturn, 1) := by decide +kernel
theorem dL_offer_25 : decode cL_offer 25 = .ok (.iconst 0, 1) := by decide +kernel
theorem dL_offer_26 : decode cL_offer 26 = .ok (.ireturn, 1) := by decide +kernel
