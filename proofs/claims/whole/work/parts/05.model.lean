def RY : String := "CausalGateModel"
def TY : u_T := fun k => match k with
  | 0 => ("CausalGateModel", "thrown", "I", false)
  | 1 => ("CausalGateModel", "clock", "[I", true)
  | 2 => ("CausalGateModel", "through", "I", false)
  | 3 => ("CausalGateModel", "actors", "[I", true)
  | 4 => ("CausalGateModel", "seqs", "[I", true)
  | 5 => ("CausalGateModel", "labels", "[I", true)
  | 6 => ("CausalGateModel", "waiting", "I", false)
  | 7 => ("CausalGateModel", "wActors", "[I", true)
  | 8 => ("CausalGateModel", "wSeqs", "[I", true)
  | 9 => ("CausalGateModel", "wClocks", "[J", true)
  | 10 => ("CausalGateModel", "wLabels", "[I", true)
  | 11 => ("CausalGateModel", "knownOffers", "I", false)
  | _ => ("CausalGateModel", "most", "I", false)
def tyY : Nat → FieldType := fun k => match k with
  | 0 => .int
  | 1 => .array .int
  | 2 => .int
  | 3 => .array .int
  | 4 => .array .int
  | 5 => .array .int
  | 6 => .int
  | 7 => .array .int
  | 8 => .array .int
  | 9 => .array .long
  | 10 => .array .int
  | 11 => .int
  | _ => .int
abbrev wsY0 : List Cond := u_ws RY TY 13
theorem nmY : ∀ a, a < 13 → ∀ b, b < 13 → a ≠ b → (TY a).2.1 ≠ (TY b).2.1 := by decide +kernel
theorem tyY_ok : ∀ k, k < 13 → parseFieldDescriptor (TY k).2.2.1 = some (tyY k) := by decide +kernel
theorem inY : ∀ w ∈ wsY0, w ∈ lw_tbl := by decide +kernel
theorem inX0 : ∀ w ∈ wsX00, w ∈ lw_tbl := by decide +kernel
abbrev clS : List vw_C := [(RX0, TX0, 10), (RY, TY, 13)]
abbrev cY_init : ByteArray := prog_3_method_1_code
def yY_init : MethodName := ⟨RY, "<init>", "()V"⟩
abbrev cY_thrown : ByteArray := prog_3_method_2_code
def yY_thrown : MethodName := ⟨RY, "thrown", "()I"⟩
abbrev cY_part : ByteArray := prog_3_method_3_code
def yY_part : MethodName := ⟨RY, "part", "(JI)I"⟩
abbrev cY_lacking : ByteArray := prog_3_method_4_code
def yY_lacking : MethodName := ⟨RY, "lacking", "(IJ)I"⟩
abbrev cY_canCome : ByteArray := prog_3_method_5_code
def yY_canCome : MethodName := ⟨RY, "canCome", "(IIJ)Z"⟩
abbrev cY_isKnown : ByteArray := prog_3_method_6_code
def yY_isKnown : MethodName := ⟨RY, "isKnown", "(II)Z"⟩
abbrev cY_comes : ByteArray := prog_3_method_7_code
def yY_comes : MethodName := ⟨RY, "comes", "(III)V"⟩
abbrev cY_drop : ByteArray := prog_3_method_8_code
def yY_drop : MethodName := ⟨RY, "drop", "(I)V"⟩
abbrev cY_keep : ByteArray := prog_3_method_9_code
def yY_keep : MethodName := ⟨RY, "keep", "(IIJI)V"⟩
abbrev cY_ready : ByteArray := prog_3_method_10_code
def yY_ready : MethodName := ⟨RY, "ready", "()I"⟩
abbrev cY_clear : ByteArray := prog_3_method_11_code
def yY_clear : MethodName := ⟨RY, "clear", "()V"⟩
abbrev cY_offer : ByteArray := prog_3_method_12_code
def yY_offer : MethodName := ⟨RY, "offer", "(IIJI)I"⟩
abbrev cY_known : ByteArray := prog_3_method_13_code
def yY_known : MethodName := ⟨RY, "known", "(II)Z"⟩
abbrev cY_clock : ByteArray := prog_3_method_14_code
def yY_clock : MethodName := ⟨RY, "clock", "()J"⟩
abbrev cY_through : ByteArray := prog_3_method_15_code
def yY_through : MethodName := ⟨RY, "through", "(II)I"⟩
abbrev cY_waiting : ByteArray := prog_3_method_16_code
def yY_waiting : MethodName := ⟨RY, "waiting", "(II)I"⟩
abbrev cY_lacks : ByteArray := prog_3_method_17_code
def yY_lacks : MethodName := ⟨RY, "lacks", "(JI)Z"⟩
abbrev cY_ahead : ByteArray := prog_3_method_18_code
def yY_ahead : MethodName := ⟨RY, "ahead", "(J)I"⟩
abbrev cY_next : ByteArray := prog_3_method_19_code
def yY_next : MethodName := ⟨RY, "next", "(JI)I"⟩
abbrev cY_compare : ByteArray := prog_3_method_20_code
def yY_compare : MethodName := ⟨RY, "compare", "(J)I"⟩
abbrev cY_forget : ByteArray := prog_3_method_21_code
def yY_forget : MethodName := ⟨RY, "forget", "(I)I"⟩
abbrev cY_look : ByteArray := prog_3_method_22_code
def yY_look : MethodName := ⟨RY, "look", "(I)I"⟩
def wsY_init_r1 : List Cond := [Cond.arrayClass .int, Cond.fieldLink RY 7 "CausalGateModel" "clock" "[I", Cond.fieldLink RY 13 "CausalGateModel" "actors" "[I", Cond.fieldLink RY 16 "CausalGateModel" "seqs" "[I", Cond.fieldLink RY 19 "CausalGateModel" "labels" "[I", Cond.fieldLink RY 22 "CausalGateModel" "wActors" "[I", Cond.fieldLink RY 25 "CausalGateModel" "wSeqs" "[I", Cond.arrayClass .long, Cond.fieldLink RY 28 "CausalGateModel" "wClocks" "[J", Cond.fieldLink RY 32 "CausalGateModel" "wLabels" "[I", Cond.methodLink RY 1 objectInit, Cond.instanceMethod objectInit, Cond.code objectInit ⟨#[0xb1]⟩ 1 none]
def wsY_init : List Cond := .code yY_init cY_init 1 none :: (wsY_init_r1 ++ wsY0)
def wsY_thrown_r1 : List Cond := [Cond.fieldLink RY 35 "CausalGateModel" "thrown" "I"]
def wsY_thrown : List Cond := .code yY_thrown cY_thrown 1 (some .int) :: (wsY_thrown_r1 ++ wsY0)
def wsY_part_r1 : List Cond := [Cond.constantLong RY 39 255]
def wsY_part : List Cond := .code yY_part cY_part 3 (some .int) :: (wsY_part_r1 ++ wsY0)
def wsY_lacking_r1 : List Cond := [Cond.fieldLink RY 7 "CausalGateModel" "clock" "[I", Cond.methodLink RY 41 yY_part, Cond.static yY_part, Cond.initialized RY, Cond.code yY_part cY_part 3 (some .int), Cond.constantLong RY 39 255]
def wsY_lacking : List Cond := .code yY_lacking cY_lacking 6 (some .int) :: (wsY_lacking_r1 ++ wsY0)
def wsY_canCome_r1 : List Cond := [Cond.fieldLink RY 7 "CausalGateModel" "clock" "[I", Cond.methodLink RY 45 yY_lacking, Cond.instanceMethod yY_lacking, Cond.selects RY yY_lacking yY_lacking, Cond.initialized RY, Cond.code yY_lacking cY_lacking 6 (some .int), Cond.methodLink RY 41 yY_part, Cond.static yY_part, Cond.code yY_part cY_part 3 (some .int), Cond.constantLong RY 39 255]
def wsY_canCome : List Cond := .code yY_canCome cY_canCome 5 (some .boolean) :: (wsY_canCome_r1 ++ wsY0)
def wsY_isKnown_r1 : List Cond := [Cond.fieldLink RY 7 "CausalGateModel" "clock" "[I", Cond.fieldLink RY 49 "CausalGateModel" "waiting" "I", Cond.fieldLink RY 22 "CausalGateModel" "wActors" "[I", Cond.fieldLink RY 25 "CausalGateModel" "wSeqs" "[I"]
def wsY_isKnown : List Cond := .code yY_isKnown cY_isKnown 5 (some .boolean) :: (wsY_isKnown_r1 ++ wsY0)
def wsY_comes_r1 : List Cond := [Cond.fieldLink RY 13 "CausalGateModel" "actors" "[I", Cond.fieldLink RY 52 "CausalGateModel" "through" "I", Cond.fieldLink RY 16 "CausalGateModel" "seqs" "[I", Cond.fieldLink RY 19 "CausalGateModel" "labels" "[I", Cond.fieldLink RY 7 "CausalGateModel" "clock" "[I"]
def wsY_comes : List Cond := .code yY_comes cY_comes 4 none :: (wsY_comes_r1 ++ wsY0)
def wsY_drop_r1 : List Cond := [Cond.fieldLink RY 49 "CausalGateModel" "waiting" "I", Cond.fieldLink RY 22 "CausalGateModel" "wActors" "[I", Cond.fieldLink RY 25 "CausalGateModel" "wSeqs" "[I", Cond.fieldLink RY 28 "CausalGateModel" "wClocks" "[J", Cond.fieldLink RY 32 "CausalGateModel" "wLabels" "[I"]
def wsY_drop : List Cond := .code yY_drop cY_drop 3 none :: (wsY_drop_r1 ++ wsY0)
def wsY_keep_r1 : List Cond := [Cond.fieldLink RY 49 "CausalGateModel" "waiting" "I", Cond.fieldLink RY 22 "CausalGateModel" "wActors" "[I", Cond.fieldLink RY 25 "CausalGateModel" "wSeqs" "[I", Cond.fieldLink RY 28 "CausalGateModel" "wClocks" "[J", Cond.fieldLink RY 32 "CausalGateModel" "wLabels" "[I"]
def wsY_keep : List Cond := .code yY_keep cY_keep 7 none :: (wsY_keep_r1 ++ wsY0)
def wsY_ready_r1 : List Cond := [Cond.fieldLink RY 49 "CausalGateModel" "waiting" "I", Cond.fieldLink RY 22 "CausalGateModel" "wActors" "[I", Cond.fieldLink RY 25 "CausalGateModel" "wSeqs" "[I", Cond.fieldLink RY 28 "CausalGateModel" "wClocks" "[J", Cond.methodLink RY 55 yY_canCome, Cond.instanceMethod yY_canCome, Cond.selects RY yY_canCome yY_canCome, Cond.initialized RY, Cond.code yY_canCome cY_canCome 5 (some .boolean), Cond.fieldLink RY 7 "CausalGateModel" "clock" "[I", Cond.methodLink RY 45 yY_lacking, Cond.instanceMethod yY_lacking, Cond.selects RY yY_lacking yY_lacking, Cond.code yY_lacking cY_lacking 6 (some .int), Cond.methodLink RY 41 yY_part, Cond.static yY_part, Cond.code yY_part cY_part 3 (some .int), Cond.constantLong RY 39 255]
def wsY_ready : List Cond := .code yY_ready cY_ready 3 (some .int) :: (wsY_ready_r1 ++ wsY0)
def wsY_clear_r1 : List Cond := [Cond.fieldLink RY 35 "CausalGateModel" "thrown" "I", Cond.fieldLink RY 7 "CausalGateModel" "clock" "[I", Cond.fieldLink RY 52 "CausalGateModel" "through" "I", Cond.fieldLink RY 49 "CausalGateModel" "waiting" "I", Cond.fieldLink RY 59 "CausalGateModel" "knownOffers" "I", Cond.fieldLink RY 62 "CausalGateModel" "most" "I"]
def wsY_clear : List Cond := .code yY_clear cY_clear 2 none :: (wsY_clear_r1 ++ wsY0)
def wsY_offer_r1 : List Cond := [Cond.fieldLink RY 35 "CausalGateModel" "thrown" "I", Cond.fieldLink RY 59 "CausalGateModel" "knownOffers" "I", Cond.fieldLink RY 49 "CausalGateModel" "waiting" "I", Cond.fieldLink RY 52 "CausalGateModel" "through" "I", Cond.fieldLink RY 22 "CausalGateModel" "wActors" "[I", Cond.fieldLink RY 25 "CausalGateModel" "wSeqs" "[I", Cond.fieldLink RY 32 "CausalGateModel" "wLabels" "[I", Cond.fieldLink RY 62 "CausalGateModel" "most" "I", Cond.methodLink RY 65 yY_isKnown, Cond.instanceMethod yY_isKnown, Cond.selects RY yY_isKnown yY_isKnown, Cond.initialized RY, Cond.code yY_isKnown cY_isKnown 5 (some .boolean), Cond.fieldLink RY 7 "CausalGateModel" "clock" "[I", Cond.methodLink RY 55 yY_canCome, Cond.instanceMethod yY_canCome, Cond.selects RY yY_canCome yY_canCome, Cond.code yY_canCome cY_canCome 5 (some .boolean), Cond.methodLink RY 45 yY_lacking, Cond.instanceMethod yY_lacking, Cond.selects RY yY_lacking yY_lacking, Cond.code yY_lacking cY_lacking 6 (some .int), Cond.methodLink RY 41 yY_part, Cond.static yY_part]
def wsY_offer_r2 : List Cond := [Cond.code yY_part cY_part 3 (some .int), Cond.constantLong RY 39 255, Cond.methodLink RY 69 yY_keep, Cond.instanceMethod yY_keep, Cond.selects RY yY_keep yY_keep, Cond.code yY_keep cY_keep 7 none, Cond.fieldLink RY 28 "CausalGateModel" "wClocks" "[J", Cond.methodLink RY 73 yY_ready, Cond.instanceMethod yY_ready, Cond.selects RY yY_ready yY_ready, Cond.code yY_ready cY_ready 3 (some .int), Cond.methodLink RY 77 yY_comes, Cond.instanceMethod yY_comes, Cond.selects RY yY_comes yY_comes, Cond.code yY_comes cY_comes 4 none, Cond.fieldLink RY 13 "CausalGateModel" "actors" "[I", Cond.fieldLink RY 16 "CausalGateModel" "seqs" "[I", Cond.fieldLink RY 19 "CausalGateModel" "labels" "[I", Cond.methodLink RY 81 yY_drop, Cond.instanceMethod yY_drop, Cond.selects RY yY_drop yY_drop, Cond.code yY_drop cY_drop 3 none]
def wsY_offer : List Cond := .code yY_offer cY_offer 8 (some .int) :: ((wsY_offer_r1 ++ wsY_offer_r2) ++ wsY0)
def wsY_known_r1 : List Cond := [Cond.fieldLink RY 35 "CausalGateModel" "thrown" "I", Cond.methodLink RY 65 yY_isKnown, Cond.instanceMethod yY_isKnown, Cond.selects RY yY_isKnown yY_isKnown, Cond.initialized RY, Cond.code yY_isKnown cY_isKnown 5 (some .boolean), Cond.fieldLink RY 7 "CausalGateModel" "clock" "[I", Cond.fieldLink RY 49 "CausalGateModel" "waiting" "I", Cond.fieldLink RY 22 "CausalGateModel" "wActors" "[I", Cond.fieldLink RY 25 "CausalGateModel" "wSeqs" "[I"]
def wsY_known : List Cond := .code yY_known cY_known 3 (some .boolean) :: (wsY_known_r1 ++ wsY0)
def wsY_clock_r1 : List Cond := [Cond.fieldLink RY 35 "CausalGateModel" "thrown" "I", Cond.fieldLink RY 7 "CausalGateModel" "clock" "[I"]
def wsY_clock : List Cond := .code yY_clock cY_clock 4 (some .long) :: (wsY_clock_r1 ++ wsY0)
def wsY_through_r1 : List Cond := [Cond.fieldLink RY 52 "CausalGateModel" "through" "I", Cond.fieldLink RY 35 "CausalGateModel" "thrown" "I", Cond.fieldLink RY 13 "CausalGateModel" "actors" "[I", Cond.fieldLink RY 16 "CausalGateModel" "seqs" "[I", Cond.fieldLink RY 19 "CausalGateModel" "labels" "[I"]
def wsY_through : List Cond := .code yY_through cY_through 3 (some .int) :: (wsY_through_r1 ++ wsY0)
def wsY_waiting_r1 : List Cond := [Cond.fieldLink RY 49 "CausalGateModel" "waiting" "I", Cond.fieldLink RY 35 "CausalGateModel" "thrown" "I", Cond.fieldLink RY 22 "CausalGateModel" "wActors" "[I", Cond.fieldLink RY 25 "CausalGateModel" "wSeqs" "[I", Cond.fieldLink RY 7 "CausalGateModel" "clock" "[I", Cond.fieldLink RY 28 "CausalGateModel" "wClocks" "[J", Cond.fieldLink RY 32 "CausalGateModel" "wLabels" "[I", Cond.methodLink RY 45 yY_lacking, Cond.instanceMethod yY_lacking, Cond.selects RY yY_lacking yY_lacking, Cond.initialized RY, Cond.code yY_lacking cY_lacking 6 (some .int), Cond.methodLink RY 41 yY_part, Cond.static yY_part, Cond.code yY_part cY_part 3 (some .int), Cond.constantLong RY 39 255]
def wsY_waiting : List Cond := .code yY_waiting cY_waiting 6 (some .int) :: (wsY_waiting_r1 ++ wsY0)
def wsY_lacks_r1 : List Cond := [Cond.fieldLink RY 16 "CausalGateModel" "seqs" "[I", Cond.fieldLink RY 13 "CausalGateModel" "actors" "[I", Cond.methodLink RY 41 yY_part, Cond.static yY_part, Cond.initialized RY, Cond.code yY_part cY_part 3 (some .int), Cond.constantLong RY 39 255]
def wsY_lacks : List Cond := .code yY_lacks cY_lacks 4 (some .boolean) :: (wsY_lacks_r1 ++ wsY0)
def wsY_ahead_r1 : List Cond := [Cond.fieldLink RY 35 "CausalGateModel" "thrown" "I", Cond.fieldLink RY 52 "CausalGateModel" "through" "I", Cond.methodLink RY 85 yY_lacks, Cond.instanceMethod yY_lacks, Cond.selects RY yY_lacks yY_lacks, Cond.initialized RY, Cond.code yY_lacks cY_lacks 4 (some .boolean), Cond.fieldLink RY 16 "CausalGateModel" "seqs" "[I", Cond.fieldLink RY 13 "CausalGateModel" "actors" "[I", Cond.methodLink RY 41 yY_part, Cond.static yY_part, Cond.code yY_part cY_part 3 (some .int), Cond.constantLong RY 39 255]
def wsY_ahead : List Cond := .code yY_ahead cY_ahead 5 (some .int) :: (wsY_ahead_r1 ++ wsY0)
def wsY_next_r1 : List Cond := [Cond.fieldLink RY 35 "CausalGateModel" "thrown" "I", Cond.fieldLink RY 52 "CausalGateModel" "through" "I", Cond.methodLink RY 85 yY_lacks, Cond.instanceMethod yY_lacks, Cond.selects RY yY_lacks yY_lacks, Cond.initialized RY, Cond.code yY_lacks cY_lacks 4 (some .boolean), Cond.fieldLink RY 16 "CausalGateModel" "seqs" "[I", Cond.fieldLink RY 13 "CausalGateModel" "actors" "[I", Cond.methodLink RY 41 yY_part, Cond.static yY_part, Cond.code yY_part cY_part 3 (some .int), Cond.constantLong RY 39 255]
def wsY_next : List Cond := .code yY_next cY_next 5 (some .int) :: (wsY_next_r1 ++ wsY0)
def wsY_compare_r1 : List Cond := [Cond.fieldLink RY 35 "CausalGateModel" "thrown" "I", Cond.fieldLink RY 7 "CausalGateModel" "clock" "[I", Cond.methodLink RY 41 yY_part, Cond.static yY_part, Cond.initialized RY, Cond.code yY_part cY_part 3 (some .int), Cond.constantLong RY 39 255]
def wsY_compare : List Cond := .code yY_compare cY_compare 6 (some .int) :: (wsY_compare_r1 ++ wsY0)
def wsY_forget_r1 : List Cond := [Cond.fieldLink RY 35 "CausalGateModel" "thrown" "I", Cond.fieldLink RY 49 "CausalGateModel" "waiting" "I", Cond.fieldLink RY 22 "CausalGateModel" "wActors" "[I", Cond.methodLink RY 81 yY_drop, Cond.instanceMethod yY_drop, Cond.selects RY yY_drop yY_drop, Cond.initialized RY, Cond.code yY_drop cY_drop 3 none, Cond.fieldLink RY 25 "CausalGateModel" "wSeqs" "[I", Cond.fieldLink RY 28 "CausalGateModel" "wClocks" "[J", Cond.fieldLink RY 32 "CausalGateModel" "wLabels" "[I"]
def wsY_forget : List Cond := .code yY_forget cY_forget 4 (some .int) :: (wsY_forget_r1 ++ wsY0)
def wsY_look_r1 : List Cond := [Cond.fieldLink RY 35 "CausalGateModel" "thrown" "I", Cond.fieldLink RY 52 "CausalGateModel" "through" "I", Cond.fieldLink RY 49 "CausalGateModel" "waiting" "I", Cond.fieldLink RY 59 "CausalGateModel" "knownOffers" "I", Cond.fieldLink RY 62 "CausalGateModel" "most" "I"]
def wsY_look : List Cond := .code yY_look cY_look 2 (some .int) :: (wsY_look_r1 ++ wsY0)
set_option maxRecDepth 20000 in
theorem ggY_lacking_Y_part : GoodIn wsY_lacking wsY_part := goodIn_r _ [5, 6, 7, 8, 9, 10, 11, 12, 13, 14, 15, 16, 17, 18, 19] (by decide +kernel) (by decide +kernel)
set_option maxRecDepth 20000 in
theorem gY_lacking_Y_part : GoodIn wsY_lacking (va_wsS RY 41 yY_part wsY_part) := goodIn_app (goodIn_of _ (by decide +kernel)) ggY_lacking_Y_part
set_option maxRecDepth 20000 in
theorem ggY_canCome_Y_lacking : GoodIn wsY_canCome wsY_lacking := goodIn_r _ [6, 1, 7, 8, 5, 9, 10, 11, 12, 13, 14, 15, 16, 17, 18, 19, 20, 21, 22, 23] (by decide +kernel) (by decide +kernel)
set_option maxRecDepth 20000 in
theorem gY_canCome_Y_lacking : GoodIn wsY_canCome (wsV RY 45 RY yY_lacking wsY_lacking) := goodIn_app (goodIn_of _ (by decide +kernel)) ggY_canCome_Y_lacking
set_option maxRecDepth 20000 in
theorem ggY_ready_Y_canCome : GoodIn wsY_ready wsY_canCome := goodIn_r _ [9, 10, 11, 12, 13, 8, 14, 15, 16, 17, 18, 19, 20, 21, 22, 23, 24, 25, 26, 27, 28, 29, 30, 31] (by decide +kernel) (by decide +kernel)
set_option maxRecDepth 20000 in
theorem gY_ready_Y_canCome : GoodIn wsY_ready (wsV RY 55 RY yY_canCome wsY_canCome) := goodIn_app (goodIn_of _ (by decide +kernel)) ggY_ready_Y_canCome
set_option maxRecDepth 20000 in
theorem ggY_offer_Y_isKnown : GoodIn wsY_offer wsY_isKnown := goodIn_r _ [13, 14, 3, 5, 6, 47, 48, 49, 50, 51, 52, 53, 54, 55, 56, 57, 58, 59] (by decide +kernel) (by decide +kernel)
set_option maxRecDepth 20000 in
theorem gY_offer_Y_isKnown : GoodIn wsY_offer (wsV RY 65 RY yY_isKnown wsY_isKnown) := goodIn_app (goodIn_of _ (by decide +kernel)) ggY_offer_Y_isKnown
set_option maxRecDepth 20000 in
theorem ggY_offer_Y_canCome : GoodIn wsY_offer wsY_canCome := goodIn_r _ [18, 14, 19, 20, 21, 12, 22, 23, 24, 25, 26, 47, 48, 49, 50, 51, 52, 53, 54, 55, 56, 57, 58, 59] (by decide +kernel) (by decide +kernel)
set_option maxRecDepth 20000 in
theorem gY_offer_Y_canCome : GoodIn wsY_offer (wsV RY 55 RY yY_canCome wsY_canCome) := goodIn_app (goodIn_of _ (by decide +kernel)) ggY_offer_Y_canCome
set_option maxRecDepth 20000 in
theorem ggY_offer_Y_keep : GoodIn wsY_offer wsY_keep := goodIn_r _ [30, 3, 5, 6, 31, 7, 47, 48, 49, 50, 51, 52, 53, 54, 55, 56, 57, 58, 59] (by decide +kernel) (by decide +kernel)
set_option maxRecDepth 20000 in
theorem gY_offer_Y_keep : GoodIn wsY_offer (wsV RY 69 RY yY_keep wsY_keep) := goodIn_app (goodIn_of _ (by decide +kernel)) ggY_offer_Y_keep
set_option maxRecDepth 20000 in
theorem ggY_offer_Y_ready : GoodIn wsY_offer wsY_ready := goodIn_r _ [35, 3, 5, 6, 31, 15, 16, 17, 12, 18, 14, 19, 20, 21, 22, 23, 24, 25, 26, 47, 48, 49, 50, 51, 52, 53, 54, 55, 56, 57, 58, 59] (by decide +kernel) (by decide +kernel)
set_option maxRecDepth 20000 in
theorem gY_offer_Y_ready : GoodIn wsY_offer (wsV RY 73 RY yY_ready wsY_ready) := goodIn_app (goodIn_of _ (by decide +kernel)) ggY_offer_Y_ready
set_option maxRecDepth 20000 in
theorem ggY_offer_Y_comes : GoodIn wsY_offer wsY_comes := goodIn_r _ [39, 40, 4, 41, 42, 14, 47, 48, 49, 50, 51, 52, 53, 54, 55, 56, 57, 58, 59] (by decide +kernel) (by decide +kernel)
set_option maxRecDepth 20000 in
theorem gY_offer_Y_comes : GoodIn wsY_offer (wsV RY 77 RY yY_comes wsY_comes) := goodIn_app (goodIn_of _ (by decide +kernel)) ggY_offer_Y_comes
set_option maxRecDepth 20000 in
theorem ggY_offer_Y_drop : GoodIn wsY_offer wsY_drop := goodIn_r _ [46, 3, 5, 6, 31, 7, 47, 48, 49, 50, 51, 52, 53, 54, 55, 56, 57, 58, 59] (by decide +kernel) (by decide +kernel)
set_option maxRecDepth 20000 in
theorem gY_offer_Y_drop : GoodIn wsY_offer (wsV RY 81 RY yY_drop wsY_drop) := goodIn_app (goodIn_of _ (by decide +kernel)) ggY_offer_Y_drop
set_option maxRecDepth 20000 in
theorem ggY_known_Y_isKnown : GoodIn wsY_known wsY_isKnown := goodIn_r _ [6, 7, 8, 9, 10, 11, 12, 13, 14, 15, 16, 17, 18, 19, 20, 21, 22, 23] (by decide +kernel) (by decide +kernel)
set_option maxRecDepth 20000 in
theorem gY_known_Y_isKnown : GoodIn wsY_known (wsV RY 65 RY yY_isKnown wsY_isKnown) := goodIn_app (goodIn_of _ (by decide +kernel)) ggY_known_Y_isKnown
set_option maxRecDepth 20000 in
theorem ggY_waiting_Y_lacking : GoodIn wsY_waiting wsY_lacking := goodIn_r _ [12, 5, 13, 14, 11, 15, 16, 17, 18, 19, 20, 21, 22, 23, 24, 25, 26, 27, 28, 29] (by decide +kernel) (by decide +kernel)
set_option maxRecDepth 20000 in
theorem gY_waiting_Y_lacking : GoodIn wsY_waiting (wsV RY 45 RY yY_lacking wsY_lacking) := goodIn_app (goodIn_of _ (by decide +kernel)) ggY_waiting_Y_lacking
set_option maxRecDepth 20000 in
theorem ggY_lacks_Y_part : GoodIn wsY_lacks wsY_part := goodIn_r _ [6, 7, 8, 9, 10, 11, 12, 13, 14, 15, 16, 17, 18, 19, 20] (by decide +kernel) (by decide +kernel)
set_option maxRecDepth 20000 in
theorem gY_lacks_Y_part : GoodIn wsY_lacks (va_wsS RY 41 yY_part wsY_part) := goodIn_app (goodIn_of _ (by decide +kernel)) ggY_lacks_Y_part
set_option maxRecDepth 20000 in
theorem ggY_ahead_Y_lacks : GoodIn wsY_ahead wsY_lacks := goodIn_r _ [7, 8, 9, 10, 11, 6, 12, 13, 14, 15, 16, 17, 18, 19, 20, 21, 22, 23, 24, 25, 26] (by decide +kernel) (by decide +kernel)
set_option maxRecDepth 20000 in
theorem gY_ahead_Y_lacks : GoodIn wsY_ahead (wsV RY 85 RY yY_lacks wsY_lacks) := goodIn_app (goodIn_of _ (by decide +kernel)) ggY_ahead_Y_lacks
set_option maxRecDepth 20000 in
theorem ggY_next_Y_lacks : GoodIn wsY_next wsY_lacks := goodIn_r _ [7, 8, 9, 10, 11, 6, 12, 13, 14, 15, 16, 17, 18, 19, 20, 21, 22, 23, 24, 25, 26] (by decide +kernel) (by decide +kernel)
set_option maxRecDepth 20000 in
theorem gY_next_Y_lacks : GoodIn wsY_next (wsV RY 85 RY yY_lacks wsY_lacks) := goodIn_app (goodIn_of _ (by decide +kernel)) ggY_next_Y_lacks
set_option maxRecDepth 20000 in
theorem ggY_compare_Y_part : GoodIn wsY_compare wsY_part := goodIn_r _ [6, 7, 8, 9, 10, 11, 12, 13, 14, 15, 16, 17, 18, 19, 20] (by decide +kernel) (by decide +kernel)
set_option maxRecDepth 20000 in
theorem gY_compare_Y_part : GoodIn wsY_compare (va_wsS RY 41 yY_part wsY_part) := goodIn_app (goodIn_of _ (by decide +kernel)) ggY_compare_Y_part
set_option maxRecDepth 20000 in
theorem ggY_forget_Y_drop : GoodIn wsY_forget wsY_drop := goodIn_r _ [8, 2, 3, 9, 10, 11, 12, 13, 14, 15, 16, 17, 18, 19, 20, 21, 22, 23, 24] (by decide +kernel) (by decide +kernel)
set_option maxRecDepth 20000 in
theorem gY_forget_Y_drop : GoodIn wsY_forget (wsV RY 81 RY yY_drop wsY_drop) := goodIn_app (goodIn_of _ (by decide +kernel)) ggY_forget_Y_drop
