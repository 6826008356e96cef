abbrev cX0_through : ByteArray := prog_1_method_6_code
def yX0_through : MethodName := ⟨RX0, "through", "(II)I"⟩
abbrev cX0_waiting : ByteArray := prog_1_method_7_code
def yX0_waiting : MethodName := ⟨RX0, "waiting", "(II)I"⟩
def wsX0_through_r1 : List Cond := [Cond.fieldLink RX0 26 "CausalGate" "throughCount" "I", Cond.classLink RX0 86 "java/lang/IndexOutOfBoundsException", Cond.initialized "java/lang/IndexOutOfBoundsException", Cond.fieldLink RX0 9 "CausalGate" "throughKeys" "[I", Cond.fieldLink RX0 13 "CausalGate" "throughLabels" "[I", Cond.methodLink RX0 91 yX0_actorOf, Cond.static yX0_actorOf, Cond.initialized RX0, Cond.code yX0_actorOf cX0_actorOf 1 (some .int), Cond.methodLink RX0 95 yX0_seqOf, Cond.static yX0_seqOf, Cond.code yX0_seqOf cX0_seqOf 1 (some .int)]
def wsX0_through : List Cond := .code yX0_through cX0_through 3 (some .int) :: (wsX0_through_r1 ++ wsX00 ++ (vx_atS RX0 90 "java/lang/IndexOutOfBoundsException" ["java/lang/RuntimeException", "java/lang/Exception"]).filter goodWord)
def wsX0_waiting_r1 : List Cond := [Cond.fieldLink RX0 30 "CausalGate" "waitCount" "I", Cond.classLink RX0 86 "java/lang/IndexOutOfBoundsException", Cond.initialized "java/lang/IndexOutOfBoundsException", Cond.fieldLink RX0 16 "CausalGate" "waitKeys" "[I", Cond.fieldLink RX0 23 "CausalGate" "waitLabels" "[I", Cond.fieldLink RX0 19 "CausalGate" "waitClocks" "[J", Cond.methodLink RX0 91 yX0_actorOf, Cond.static yX0_actorOf, Cond.initialized RX0, Cond.code yX0_actorOf cX0_actorOf 1 (some .int), Cond.methodLink RX0 95 yX0_seqOf, Cond.static yX0_seqOf, Cond.code yX0_seqOf cX0_seqOf 1 (some .int), Cond.methodLink RX0 98 yX0_lackedActor, Cond.instanceMethod yX0_lackedActor, Cond.selects RX0 yX0_lackedActor yX0_lackedActor, Cond.code yX0_lackedActor cX0_lackedActor 6 (some .int), Cond.fieldLink RX0 33 "CausalGate" "gateClock" "J", Cond.methodLink RX0 102 yX0_nextSeq, Cond.instanceMethod yX0_nextSeq, Cond.selects RX0 yX0_nextSeq yX0_nextSeq, Cond.code yX0_nextSeq cX0_nextSeq 2 (some .int), Cond.methodLink RX0 105 yX0_byteOf, Cond.static yX0_byteOf]
def wsX0_waiting_r2 : List Cond := [Cond.code yX0_byteOf cX0_byteOf 3 (some .int)]
def wsX0_waiting : List Cond := .code yX0_waiting cX0_waiting 3 (some .int) :: ((wsX0_waiting_r1 ++ wsX0_waiting_r2) ++ wsX00 ++ (vx_atS RX0 90 "java/lang/IndexOutOfBoundsException" ["java/lang/RuntimeException", "java/lang/Exception"]).filter goodWord)
set_option maxRecDepth 20000 in
theorem ggX0_through_X0_actorOf : GoodIn wsX0_through wsX0_actorOf := goodIn_r _ [9] (by decide +kernel) (by decide +kernel)
set_option maxRecDepth 20000 in
theorem gX0_through_X0_actorOf : GoodIn wsX0_through (va_wsS RX0 91 yX0_actorOf wsX0_actorOf) := goodIn_app (goodIn_of _ (by decide +kernel)) ggX0_through_X0_actorOf
set_option maxRecDepth 20000 in
theorem ggX0_through_X0_seqOf : GoodIn wsX0_through wsX0_seqOf := goodIn_r _ [12] (by decide +kernel) (by decide +kernel)
set_option maxRecDepth 20000 in
theorem gX0_through_X0_seqOf : GoodIn wsX0_through (va_wsS RX0 95 yX0_seqOf wsX0_seqOf) := goodIn_app (goodIn_of _ (by decide +kernel)) ggX0_through_X0_seqOf
set_option maxRecDepth 20000 in
theorem ggX0_waiting_X0_actorOf : GoodIn wsX0_waiting wsX0_actorOf := goodIn_r _ [10] (by decide +kernel) (by decide +kernel)
set_option maxRecDepth 20000 in
theorem gX0_waiting_X0_actorOf : GoodIn wsX0_waiting (va_wsS RX0 91 yX0_actorOf wsX0_actorOf) := goodIn_app (goodIn_of _ (by decide +kernel)) ggX0_waiting_X0_actorOf
set_option maxRecDepth 20000 in
theorem ggX0_waiting_X0_seqOf : GoodIn wsX0_waiting wsX0_seqOf := goodIn_r _ [13] (by decide +kernel) (by decide +kernel)
set_option maxRecDepth 20000 in
theorem gX0_waiting_X0_seqOf : GoodIn wsX0_waiting (va_wsS RX0 95 yX0_seqOf wsX0_seqOf) := goodIn_app (goodIn_of _ (by decide +kernel)) ggX0_waiting_X0_seqOf
set_option maxRecDepth 20000 in
theorem ggX0_waiting_X0_lackedActor : GoodIn wsX0_waiting wsX0_lackedActor := goodIn_r _ [17, 18, 7, 8, 9, 10, 11, 12, 13, 19, 20, 21, 22, 23, 24, 25, 26, 27, 28, 29, 30, 31, 32, 33, 34, 35] (by decide +kernel) (by decide +kernel)
set_option maxRecDepth 20000 in
theorem gX0_waiting_X0_lackedActor : GoodIn wsX0_waiting (wsV RX0 98 RX0 yX0_lackedActor wsX0_lackedActor) := goodIn_app (goodIn_of _ (by decide +kernel)) ggX0_waiting_X0_lackedActor
set_option maxRecDepth 20000 in
theorem ggX0_waiting_X0_nextSeq : GoodIn wsX0_waiting wsX0_nextSeq := goodIn_r _ [22, 18, 23, 24, 9, 25, 26, 27, 28, 29, 30, 31, 32, 33, 34, 35] (by decide +kernel) (by decide +kernel)
set_option maxRecDepth 20000 in
theorem gX0_waiting_X0_nextSeq : GoodIn wsX0_waiting (wsV RX0 102 RX0 yX0_nextSeq wsX0_nextSeq) := goodIn_app (goodIn_of _ (by decide +kernel)) ggX0_waiting_X0_nextSeq
theorem dX0_through_0 : decode cX0_through 0 = .ok (.iload_n 1, 1) := by decide +kernel
theorem dX0_through_1 : decode cX0_through 1 = .ok (.ifCond .lt 20, 3) := by decide +kernel
theorem dX0_through_4 : decode cX0_through 4 = .ok (.iload_n 1, 1) := by decide +kernel
theorem dX0_through_5 : decode cX0_through 5 = .ok (.aload_n 0, 1) := by decide +kernel
theorem dX0_through_6 : decode cX0_through 6 = .ok (.getfield 26, 3) := by decide +kernel
theorem dX0_through_9 : decode cX0_through 9 = .ok (.if_icmp .ge 12, 3) := by decide +kernel
theorem dX0_through_12 : decode cX0_through 12 = .ok (.iload_n 2, 1) := by decide +kernel
theorem dX0_through_13 : decode cX0_through 13 = .ok (.ifCond .lt 8, 3) := by decide +kernel
theorem dX0_through_16 : decode cX0_through 16 = .ok (.iload_n 2, 1) := by decide +kernel
theorem dX0_through_17 : decode cX0_through 17 = .ok (.iconst 2, 1) := by decide +kernel
theorem dX0_through_18 : decode cX0_through 18 = .ok (.if_icmp .le 13, 3) := by decide +kernel
theorem dX0_through_21 : decode cX0_through 21 = .ok (.new 86, 3) := by decide +kernel
theorem dX0_through_24 : decode cX0_through 24 = .ok (.dup, 1) := by decide +kernel
theorem dX0_through_25 : decode cX0_through 25 = .ok (.ldc 88, 2) := by decide +kernel
theorem dX0_through_27 : decode cX0_through 27 = .ok (.invokespecial 90, 3) := by decide +kernel
theorem dX0_through_30 : decode cX0_through 30 = .ok (.athrow, 1) := by decide +kernel
theorem dX0_through_31 : decode cX0_through 31 = .ok (.iload_n 2, 1) := by decide +kernel
theorem dX0_through_32 : decode cX0_through 32 = .ok (.lookupswitch 48 #[(0, 28), (1, 38)], 28) := by decide +kernel
theorem dX0_through_60 : decode cX0_through 60 = .ok (.aload_n 0, 1) := by decide +kernel
theorem dX0_through_61 : decode cX0_through 61 = .ok (.getfield 9, 3) := by decide +kernel
theorem dX0_through_64 : decode cX0_through 64 = .ok (.iload_n 1, 1) := by decide +kernel
theorem dX0_through_65 : decode cX0_through 65 = .ok (.iaload, 1) := by decide +kernel
theorem dX0_through_66 : decode cX0_through 66 = .ok (.invokestatic 91, 3) := by decide +kernel
theorem dX0_through_69 : decode cX0_through 69 = .ok (.ireturn, 1) := by decide +kernel
theorem dX0_through_70 : decode cX0_through 70 = .ok (.aload_n 0, 1) := by decide +kernel
theorem dX0_through_71 : decode cX0_through 71 = .ok (.getfield 9, 3) := by decide +kernel
theorem dX0_through_74 : decode cX0_through 74 = .ok (.iload_n 1, 1) := by decide +kernel
theorem dX0_through_75 : decode cX0_through 75 = .ok (.iaload, 1) := by decide +kernel
theorem dX0_through_76 : decode cX0_through 76 = .ok (.invokestatic 95, 3) := by decide +kernel
theorem dX0_through_79 : decode cX0_through 79 = .ok (.ireturn, 1) := by decide +kernel
theorem dX0_through_80 : decode cX0_through 80 = .ok (.aload_n 0, 1) := by decide +kernel
theorem dX0_through_81 : decode cX0_through 81 = .ok (.getfield 13, 3) := by decide +kernel
theorem dX0_through_84 : decode cX0_through 84 = .ok (.iload_n 1, 1) := by decide +kernel
theorem dX0_through_85 : decode cX0_through 85 = .ok (.iaload, 1) := by decide +kernel
theorem dX0_through_86 : decode cX0_through 86 = .ok (.ireturn, 1) := by decide +kernel
theorem dX0_waiting_0 : decode cX0_waiting 0 = .ok (.iload_n 1, 1) := by decide +kernel
theorem dX0_waiting_1 : decode cX0_waiting 1 = .ok (.ifCond .lt 20, 3) := by decide +kernel
theorem dX0_waiting_4 : decode cX0_waiting 4 = .ok (.iload_n 1, 1) := by decide +kernel
theorem dX0_waiting_5 : decode cX0_waiting 5 = .ok (.aload_n 0, 1) := by decide +kernel
theorem dX0_waiting_6 : decode cX0_waiting 6 = .ok (.getfield 30, 3) := by decide +kernel
theorem dX0_waiting_9 : decode cX0_waiting 9 = .ok (.if_icmp .ge 12, 3) := by decide +kernel
theorem dX0_waiting_12 : decode cX0_waiting 12 = .ok (.iload_n 2, 1) := by decide +kernel
theorem dX0_waiting_13 : decode cX0_waiting 13 = .ok (.ifCond .lt 8, 3) := by decide +kernel
theorem dX0_waiting_16 : decode cX0_waiting 16 = .ok (.iload_n 2, 1) := by decide +kernel
theorem dX0_waiting_17 : decode cX0_waiting 17 = .ok (.iconst 4, 1) := by decide +kernel
theorem dX0_waiting_18 : decode cX0_waiting 18 = .ok (.if_icmp .le 13, 3) := by decide +kernel
theorem dX0_waiting_21 : decode cX0_waiting 21 = .ok (.new 86, 3) := by decide +kernel
theorem dX0_waiting_24 : decode cX0_waiting 24 = .ok (.dup, 1) := by decide +kernel
theorem dX0_waiting_25 : decode cX0_waiting 25 = .ok (.ldc 88, 2) := by decide +kernel
theorem dX0_waiting_27 : decode cX0_waiting 27 = .ok (.invokespecial 90, 3) := by decide +kernel
theorem dX0_waiting_30 : decode cX0_waiting 30 = .ok (.athrow, 1) := by decide +kernel
theorem dX0_waiting_31 : decode cX0_waiting 31 = .ok (.iload_n 2, 1) := by decide +kernel
theorem dX0_waiting_32 : decode cX0_waiting 32 = .ok (.tableswitch 76 0 3 #[32, 42, 52, 59], 32) := by decide +kernel
theorem dX0_waiting_64 : decode cX0_waiting 64 = .ok (.aload_n 0, 1) := by decide +kernel
theorem dX0_waiting_65 : decode cX0_waiting 65 = .ok (.getfield 16, 3) := by decide +kernel
theorem dX0_waiting_68 : decode cX0_waiting 68 = .ok (.iload_n 1, 1) := by decide +kernel
theorem dX0_waiting_69 : decode cX0_waiting 69 = .ok (.iaload, 1) := by decide +kernel
theorem dX0_waiting_70 : decode cX0_waiting 70 = .ok (.invokestatic 91, 3) := by decide +kernel
theorem dX0_waiting_73 : decode cX0_waiting 73 = .ok (.ireturn, 1) := by decide +kernel
theorem dX0_waiting_74 : decode cX0_waiting 74 = .ok (.aload_n 0, 1) := by decide +kernel
theorem dX0_waiting_75 : decode cX0_waiting 75 = .ok (.getfield 16, 3) := by decide +kernel
theorem dX0_waiting_78 : decode cX0_waiting 78 = .ok (.iload_n 1, 1) := by decide +kernel
theorem dX0_waiting_79 : decode cX0_waiting 79 = .ok (.iaload, 1) := by decide +kernel
theorem dX0_waiting_80 : decode cX0_waiting 80 = .ok (.invokestatic 95, 3) := by decide +kernel
theorem dX0_waiting_83 : decode cX0_waiting 83 = .ok (.ireturn, 1) := by decide +kernel
theorem dX0_waiting_84 : decode cX0_waiting 84 = .ok (.aload_n 0, 1) := by decide +kernel
theorem dX0_waiting_85 : decode cX0_waiting 85 = .ok (.getfield 23, 3) := by decide +kernel
theorem dX0_waiting_88 : decode cX0_waiting 88 = .ok (.iload_n 1, 1) := by decide +kernel
theorem dX0_waiting_89 : decode cX0_waiting 89 = .ok (.iaload, 1) := by decide +kernel
theorem dX0_waiting_90 : decode cX0_waiting 90 = .ok (.ireturn, 1) := by decide +kernel
theorem dX0_waiting_91 : decode cX0_waiting 91 = .ok (.aload_n 0, 1) := by decide +kernel
theorem dX0_waiting_92 : decode cX0_waiting 92 = .ok (.aload_n 0, 1) := by decide +kernel
theorem dX0_waiting_93 : decode cX0_waiting 93 = .ok (.getfield 16, 3) := by decide +kernel
theorem dX0_waiting_96 : decode cX0_waiting 96 = .ok (.iload_n 1, 1) := by decide +kernel
theorem dX0_waiting_97 : decode cX0_waiting 97 = .ok (.iaload, 1) := by decide +kernel
theorem dX0_waiting_98 : decode cX0_waiting 98 = .ok (.aload_n 0, 1) := by decide +kernel
theorem dX0_waiting_99 : decode cX0_waiting 99 = .ok (.getfield 19, 3) := by decide +kernel
theorem dX0_waiting_102 : decode cX0_waiting 102 = .ok (.iload_n 1, 1) := by decide +kernel
theorem dX0_waiting_103 : decode cX0_waiting 103 = .ok (.laload, 1) := by decide +kernel
theorem dX0_waiting_104 : decode cX0_waiting 104 = .ok (.invokevirtual 98, 3) := by decide +kernel
theorem dX0_waiting_107 : decode cX0_waiting 107 = .ok (.ireturn, 1) := by decide +kernel
theorem dX0_waiting_108 : decode cX0_waiting 108 = .ok (.aload_n 0, 1) := by decide +kernel
theorem dX0_waiting_109 : decode cX0_waiting 109 = .ok (.aload_n 0, 1) := by decide +kernel
theorem dX0_waiting_110 : decode cX0_waiting 110 = .ok (.aload_n 0, 1) := by decide +kernel
theorem dX0_waiting_111 : decode cX0_waiting 111 = .ok (.getfield 16, 3) := by decide +kernel
theorem dX0_waiting_114 : decode cX0_waiting 114 = .ok (.iload_n 1, 1) := by decide +kernel
theorem dX0_waiting_115 : decode cX0_waiting 115 = .ok (.iaload, 1) := by decide +kernel
theorem dX0_waiting_116 : decode cX0_waiting 116 = .ok (.aload_n 0, 1) := by decide +kernel
theorem dX0_waiting_117 : decode cX0_waiting 117 = .ok (.getfield 19, 3) := by decide +kernel
theorem dX0_waiting_120 : decode cX0_waiting 120 = .ok (.iload_n 1, 1) := by decide +kernel
theorem dX0_waiting_121 : decode cX0_waiting 121 = .ok (.laload, 1) := by decide +kernel
theorem dX0_waiting_122 : decode cX0_waiting 122 = .ok (.invokevirtual 98, 3) := by decide +kernel
theorem dX0_waiting_125 : decode cX0_waiting 125 = .ok (.invokevirtual 102, 3) := by decide +kernel
theorem dX0_waiting_128 : decode cX0_waiting 128 = .ok (.ireturn, 1) := by decide +kernel
abbrev cL_through : ByteArray := method_4_code
def yL_through : MethodName := ⟨RL, "through", "(LCausalGate;II[J)I"⟩
abbrev cL_waiting : ByteArray := method_5_code
def yL_waiting : MethodName := ⟨RL, "waiting", "(LCausalGate;II[J)I"⟩
def wsL_through_r1 : List Cond := [Cond.classLink RL 21 "java/lang/IndexOutOfBoundsException", Cond.methodLink RL 17 yX0_through, Cond.instanceMethod yX0_through, Cond.selects RX0 yX0_through yX0_through, Cond.initialized RX0, Cond.code yX0_through cX0_through 3 (some .int), Cond.fieldLink RX0 26 "CausalGate" "throughCount" "I", Cond.classLink RX0 86 "java/lang/IndexOutOfBoundsException", Cond.initialized "java/lang/IndexOutOfBoundsException", Cond.fieldLink RX0 9 "CausalGate" "throughKeys" "[I", Cond.fieldLink RX0 13 "CausalGate" "throughLabels" "[I", Cond.methodLink RX0 91 yX0_actorOf, Cond.static yX0_actorOf, Cond.code yX0_actorOf cX0_actorOf 1 (some .int), Cond.methodLink RX0 95 yX0_seqOf, Cond.static yX0_seqOf, Cond.code yX0_seqOf cX0_seqOf 1 (some .int)]
def wsL_through : List Cond := .codeWith yL_through cL_through 5 (some .int) [(0, 10, 13, 21)] :: (wsL_through_r1 ++ wsX00 ++ (vx_atS RX0 90 "java/lang/IndexOutOfBoundsException" ["java/lang/RuntimeException", "java/lang/Exception"]).filter goodWord)
def wsL_waiting_r1 : List Cond := [Cond.classLink RL 21 "java/lang/IndexOutOfBoundsException", Cond.methodLink RL 23 yX0_waiting, Cond.instanceMethod yX0_waiting, Cond.selects RX0 yX0_waiting yX0_waiting, Cond.initialized RX0, Cond.code yX0_waiting cX0_waiting 3 (some .int), Cond.fieldLink RX0 30 "CausalGate" "waitCount" "I", Cond.classLink RX0 86 "java/lang/IndexOutOfBoundsException", Cond.initialized "java/lang/IndexOutOfBoundsException", Cond.fieldLink RX0 16 "CausalGate" "waitKeys" "[I", Cond.fieldLink RX0 23 "CausalGate" "waitLabels" "[I", Cond.fieldLink RX0 19 "CausalGate" "waitClocks" "[J", Cond.methodLink RX0 91 yX0_actorOf, Cond.static yX0_actorOf, Cond.code yX0_actorOf cX0_actorOf 1 (some .int), Cond.methodLink RX0 95 yX0_seqOf, Cond.static yX0_seqOf, Cond.code yX0_seqOf cX0_seqOf 1 (some .int), Cond.methodLink RX0 98 yX0_lackedActor, Cond.instanceMethod yX0_lackedActor, Cond.selects RX0 yX0_lackedActor yX0_lackedActor, Cond.code yX0_lackedActor cX0_lackedActor 6 (some .int), Cond.fieldLink RX0 33 "CausalGate" "gateClock" "J", Cond.methodLink RX0 102 yX0_nextSeq]
def wsL_waiting_r2 : List Cond := [Cond.instanceMethod yX0_nextSeq, Cond.selects RX0 yX0_nextSeq yX0_nextSeq, Cond.code yX0_nextSeq cX0_nextSeq 2 (some .int), Cond.methodLink RX0 105 yX0_byteOf, Cond.static yX0_byteOf, Cond.code yX0_byteOf cX0_byteOf 3 (some .int)]
def wsL_waiting : List Cond := .codeWith yL_waiting cL_waiting 5 (some .int) [(0, 10, 13, 21)] :: ((wsL_waiting_r1 ++ wsL_waiting_r2) ++ wsX00 ++ (vx_atS RX0 90 "java/lang/IndexOutOfBoundsException" ["java/lang/RuntimeException", "java/lang/Exception"]).filter goodWord)
set_option maxRecDepth 20000 in
theorem ggL_through_X0_through : GoodIn wsL_through wsX0_through := goodIn_ca (goodIn_r _ [6, 7, 8, 9, 10, 11, 12, 13, 5, 14, 15, 16, 17, 18, 19, 20, 21, 22, 23, 24, 25, 26, 27] (by decide +kernel) (by decide +kernel)) (goodIn_sub (fun _ h => List.mem_cons_of_mem _ (List.mem_append_right _ h)) (by decide +kernel))
set_option maxRecDepth 20000 in
theorem gL_through_X0_through : GoodIn wsL_through (wsV RL 17 RX0 yX0_through wsX0_through) := goodIn_app (goodIn_of _ (by decide +kernel)) ggL_through_X0_through
set_option maxRecDepth 20000 in
theorem ggL_waiting_X0_waiting : GoodIn wsL_waiting wsX0_waiting := goodIn_ca (goodIn_r _ [6, 7, 8, 9, 10, 11, 12, 13, 14, 5, 15, 16, 17, 18, 19, 20, 21, 22, 23, 24, 25, 26, 27, 28, 29, 30, 31, 32, 33, 34, 35, 36, 37, 38, 39, 40] (by decide +kernel) (by decide +kernel)) (goodIn_sub (fun _ h => List.mem_cons_of_mem _ (List.mem_append_right _ h)) (by decide +kernel))
set_option maxRecDepth 20000 in
theorem gL_waiting_X0_waiting : GoodIn wsL_waiting (wsV RL 23 RX0 yX0_waiting wsX0_waiting) := goodIn_app (goodIn_of _ (by decide +kernel)) ggL_waiting_X0_waiting
theorem dL_through_0 : decode cL_through 0 = .ok (.aload_n 3, 1) := by decide +kernel
theorem dL_through_1 : decode cL_through 1 = .ok (.iconst 0, 1) := by decide +kernel
theorem dL_through_2 : decode cL_through 2 = .ok (.aload_n 0, 1) := by decide +kernel
theorem dL_through_3 : decode cL_through 3 = .ok (.iload_n 1, 1) := by decide +kernel
theorem dL_through_4 : decode cL_through 4 = .ok (.iload_n 2, 1) := by decide +kernel
theorem dL_through_5 : decode cL_through 5 = .ok (.invokevirtual 17, 3) := by decide +kernel
theorem dL_through_8 : decode cL_through 8 = .ok (.i2l, 1) := by decide +kernel
theorem dL_through_9 : decode cL_through 9 = .ok (.lastore, 1) := by decide +kernel
theorem dL_through_10 : decode cL_through 10 = .ok (.goto 7, 3) := by decide +kernel
theorem dL_through_13 : decode cL_through 13 = .ok (.astore 4, 2) := by decide +kernel
theorem dL_through_15 : decode cL_through 15 = .ok (.iconst 1, 1) := by decide +kernel
theorem dL_through_16 : decode cL_through 16 = .ok (.ireturn, 1) := by decide +kernel
theorem dL_through_17 : decode cL_through 17 = .ok (.iconst 0, 1) := by decide +kernel
theorem dL_through_18 : decode cL_through 18 = .ok (.ireturn, 1) := by decide +kernel
theorem dL_waiting_0 : decode cL_waiting 0 = .ok (.aload_n 3, 1) := by decide +kernel
theorem dL_waiting_1 : decode cL_waiting 1 = .ok (.iconst 0, 1) := by decide +kernel
theorem dL_waiting_2 : decode cL_waiting 2 = .ok (.aload_n 0, 1) := by decide +kernel
theorem dL_waiting_3 : decode cL_waiting 3 = .ok (.iload_n 1, 1) := by decide +kernel
theorem dL_waiting_4 : decode cL_waiting 4 = .ok (.iload_n 2, 1) := by decide +kernel
theorem dL_waiting_5 : decode cL_waiting 5 = .ok (.invokevirtual 23, 3) := by decide +kernel
theorem dL_waiting_8 : decode cL_waiting 8 = .ok (.i2l, 1) := by decide +kernel
theorem dL_waiting_9 : decode cL_waiting 9 = .ok (.lastore, 1) := by decide +kernel
theorem dL_waiting_10 : decode cL_waiting 10 = .ok (.goto 7, 3) := by decide +kernel
theorem dL_waiting_13 : decode cL_waiting 13 = .ok (.astore 4, 2) := by decide +kernel
theorem dL_waiting_15 : decode cL_waiting 15 = .ok (.iconst 1, 1) := by decide +kernel
theorem dL_waiting_16 : decode cL_waiting 16 = .ok (.ireturn, 1) := by decide +kernel
theorem dL_waiting_17 : decode cL_waiting 17 = .ok (.iconst 0, 1) := by decide +kernel
theorem dL_waiting_18 : decode cL_waiting 18 = .ok (.ireturn, 1) := by decide +kernel
