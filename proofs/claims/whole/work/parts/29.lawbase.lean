def R_law : String := "CausalGateLaw"
def lw_P (b : Addr) (xs : List Int32) (args : Array Value) (s : State) : Prop := args = #[.ref b] ∧ s.IntsAt b xs ∧ xs.length ≤ 3072 ∧ (Jvm.Cond.and given_1 narrow_1).before args s = true
def lw_Q (_ : Array Value) (s : State) (o : Outcome) (t : State) : Prop := o = .returned (some (.int 1)) ∧ Framed s o t [] 1044 15847
def lw_Z (below : List Frame) (a : Array Value) (s : State) : State → Prop := fun t => ∃ o, t.status = .running ∧ Ended t below o ∧ lw_Q a s o t
theorem lw_ret {p : Program} {l : Launch} {e : Env} {s : State} {m : MethodId} {below : List Frame} {meth : Method} {c : Code} {b : Nat} (hx : p.tables.exec = Jvm.exec) (hb : c.code = code) (hr : meth.sig.returnType = ret) (hlocks : meth.locks = false) {pc : Nat} {H : Heap} {ls : Array Slot} (hdg : decode code pc = .ok (.ireturn, 1)) : W p l e room_1 s m #[Value.ref b] below meth c H [] 1044 15847 (lw_Z below #[Value.ref b] s) (F0 m pc ls [.int 1]) := by
  intro T hT X
  obtain ⟨fs, hret, hrun, hended, hW, hframe⟩ := X.leave (v := some (.int 1)) (hlocks := hlocks) (fun h => by rw [hr] at h; cases h)
  have hmeth' : T.vm.method? m = some meth := X.method'
  refine ⟨T.setFrames fs, ?_, .returned (some (.int 1)), hrun, hended, rfl, ⟨_, rfl⟩, hW, hframe⟩
  jvm_step X.here [X.here.top, hx, hb, hdg, hmeth', hr, ret, narrow_b1]
  (try refine ⟨rfl, ?_⟩); (try refine ⟨rfl, ?_⟩)
  first | (intro acts; rw [hret _ acts rfl rfl rfl]) | rw [hret _ _ rfl rfl rfl]
  exact Steps.refl _
def lw_At (p : Program) (s : State) (m : MethodId) (meth : Method) (c : Code) (b L : Nat) (xs : Nat → Int32) : Prop :=
  p.tables.exec = Jvm.exec ∧ c.code = code ∧ meth.sig.returnType = ret ∧ c.maxLocals = 7 ∧ s.vm.findClass R_law = some m.cls ∧ (∀ w ∈ lw_tbl, w.before #[Value.ref b] s = true) ∧ va_X b L xs s s.heap ∧ b < s.heap.size ∧ meth.locks = false ∧ (Jvm.Cond.and given_1 narrow_1).before #[Value.ref b] s = true
def lw_F (s : State) (sa1 sa2 sa3 : Nat) : Prop := vk_R RX0 52 "no such actor or no such seq" sa1 s ∧ vk_R RX0 70 "too many changes would wait" sa2 s ∧ vk_R RX0 88 "no such change or no such what" sa3 s ∧ (va_Nw (.castable "java/lang/IllegalArgumentException" "java/lang/IllegalArgumentException") s ∧ Dc s) ∧ (va_Nw (.castable "java/lang/IllegalStateException" "java/lang/IllegalStateException") s ∧ Dc s) ∧ (va_Nw (.castable "java/lang/IndexOutOfBoundsException" "java/lang/IndexOutOfBoundsException") s ∧ Dc s) ∧ va_Nc "java/lang/IllegalStateException" "java/lang/IllegalArgumentException" s ∧ vx_Zq Bundle.tN "UNASSIGNED_STACK" Bundle.steD (fun q : Nat => s.heap.size ≤ q) s s.heap ∧ vx_Zq Bundle.tN "SUPPRESSED_SENTINEL" Bundle.listD (fun q : Nat => s.heap.size ≤ q) s s.heap
set_option maxRecDepth 20000 in
theorem gL_law_X0_init : GoodIn lw_tbl (wsX0_init) := goodIn_of _ (by decide +kernel)
set_option maxRecDepth 20000 in
theorem gL_law_Y_init : GoodIn lw_tbl (wsY_init) := goodIn_of _ (by decide +kernel)
set_option maxRecDepth 20000 in
theorem gL_law_X0_clear : GoodIn lw_tbl (wsV RL 30 RX0 yX0_clear wsX0_clear) := goodIn_of _ (by decide +kernel)
set_option maxRecDepth 20000 in
theorem gL_law_Y_clear : GoodIn lw_tbl (wsV RL 33 RY yY_clear wsY_clear) := goodIn_of _ (by decide +kernel)
set_option maxRecDepth 20000 in
theorem gL_law_L_offer : GoodIn lw_tbl (va_wsS RL 36 yL_offer wsL_offer) := goodIn_of _ (by decide +kernel)
set_option maxRecDepth 20000 in
theorem gL_law_Y_offer : GoodIn lw_tbl (wsV RL 41 RY yY_offer wsY_offer) := goodIn_of _ (by decide +kernel)
set_option maxRecDepth 20000 in
theorem gL_law_Y_thrown : GoodIn lw_tbl (wsV RL 42 RY yY_thrown wsY_thrown) := goodIn_of _ (by decide +kernel)
set_option maxRecDepth 20000 in
theorem gL_law_X0_known : GoodIn lw_tbl (wsV RL 46 RX0 yX0_known wsX0_known) := goodIn_of _ (by decide +kernel)
set_option maxRecDepth 20000 in
theorem gL_law_Y_known : GoodIn lw_tbl (wsV RL 50 RY yY_known wsY_known) := goodIn_of _ (by decide +kernel)
set_option maxRecDepth 20000 in
theorem gL_law_X0_clock : GoodIn lw_tbl (wsV RL 51 RX0 yX0_clock wsX0_clock) := goodIn_of _ (by decide +kernel)
set_option maxRecDepth 20000 in
theorem gL_law_Y_clock : GoodIn lw_tbl (wsV RL 55 RY yY_clock wsY_clock) := goodIn_of _ (by decide +kernel)
set_option maxRecDepth 20000 in
theorem gL_law_L_through : GoodIn lw_tbl (va_wsS RL 56 yL_through wsL_through) := goodIn_of _ (by decide +kernel)
set_option maxRecDepth 20000 in
theorem gL_law_Y_through : GoodIn lw_tbl (wsV RL 59 RY yY_through wsY_through) := goodIn_of _ (by decide +kernel)
set_option maxRecDepth 20000 in
theorem gL_law_L_waiting : GoodIn lw_tbl (va_wsS RL 60 yL_waiting wsL_waiting) := goodIn_of _ (by decide +kernel)
set_option maxRecDepth 20000 in
theorem gL_law_Y_waiting : GoodIn lw_tbl (wsV RL 62 RY yY_waiting wsY_waiting) := goodIn_of _ (by decide +kernel)
set_option maxRecDepth 20000 in
theorem gL_law_X0_ahead : GoodIn lw_tbl (wsV RL 63 RX0 yX0_ahead wsX0_ahead) := goodIn_of _ (by decide +kernel)
set_option maxRecDepth 20000 in
theorem gL_law_Y_ahead : GoodIn lw_tbl (wsV RL 67 RY yY_ahead wsY_ahead) := goodIn_of _ (by decide +kernel)
set_option maxRecDepth 20000 in
theorem gL_law_X0_next : GoodIn lw_tbl (wsV RL 68 RX0 yX0_next wsX0_next) := goodIn_of _ (by decide +kernel)
set_option maxRecDepth 20000 in
theorem gL_law_Y_next : GoodIn lw_tbl (wsV RL 72 RY yY_next wsY_next) := goodIn_of _ (by decide +kernel)
set_option maxRecDepth 20000 in
theorem gL_law_X0_compare : GoodIn lw_tbl (wsV RL 73 RX0 yX0_compare wsX0_compare) := goodIn_of _ (by decide +kernel)
set_option maxRecDepth 20000 in
theorem gL_law_Y_compare : GoodIn lw_tbl (wsV RL 76 RY yY_compare wsY_compare) := goodIn_of _ (by decide +kernel)
set_option maxRecDepth 20000 in
theorem gL_law_X0_forget : GoodIn lw_tbl (wsV RL 77 RX0 yX0_forget wsX0_forget) := goodIn_of _ (by decide +kernel)
set_option maxRecDepth 20000 in
theorem gL_law_Y_forget : GoodIn lw_tbl (wsV RL 81 RY yY_forget wsY_forget) := goodIn_of _ (by decide +kernel)
set_option maxRecDepth 20000 in
theorem gL_law_X0_look : GoodIn lw_tbl (wsV RL 82 RX0 yX0_look wsX0_look) := goodIn_of _ (by decide +kernel)
set_option maxRecDepth 20000 in
theorem gL_law_Y_look : GoodIn lw_tbl (wsV RL 85 RY yY_look wsY_look) := goodIn_of _ (by decide +kernel)
