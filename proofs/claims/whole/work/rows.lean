section
def lw_okq (q : MethodName × Nat) : Prop := (q.1.cls ≠ "java/lang/invoke/MethodHandle" ∧ q.1.cls ≠ "java/lang/invoke/VarHandle") ∧ Cond.instantiable q.1.cls q.2 ∈ tables_1 ∧ Cond.privateMethod q.1 ∈ tables_1 ∧ Cond.instanceMethod q.1 ∈ tables_1
theorem lw_p0 : lw_okq (⟨"CausalGate", "isKnown", "(I)Z"⟩, 10) := ⟨⟨by decide +kernel, by decide +kernel⟩, List.mem_of_getElem? (i := 11) (by decide +kernel), List.mem_of_getElem? (i := 69) (by decide +kernel), List.mem_of_getElem? (i := 70) (by decide +kernel)⟩
theorem lw_p1 : lw_okq (⟨"CausalGate", "nextSeq", "(I)I"⟩, 10) := ⟨⟨by decide +kernel, by decide +kernel⟩, List.mem_of_getElem? (i := 11) (by decide +kernel), List.mem_of_getElem? (i := 79) (by decide +kernel), List.mem_of_getElem? (i := 80) (by decide +kernel)⟩
theorem lw_p2 : lw_okq (⟨"CausalGate", "moveWaiting", "(II)V"⟩, 10) := ⟨⟨by decide +kernel, by decide +kernel⟩, List.mem_of_getElem? (i := 11) (by decide +kernel), List.mem_of_getElem? (i := 109) (by decide +kernel), List.mem_of_getElem? (i := 110) (by decide +kernel)⟩
theorem lw_p3 : lw_okq (⟨"java/lang/Throwable", "fillInStackTrace", "(I)Ljava/lang/Throwable;"⟩, 6) := ⟨⟨by decide +kernel, by decide +kernel⟩, List.mem_of_getElem? (i := 164) (by decide +kernel), List.mem_of_getElem? (i := 162) (by decide +kernel), List.mem_of_getElem? (i := 163) (by decide +kernel)⟩
theorem lw_p4 : lw_okq (⟨"CausalGate", "canComeThrough", "(IJ)Z"⟩, 10) := ⟨⟨by decide +kernel, by decide +kernel⟩, List.mem_of_getElem? (i := 11) (by decide +kernel), List.mem_of_getElem? (i := 194) (by decide +kernel), List.mem_of_getElem? (i := 195) (by decide +kernel)⟩
theorem lw_p5 : lw_okq (⟨"CausalGate", "lackedActor", "(IJ)I"⟩, 10) := ⟨⟨by decide +kernel, by decide +kernel⟩, List.mem_of_getElem? (i := 11) (by decide +kernel), List.mem_of_getElem? (i := 198) (by decide +kernel), List.mem_of_getElem? (i := 199) (by decide +kernel)⟩
theorem lw_p6 : lw_okq (⟨"CausalGate", "insertWaiting", "(IJI)V"⟩, 10) := ⟨⟨by decide +kernel, by decide +kernel⟩, List.mem_of_getElem? (i := 11) (by decide +kernel), List.mem_of_getElem? (i := 218) (by decide +kernel), List.mem_of_getElem? (i := 219) (by decide +kernel)⟩
theorem lw_p7 : lw_okq (⟨"CausalGate", "letThroughAllThatCan", "()I"⟩, 10) := ⟨⟨by decide +kernel, by decide +kernel⟩, List.mem_of_getElem? (i := 11) (by decide +kernel), List.mem_of_getElem? (i := 222) (by decide +kernel), List.mem_of_getElem? (i := 223) (by decide +kernel)⟩
theorem lw_p8 : lw_okq (⟨"CausalGate", "firstThatCanComeThrough", "()I"⟩, 10) := ⟨⟨by decide +kernel, by decide +kernel⟩, List.mem_of_getElem? (i := 11) (by decide +kernel), List.mem_of_getElem? (i := 226) (by decide +kernel), List.mem_of_getElem? (i := 227) (by decide +kernel)⟩
theorem lw_p9 : lw_okq (⟨"CausalGate", "letThrough", "(I)V"⟩, 10) := ⟨⟨by decide +kernel, by decide +kernel⟩, List.mem_of_getElem? (i := 11) (by decide +kernel), List.mem_of_getElem? (i := 230) (by decide +kernel), List.mem_of_getElem? (i := 231) (by decide +kernel)⟩
theorem lw_p10 : lw_okq (⟨"CausalGate", "removeWaiting", "(I)V"⟩, 10) := ⟨⟨by decide +kernel, by decide +kernel⟩, List.mem_of_getElem? (i := 11) (by decide +kernel), List.mem_of_getElem? (i := 234) (by decide +kernel), List.mem_of_getElem? (i := 235) (by decide +kernel)⟩
theorem lw_p11 : lw_okq (⟨"CausalGateModel", "isKnown", "(II)Z"⟩, 13) := ⟨⟨by decide +kernel, by decide +kernel⟩, List.mem_of_getElem? (i := 269) (by decide +kernel), List.mem_of_getElem? (i := 327) (by decide +kernel), List.mem_of_getElem? (i := 328) (by decide +kernel)⟩
theorem lw_p12 : lw_okq (⟨"CausalGateModel", "canCome", "(IIJ)Z"⟩, 13) := ⟨⟨by decide +kernel, by decide +kernel⟩, List.mem_of_getElem? (i := 269) (by decide +kernel), List.mem_of_getElem? (i := 331) (by decide +kernel), List.mem_of_getElem? (i := 332) (by decide +kernel)⟩
theorem lw_p13 : lw_okq (⟨"CausalGateModel", "lacking", "(IJ)I"⟩, 13) := ⟨⟨by decide +kernel, by decide +kernel⟩, List.mem_of_getElem? (i := 269) (by decide +kernel), List.mem_of_getElem? (i := 335) (by decide +kernel), List.mem_of_getElem? (i := 336) (by decide +kernel)⟩
theorem lw_p14 : lw_okq (⟨"CausalGateModel", "keep", "(IIJI)V"⟩, 13) := ⟨⟨by decide +kernel, by decide +kernel⟩, List.mem_of_getElem? (i := 269) (by decide +kernel), List.mem_of_getElem? (i := 343) (by decide +kernel), List.mem_of_getElem? (i := 344) (by decide +kernel)⟩
theorem lw_p15 : lw_okq (⟨"CausalGateModel", "ready", "()I"⟩, 13) := ⟨⟨by decide +kernel, by decide +kernel⟩, List.mem_of_getElem? (i := 269) (by decide +kernel), List.mem_of_getElem? (i := 347) (by decide +kernel), List.mem_of_getElem? (i := 348) (by decide +kernel)⟩
def lw_privs_1 : List (MethodName × Nat) := [(⟨"CausalGate", "isKnown", "(I)Z"⟩, 10), (⟨"CausalGate", "nextSeq", "(I)I"⟩, 10), (⟨"CausalGate", "moveWaiting", "(II)V"⟩, 10), (⟨"java/lang/Throwable", "fillInStackTrace", "(I)Ljava/lang/Throwable;"⟩, 6), (⟨"CausalGate", "canComeThrough", "(IJ)Z"⟩, 10), (⟨"CausalGate", "lackedActor", "(IJ)I"⟩, 10), (⟨"CausalGate", "insertWaiting", "(IJI)V"⟩, 10), (⟨"CausalGate", "letThroughAllThatCan", "()I"⟩, 10), (⟨"CausalGate", "firstThatCanComeThrough", "()I"⟩, 10), (⟨"CausalGate", "letThrough", "(I)V"⟩, 10), (⟨"CausalGate", "removeWaiting", "(I)V"⟩, 10), (⟨"CausalGateModel", "isKnown", "(II)Z"⟩, 13), (⟨"CausalGateModel", "canCome", "(IIJ)Z"⟩, 13), (⟨"CausalGateModel", "lacking", "(IJ)I"⟩, 13), (⟨"CausalGateModel", "keep", "(IIJI)V"⟩, 13), (⟨"CausalGateModel", "ready", "()I"⟩, 13)]
theorem lw_r1 : ∀ q ∈ lw_privs_1, lw_okq q := List.forall_mem_cons.mpr ⟨lw_p0, List.forall_mem_cons.mpr ⟨lw_p1, List.forall_mem_cons.mpr ⟨lw_p2, List.forall_mem_cons.mpr ⟨lw_p3, List.forall_mem_cons.mpr ⟨lw_p4, List.forall_mem_cons.mpr ⟨lw_p5, List.forall_mem_cons.mpr ⟨lw_p6, List.forall_mem_cons.mpr ⟨lw_p7, List.forall_mem_cons.mpr ⟨lw_p8, List.forall_mem_cons.mpr ⟨lw_p9, List.forall_mem_cons.mpr ⟨lw_p10, List.forall_mem_cons.mpr ⟨lw_p11, List.forall_mem_cons.mpr ⟨lw_p12, List.forall_mem_cons.mpr ⟨lw_p13, List.forall_mem_cons.mpr ⟨lw_p14, List.forall_mem_cons.mpr ⟨lw_p15, fun _ h => absurd h List.not_mem_nil⟩⟩⟩⟩⟩⟩⟩⟩⟩⟩⟩⟩⟩⟩⟩⟩
theorem lw_p16 : lw_okq (⟨"CausalGateModel", "comes", "(III)V"⟩, 13) := ⟨⟨by decide +kernel, by decide +kernel⟩, List.mem_of_getElem? (i := 269) (by decide +kernel), List.mem_of_getElem? (i := 351) (by decide +kernel), List.mem_of_getElem? (i := 352) (by decide +kernel)⟩
theorem lw_p17 : lw_okq (⟨"CausalGateModel", "drop", "(I)V"⟩, 13) := ⟨⟨by decide +kernel, by decide +kernel⟩, List.mem_of_getElem? (i := 269) (by decide +kernel), List.mem_of_getElem? (i := 355) (by decide +kernel), List.mem_of_getElem? (i := 356) (by decide +kernel)⟩
theorem lw_p18 : lw_okq (⟨"CausalGateModel", "lacks", "(JI)Z"⟩, 13) := ⟨⟨by decide +kernel, by decide +kernel⟩, List.mem_of_getElem? (i := 269) (by decide +kernel), List.mem_of_getElem? (i := 379) (by decide +kernel), List.mem_of_getElem? (i := 380) (by decide +kernel)⟩
def lw_privs_2 : List (MethodName × Nat) := [(⟨"CausalGateModel", "comes", "(III)V"⟩, 13), (⟨"CausalGateModel", "drop", "(I)V"⟩, 13), (⟨"CausalGateModel", "lacks", "(JI)Z"⟩, 13)]
theorem lw_r2 : ∀ q ∈ lw_privs_2, lw_okq q := List.forall_mem_cons.mpr ⟨lw_p16, List.forall_mem_cons.mpr ⟨lw_p17, List.forall_mem_cons.mpr ⟨lw_p18, fun _ h => absurd h List.not_mem_nil⟩⟩⟩
def lw_privs : List (MethodName × Nat) := lw_privs_1 ++ (lw_privs_2)
def lw_tbl : List Cond := k2_sels lw_privs ++ tables_1
theorem lw_privs_ok : ∀ q ∈ lw_privs, lw_okq q := by
  show ∀ q ∈ lw_privs_1 ++ (lw_privs_2), lw_okq q
  exact List.forall_mem_append.mpr ⟨lw_r1, lw_r2⟩
end
section
theorem goodIn_r {big : List Cond} (ws : List Cond) (ps : List Nat) (hp : ws = ps.filterMap (fun i => big[i]?)) (h : ws.all goodWord = true) : GoodIn big ws := by
  intro w hw
  have h1 := List.all_eq_true.mp h w hw
  rw [hp] at hw
  obtain ⟨i, -, hi⟩ := List.mem_filterMap.mp hw
  have hm : w ∈ big := by first | exact List.mem_of_getElem? hi | exact List.getElem?_mem hi
  exact ⟨hm, good_of_word h1⟩
theorem goodIn_app {big a b : List Cond} (ha : GoodIn big a) (hb : GoodIn big b) : GoodIn big (a ++ b) := fun w h => (List.mem_append.mp h).elim (ha w) (hb w)
theorem goodIn_ca {big a b : List Cond} {c : Cond} (ha : GoodIn big (c :: a)) (hb : GoodIn big b) : GoodIn big (c :: (a ++ b)) := fun w h => (List.mem_cons.mp h).elim (fun e => ha w (List.mem_cons.mpr (Or.inl e))) (fun h => (List.mem_append.mp h).elim (fun h => ha w (List.mem_cons.mpr (Or.inr h))) (hb w))
theorem goodIn_sub {big ws : List Cond} (hm : ∀ w ∈ ws, w ∈ big) (h : ws.all goodWord = true) : GoodIn big ws := fun w hw => ⟨hm w hw, good_of_word (List.all_eq_true.mp h w hw)⟩
section VXA
def vx_T (XC : String → State → State → Prop) (st : State) (q : Addr) (t : State) (mc ms : Nat) (free : Addr → Prop) : Prop :=
  ∃ (E : String) (ce : Cell) (L : List Loc), XC E st t ∧ t.heap[q]? = some ce ∧ ce.vm = .none ∧ st.vm.findClass E = some ce.cls ∧ st.WarmedH t.vm ∧ st.sameButNew ({ t with vm := st.vm } : State) L mc ms ∧ ∀ z ∈ L, free z.base
def vx_Q (Qc : Array Value → State → Outcome → State → Prop) (XC : String → State → State → Prop) (mc ms : Nat) (free : Addr → Prop) : Array Value → State → Outcome → State → Prop := fun a st o t =>
  (Qc a st o t ∧ ∃ L, FrameEnd st o t L mc ms ∧ ∀ q ∈ L, free q.base) ∨ ∃ q, o = .threw q ∧ vx_T XC st q t mc ms free
def vx_Met (l : Launch) (y : MethodName) (ws : List Cond) (rm : Room) (Pc : Array Value → State → Prop) (Qc : Array Value → State → Outcome → State → Prop) (XC : String → State → State → Prop) (mc ms : Nat) (free : Addr → Prop) : Prop :=
  MetFree l y (headSpec ws rm) Pc (fun _ _ _ _ _ => True) (vx_Q Qc XC mc ms free)
def vx_Post (XC : String → State → State → Prop) (mc ms : Nat) (free : Addr → Prop) : Pt → Array Value → Addr → Pt → Prop := fun A a q B =>
  ∃ (g : JFrame) (mk : MethodId) (t : State) (L : List Loc) (E : String) (ce : Cell), B.U.heap = t.heap ∧ B.U.vm = t.vm ∧ XC E (A.U.calling g mk a) t ∧ t.heap[q]? = some ce ∧ ce.vm = .none ∧ A.U.vm.findClass E = some ce.cls ∧ B.locs = A.locs ++ L ∧ (∀ z ∈ L, free z.base) ∧ B.cells = A.cells + mc ∧ B.slots = A.slots + ms
def vx_Back (l : Launch) (R : Room) (p : Program) (e : Env) (below : List Frame) (s : State) (sargs : Array Value) (y : MethodName) (len W9 : Nat)
    (Pre : Pt → Array Value → Prop) (Post : Pt → Array Value → Option Value → Pt → Prop) (PostX : Pt → Array Value → Addr → Pt → Prop) : Prop :=
  ∀ (m : MethodId) (meth : Method) (c : Code) (A : Pt) (g : JFrame) (ig : Instr) (mk : MethodId) (a : Array Value),
    Stand p l e R s m sargs below meth c A.U A.locs A.cells A.slots → g.method = m → g.locals.size = c.maxLocals → decode c.code g.pc = .ok (ig, len) →
    2 * g.monitorRoom + (g.stack.map fun v => v.category).sum ≤ W9 → A.U.methodNamed? y = some mk → Pre A a →
    (∃ (v : Option Value) (B : Pt), Stand p l e R s m sargs below meth c B.U B.locs B.cells B.slots ∧ Post A a v B ∧
      Steps p.tables e below (doInvoke e (A.U.setTop g) [] mk a).1 (B.U.setTop { g with pc := g.pc + len, stack := v.toList ++ g.stack })) ∨
    (∃ (q : Addr) (B : Pt), Stand p l e R s m sargs below meth c B.U B.locs B.cells B.slots ∧ PostX A a q B ∧
      Steps p.tables e below (doInvoke e (A.U.setTop g) [] mk a).1 ((B.U.setTop g).pushFrame (.throwing q)))
section Payer
variable {l : Launch} {R : Room} {p : Program} {e : Env} {below : List Frame} {s : State} {sargs : Array Value} {y : MethodName} {len W9 : Nat}
theorem vx_back {ws : List Cond} {rm : Room} {Pc : Array Value → State → Prop} {Qc : Array Value → State → Outcome → State → Prop} {XC : String → State → State → Prop} {mc ms : Nat} {free : Addr → Prop} {bytes : ByteArray} {maxL : Nat} {ret : Option FieldType}
    (hM : vx_Met l y ws rm Pc Qc XC mc ms free) (hblind : FrameBlind Pc) (hrc : rm.cells = mc) (hrs : rm.slots = ms)
    (hframes : rm.frames + 1 ≤ R.frames) (hlocals : W9 + (maxL + 11) + rm.locals ≤ R.locals)
    (hws : ∀ w ∈ ws, ∀ a' U, s.WarmedH U.vm → w.before a' U = true) (hcode : Cond.code y bytes maxL ret ∈ ws) (hinit : ∀ a' U, s.WarmedH U.vm → (Cond.initialized y.cls).before a' U = true) :
    vx_Back l R p e below s sargs y len W9 (PreOf R mc ms Pc) (PostOf Qc mc ms free) (vx_Post XC mc ms free) := by
  intro m meth c A g ig mk a X hg hsize hdg hW hn hp
  have h1 : (headSpec ws rm).pre.before a A.U = true := atoms_intro fun w hw => hws w hw _ _ X.warmed
  have h2 : (Cond.code y bytes maxL ret).before a A.U = true := hws _ hcode _ _ X.warmed
  have h3 : (Cond.initialized y.cls).before a A.U = true := hinit _ _ X.warmed
  have h4 : A.cells + (headSpec ws rm).room.cells ≤ R.cells := by rw [show (headSpec ws rm).room.cells = mc from hrc]; exact hp.1
  have h5 : A.slots + (headSpec ws rm).room.slots ≤ R.slots := by rw [show (headSpec ws rm).room.slots = ms from hrs]; exact hp.2.1
  have hPc : Pc a (A.U.calling g mk a) := hblind _ _ _ _ hp.2.2
  obtain ⟨U, Ls, c0, s0⟩ := A
  dsimp only [Pt.U, Pt.locs, Pt.cells, Pt.slots] at h1 h2 h3 h4 h5 X hn hPc ⊢
  obtain ⟨methY, cY, hmY, hcY, -, hlY, -, -, -, -⟩ := Cond.code_spec hn h2
  obtain ⟨kY, hkY, -⟩ := className_of_methodNamed hn
  have hinitY : kY.init = .initialized := Cond.initialized_spec (findClass_of_methodNamed hn) hkY h3
  have h : At U g.method c below := by rw [hg]; exact X.here
  have hlocals9 : W9 + (maxL + 11) + (headSpec ws rm).room.locals ≤ R.locals := hlocals
  have happ : (headSpec ws rm).appliesLoose y e.platform (U.calling g mk a) = true :=
    Spec.appliesLoose_calling (g := g) h hdg hn hkY hinitY
      (X.room_calling (g := g) (R' := (headSpec ws rm).room) hsize hmY hcY hframes (by rw [hlY]; omega) h4 h5) h1
  obtain ⟨mid, hmid⟩ := h.above
  have hfr : (U.setTop g).frames = (.java g :: mid) ++ below := by rw [State.frames_setTop' g h.top, hmid]; rfl
  obtain ⟨o, s₂, hsteps, -, hend, hq⟩ := Steps.callFree hM p X.admits X.cas X.clock (acts := []) hfr happ hPc trivial
  have hq' : vx_Q Qc XC mc ms free a (U.calling g mk a) o s₂ := hq
  rw [State.frames_setTop' g h.top] at hend
  obtain ⟨g₀, hg0⟩ := Option.isSome_iff_exists.mp h.top
  obtain ⟨r, hr⟩ := State.topJava?_eq_some.mp hg0
  have hr' : (({ U with heap := s₂.heap, slotsUsed := s₂.slotsUsed } : State).setVm s₂.vm).frames = .java g₀ :: r := hr
  rcases hq' with ⟨hqc, L, hfe, hL⟩ | ⟨q, rfl, E, ce, L, hx, hce, hcv, hcl, hW₂, hsm, hL⟩
  · obtain ⟨⟨v, rfl⟩, hW₂, e2, q2, q3, q4, q5, q6⟩ := id hfe
    have e3 : s₂ = ({ (U.calling g mk a).setFrames s₂.frames with heap := s₂.heap, slotsUsed := s₂.slotsUsed } : State).setVm s₂.vm := by
      have : s₂ = ({ s₂ with vm := (U.calling g mk a).vm } : State).setVm s₂.vm := rfl
      rw [e2] at this
      exact this
    obtain ⟨c₂, i₂, len₂, hc₂, hd₂, hf₂⟩ := hend
    have hW' : U.WarmedH s₂.vm := hW₂
    have hcc : c₂ = c := by
      have h1 : s₂.code? g.method = U.code? g.method := by
        rw [State.code?_eq, State.code?_eq, hW'.alike.method?]
      exact Option.some.inj (hc₂.symm.trans (h1.trans h.code))
    subst hcc
    have hlen : len₂ = len := by rw [hdg] at hd₂; cases hd₂; rfl
    subst hlen
    have hs₂ : s₂ = (({ U with heap := s₂.heap, slotsUsed := s₂.slotsUsed } : State).setVm s₂.vm).setTop { g with pc := g.pc + len₂, stack := v.toList ++ g.stack } := by
      refine e3.trans ?_
      rw [hf₂, State.calling_eq h.top, State.setFrames_setFrames, State.setTop_of_frames _ hr', hr]
      rfl
    have hsame : U.sameButNew ({ U with heap := s₂.heap, slotsUsed := s₂.slotsUsed } : State) L mc ms := by
      refine ⟨?_, q2, q3, q4, q5, q6⟩
      obtain ⟨t, ht, -⟩ := State.frames_cons hr
      show ({ U with heap := s₂.heap, slotsUsed := s₂.slotsUsed } : State) = { U.setFrames U.frames with heap := s₂.heap, slotsUsed := s₂.slotsUsed }
      rw [State.setFrames_self ht]
    subst hg
    refine Or.inl ⟨v, ⟨(({ U with heap := s₂.heap, slotsUsed := s₂.slotsUsed } : State).setVm s₂.vm), Ls ++ L, c0 + mc, s0 + ms⟩,
      ⟨X.admits, X.cas, X.clock, X.frames, X.room, X.hears, X.method, X.code, (X.here.setHeapUsed s₂.heap s₂.slotsUsed).setVm hW'.alike, X.tail, State.WarmedH.trans X.warmed hW', X.limits, X.bytes, X.same.trans (hsame.setVm s.vm)⟩,
      ⟨g, mk, s₂, L, rfl, rfl, hqc, rfl, hL, rfl, rfl⟩, ?_⟩
    show Steps p.tables e below _ ((({ U with heap := s₂.heap, slotsUsed := s₂.slotsUsed } : State).setVm s₂.vm).setTop { g with pc := g.pc + len₂, stack := v.toList ++ g.stack })
    rw [← hs₂]
    exact hsteps
  · obtain ⟨e2, q2, q3, q4, q5, q6⟩ := id hsm
    have e3 : s₂ = ({ (U.calling g mk a).setFrames s₂.frames with heap := s₂.heap, slotsUsed := s₂.slotsUsed } : State).setVm s₂.vm := by
      have : s₂ = ({ s₂ with vm := (U.calling g mk a).vm } : State).setVm s₂.vm := rfl
      rw [e2] at this
      exact this
    have hf₂ : s₂.frames = .throwing q :: .java g :: U.frames.tail := hend
    have hW' : U.WarmedH s₂.vm := hW₂
    have hs₂ : s₂ = ((({ U with heap := s₂.heap, slotsUsed := s₂.slotsUsed } : State).setVm s₂.vm).setTop g).pushFrame (.throwing q) := by
      refine e3.trans ?_
      rw [hf₂, State.calling_eq h.top, State.setFrames_setFrames, State.pushFrame, State.frames_setTop _ hr', State.setTop_of_frames _ hr', State.setFrames_setFrames, hr]
      rfl
    have hsame : U.sameButNew ({ U with heap := s₂.heap, slotsUsed := s₂.slotsUsed } : State) L mc ms := by
      refine ⟨?_, q2, q3, q4, q5, q6⟩
      obtain ⟨t, ht, -⟩ := State.frames_cons hr
      show ({ U with heap := s₂.heap, slotsUsed := s₂.slotsUsed } : State) = { U.setFrames U.frames with heap := s₂.heap, slotsUsed := s₂.slotsUsed }
      rw [State.setFrames_self ht]
    subst hg
    refine Or.inr ⟨q, ⟨(({ U with heap := s₂.heap, slotsUsed := s₂.slotsUsed } : State).setVm s₂.vm), Ls ++ L, c0 + mc, s0 + ms⟩,
      ⟨X.admits, X.cas, X.clock, X.frames, X.room, X.hears, X.method, X.code, (X.here.setHeapUsed s₂.heap s₂.slotsUsed).setVm hW'.alike, X.tail, State.WarmedH.trans X.warmed hW', X.limits, X.bytes, X.same.trans (hsame.setVm s.vm)⟩,
      ⟨g, mk, s₂, L, E, ce, rfl, rfl, hx, hce, hcv, hcl, rfl, hL, rfl, rfl⟩, ?_⟩
    show Steps p.tables e below _ (((({ U with heap := s₂.heap, slotsUsed := s₂.slotsUsed } : State).setVm s₂.vm).setTop g).pushFrame (.throwing q))
    rw [← hs₂]
    exact hsteps
end Payer
section Calls
variable {p : Program} {l : Launch} {e : Env} {R : Room} {s : State} {m : MethodId} {args : Array Value} {below : List Frame} {meth : Method} {c : Code} {T : State} {locs : List Loc} {cells slots : Nat}
theorem vx_callV (X : Stand p l e R s m args below meth c T locs cells slots) (hexec : p.tables.exec = Jvm.exec) {own C : String} {index : Nat} {y : MethodName} {bytes : ByteArray} {maxL : Nat} {ret : Option FieldType}
    (hown : s.vm.findClass own = some m.cls) (hlink : (Cond.methodLink own index y).before args s = true) (hinst : (Cond.instanceMethod y).before args s = true) (hsel : (Cond.selects C y y).before args s = true)
    (hcode : (Cond.code y bytes maxL ret).before args s = true) (hy : y.cls ≠ "java/lang/invoke/MethodHandle" ∧ y.cls ≠ "java/lang/invoke/VarHandle")
    {W9 : Nat} {Pre : Pt → Array Value → Prop} {Post : Pt → Array Value → Option Value → Pt → Prop} {PostX : Pt → Array Value → Addr → Pt → Prop} (hK : vx_Back l R p e below s args y 3 W9 Pre Post PostX)
    {b : Addr} {cellB : Cell} (hcell : T.heap[b]? = some cellB) (hobj : cellB.vm.isStatics = false) (hcls : s.vm.findClass C = some cellB.cls)
    {g : JFrame} (hg : g.method = m) (hsize : g.locals.size = c.maxLocals) {argsL rest : List Value} (hlen : ∀ sig, parseMethodDescriptor y.desc = some sig → argsL.length = sig.parameters.length)
    (hstack : g.stack = argsL.reverse ++ .ref b :: rest) (hW : 2 * g.monitorRoom + (rest.map fun v => v.category).sum ≤ W9) (hdg : decode c.code g.pc = .ok (.invokevirtual index, 3))
    (hpre : ∀ vm₁, s.WarmedH vm₁ → Pre ⟨T.setVm vm₁, locs, cells, slots⟩ (Value.ref b :: argsL).toArray) :
    (∃ (v : Option Value) (vm₁ : Vm) (B : Pt), s.WarmedH vm₁ ∧ Stand p l e R s m args below meth c B.U B.locs B.cells B.slots ∧ Post ⟨T.setVm vm₁, locs, cells, slots⟩ (Value.ref b :: argsL).toArray v B ∧
      ∀ target, Steps p.tables e below (B.U.setTop { g with pc := g.pc + 3, stack := v.toList ++ rest }) target → Steps p.tables e below (T.setTop g) target) ∨
    (∃ (q : Addr) (vm₁ : Vm) (B : Pt), s.WarmedH vm₁ ∧ Stand p l e R s m args below meth c B.U B.locs B.cells B.slots ∧ PostX ⟨T.setVm vm₁, locs, cells, slots⟩ (Value.ref b :: argsL).toArray q B ∧
      Steps p.tables e below (T.setTop g) ((B.U.setTop { g with stack := rest }).pushFrame (.throwing q))) := by
  obtain ⟨mk, methM, hnamed, hmethM, hstM, habM⟩ := Cond.instanceMethod_spec hinst
  obtain ⟨methM', cM, hmethM', -, -, -, -, -, -, hsigM⟩ := Cond.code_spec hnamed hcode
  cases hmethM.symm.trans hmethM'
  obtain ⟨c2, r2, m2, q1, q2, q3, q4, kP, hkP, hkPi⟩ := Cond.selects_spec hsel
  cases hcls.symm.trans q1
  cases (State.methodFound?_of_named hnamed hy).symm.trans q2
  cases hnamed.symm.trans q3
  have hselP : selectMethod e.platform s.vm cellB.cls mk = .method mk := by rw [Launch.admits_selectMethod X.admits]; exact q4
  obtain ⟨vm₁, X₁, hstep₁⟩ := X.invokevirtual hexec hown hlink hnamed hmethM hstM hkP hkPi hy (a := b) (cell := cellB) hcell
    (fun z h => by rw [h] at hobj; cases hobj) hselP hmethM habM hkP hkPi (g := g) hg (argsL := argsL) (rest := rest) (hlen _ hsigM) hstack hdg
  rcases hK m meth c ⟨T.setVm vm₁, locs, cells, slots⟩ { g with stack := rest } (.invokevirtual index) mk (Value.ref b :: argsL).toArray X₁ hg hsize hdg hW (X₁.named hnamed) (hpre vm₁ X₁.warmed) with ⟨v, B, X', hpost, hsteps⟩ | ⟨q, B, X', hpost, hsteps⟩
  · exact Or.inl ⟨v, vm₁, B, X₁.warmed, X', hpost, fun target h => hstep₁ _ fun acts => by rw [doInvoke_state]; exact hsteps.trans h⟩
  · exact Or.inr ⟨q, vm₁, B, X₁.warmed, X', hpost, hstep₁ _ fun acts => by rw [doInvoke_state]; exact hsteps⟩
theorem vx_callS (X : Stand p l e R s m args below meth c T locs cells slots) (hexec : p.tables.exec = Jvm.exec) {own : String} {index : Nat} {y : MethodName} {bytes : ByteArray} {maxL : Nat} {ret : Option FieldType}
    (hown : s.vm.findClass own = some m.cls) (hlink : (Cond.methodLink own index y).before args s = true) (hstat : (Cond.static y).before args s = true) (hinit : (Cond.initialized y.cls).before args s = true)
    (hcode : (Cond.code y bytes maxL ret).before args s = true) (hy : y.cls ≠ "java/lang/invoke/MethodHandle" ∧ y.cls ≠ "java/lang/invoke/VarHandle")
    {W9 : Nat} {Pre : Pt → Array Value → Prop} {Post : Pt → Array Value → Option Value → Pt → Prop} {PostX : Pt → Array Value → Addr → Pt → Prop} (hK : vx_Back l R p e below s args y 3 W9 Pre Post PostX)
    {g : JFrame} (hg : g.method = m) (hsize : g.locals.size = c.maxLocals) {argsL rest : List Value} (hlen : ∀ sig, parseMethodDescriptor y.desc = some sig → argsL.length = sig.parameters.length)
    (hstack : g.stack = argsL.reverse ++ rest) (hW : 2 * g.monitorRoom + (rest.map fun v => v.category).sum ≤ W9) (hdg : decode c.code g.pc = .ok (.invokestatic index, 3))
    (hpre : ∀ vm₁, s.WarmedH vm₁ → Pre ⟨T.setVm vm₁, locs, cells, slots⟩ argsL.toArray) :
    (∃ (v : Option Value) (vm₁ : Vm) (B : Pt), s.WarmedH vm₁ ∧ Stand p l e R s m args below meth c B.U B.locs B.cells B.slots ∧ Post ⟨T.setVm vm₁, locs, cells, slots⟩ argsL.toArray v B ∧
      ∀ target, Steps p.tables e below (B.U.setTop { g with pc := g.pc + 3, stack := v.toList ++ rest }) target → Steps p.tables e below (T.setTop g) target) ∨
    (∃ (q : Addr) (vm₁ : Vm) (B : Pt), s.WarmedH vm₁ ∧ Stand p l e R s m args below meth c B.U B.locs B.cells B.slots ∧ PostX ⟨T.setVm vm₁, locs, cells, slots⟩ argsL.toArray q B ∧
      Steps p.tables e below (T.setTop g) ((B.U.setTop { g with stack := rest }).pushFrame (.throwing q))) := by
  obtain ⟨mk, hnamed⟩ := Cond.code_named hcode
  obtain ⟨methM, cM, hmethM, -, -, -, -, -, -, hsigM⟩ := Cond.code_spec hnamed hcode
  have hstatic : methM.isStatic = true := Cond.static_spec hnamed hmethM hstat
  obtain ⟨kP, hkP, -⟩ := className_of_methodNamed hnamed
  have hinitP : kP.init = .initialized := Cond.initialized_spec (findClass_of_methodNamed hnamed) hkP hinit
  obtain ⟨vm₁, X₁, hstep₁⟩ := X.invokestatic hexec hown hlink hnamed hmethM hstatic hkP hinitP hy (g := g) hg (argsL := argsL) (rest := rest) (hlen _ hsigM) hstack hdg
  rcases hK m meth c ⟨T.setVm vm₁, locs, cells, slots⟩ { g with stack := rest } (.invokestatic index) mk argsL.toArray X₁ hg hsize hdg hW (X₁.named hnamed) (hpre vm₁ X₁.warmed) with ⟨v, B, X', hpost, hsteps⟩ | ⟨q, B, X', hpost, hsteps⟩
  · exact Or.inl ⟨v, vm₁, B, X₁.warmed, X', hpost, fun target h => hstep₁ _ fun acts => by rw [doInvoke_state]; exact hsteps.trans h⟩
  · exact Or.inr ⟨q, vm₁, B, X₁.warmed, X', hpost, hstep₁ _ fun acts => by rw [doInvoke_state]; exact hsteps⟩
end Calls
theorem vx_cls {s : State} {T : State} {vm₁ : Vm} {E : String} {k : ClassId} (hW : s.WarmedH vm₁) (h : (T.setVm vm₁).vm.findClass E = some k) : s.vm.findClass E = some k := by
  have h1 : vm₁.findClass E = some k := h
  rw [hW.alike.findClass] at h1
  exact h1
def vx_W (p : Program) (l : Launch) (e : Env) (R : Room) (s : State) (m : MethodId) (args : Array Value) (below : List Frame) (meth : Method) (c : Code) (H : Heap) (locs : List Loc) (cells slots : Nat) (Q : State → Prop) (g : JFrame) (q : Addr) : Prop :=
  ∀ T : State, T.heap = H → Stand p l e R s m args below meth c T locs cells slots → ∃ t, Steps p.tables e below ((T.setTop g).pushFrame (.throwing q)) t ∧ Q t
def vx_Run (p : Program) (l : Launch) (e : Env) (R : Room) (s : State) (m : MethodId) (args : Array Value) (below : List Frame) (meth : Method) (c : Code) (H : Heap) (locs : List Loc) (cells slots mc ms : Nat) (g : JFrame) (rest : List Value) (Qa : State → Outcome → State → Prop) (XC : String → State → State → Prop) (free : Addr → Prop) : Prop :=
  ∀ T : State, T.heap = H → Stand p l e R s m args below meth c T locs cells slots →
    (∃ (v : Option Value) (st₀ t T' : State) (L : List Loc), st₀.heap = H ∧ Stand p l e R s m args below meth c T' (locs ++ L) (cells + mc) (slots + ms) ∧ (∀ q ∈ L, free q.base) ∧ T'.heap = t.heap ∧ T'.vm = t.vm ∧ Qa st₀ (.returned v) t ∧
      Goes p e below T g T' { g with pc := g.pc + 3, stack := v.toList ++ rest }) ∨
    (∃ (q : Addr) (st₀ t T' : State) (L : List Loc) (E : String) (ce : Cell), st₀.heap = H ∧ Stand p l e R s m args below meth c T' (locs ++ L) (cells + mc) (slots + ms) ∧ (∀ z ∈ L, free z.base) ∧ T'.heap = t.heap ∧ T'.vm = t.vm ∧ XC E st₀ t ∧ t.heap[q]? = some ce ∧ ce.vm = .none ∧ s.vm.findClass E = some ce.cls ∧
      Steps p.tables e below (T.setTop g) ((T'.setTop { g with stack := rest }).pushFrame (.throwing q)))
def vx_X {S : Type} (px : S → Prop) (B : String → S → State → Prop) (A : Nat → Prop) : String → State → State → Prop := fun E st t => ∃ u : S, px u ∧ B E u t ∧ va_F A st t
section Runs
variable {p : Program} {l : Launch} {e : Env} {R : Room} {s : State} {m : MethodId} {args : Array Value} {below : List Frame} {meth : Method} {c : Code} {H : Heap} {locs : List Loc} {cells slots : Nat}
variable {y : MethodName} {bytes cc : ByteArray} {maxL nL mc ms n index : Nat} {ret : Option FieldType} {ws : List Cond} {rm : Room} {Pc : Array Value → State → Prop} {Qc : Array Value → State → Outcome → State → Prop} {XC : String → State → State → Prop} {free : Addr → Prop} {Ts : List Cond} {own C : String} {b : Addr} {As rest : List Value} {g : JFrame}
theorem vx_callBack (cb : CallB R s args own index y bytes maxL ret ws rm mc ms n) (hM : vx_Met l y ws rm Pc Qc XC mc ms free) (hbl : FrameBlind Pc) : vx_Back l R p e below s args y 3 8 (PreOf R mc ms Pc) (PostOf Qc mc ms free) (vx_Post XC mc ms free) := by
  obtain ⟨hrc, hrs, hfr, hlo, hws, hcw, -, hini, -⟩ := cb
  exact vx_back (bytes := bytes) (maxL := maxL) (ret := ret) hM hbl hrc hrs hfr hlo hws hcw (fun a' U hW => word_at hW (Or.inl (by first | rfl | simp [Cond.onTables, Cond.keeps, Cond.steady])) hini)
theorem vx_runV (S : CallFix p m c cc nL s args Ts own) (hM : vx_Met l y ws rm Pc Qc XC mc ms free) (cw : CallW R s args own C index y bytes maxL ret ws rm mc ms n) (hp : PreV s H C b Pc As)
    (hg : g.method = m) (hn : As.length = n) (hsize : g.locals.size = nL) (hstack : g.stack = As.reverse ++ .ref b :: rest) (hW : 2 * g.monitorRoom + (rest.map fun v => v.category).sum ≤ 8) (hdg : decode cc g.pc = .ok (.invokevirtual index, 3)) (hf : cells + mc ≤ R.cells ∧ slots + ms ≤ R.slots) :
    vx_Run p l e R s m args below meth c H locs cells slots mc ms g rest (Qc (Value.ref b :: As).toArray) XC free := by
  have hK : vx_Back l R p e below s args y 3 8 (PreOf R mc ms Pc) (PostOf Qc mc ms free) (vx_Post XC mc ms free) := vx_callBack cw.1 hM hp.1
  obtain ⟨⟨-, -, -, -, -, -, hcode, -, hy, hlen, hl⟩, hin, hse⟩ := cw
  obtain ⟨hx, hb, hml, ho, -⟩ := S
  obtain ⟨-, ⟨cellB, hcB, hoB, hclB⟩, hPc⟩ := hp
  intro T hT X
  rcases vx_callV X hx (C := C) (bytes := bytes) (maxL := maxL) (ret := ret) ho hl hin hse hcode hy hK (by rw [hT]; exact hcB) hoB hclB hg (hsize.trans hml.symm) (argsL := As) (rest := rest) (fun sig h => hn.trans (hlen sig h)) hstack hW (by rw [hb]; exact hdg)
    (fun vm₁ hW₁ => ⟨hf.1, hf.2, hPc (T.setVm vm₁) hT hW₁⟩) with ⟨v, vm₁, ⟨U', l2, c2, s2⟩, hW₁, X', ⟨g', mk, t, L, e1, e2, hq, h1, hL, h2, h3⟩, st⟩ | ⟨q, vm₁, ⟨U', l2, c2, s2⟩, hW₁, X', ⟨g', mk, t, L, E, ce, e1, e2, hq, hce, hcv, hcl, h1, hL, h2, h3⟩, st⟩
  · dsimp only [Pt.U, Pt.locs, Pt.cells, Pt.slots] at X' e1 e2 h1 h2 h3 st
    subst h1; subst h2; subst h3
    exact Or.inl ⟨v, (T.setVm vm₁).calling g' mk (Value.ref b :: As).toArray, t, U', L, hT, X', hL, e1, e2, hq, st⟩
  · dsimp only [Pt.U, Pt.locs, Pt.cells, Pt.slots] at X' e1 e2 h1 h2 h3 st hcl
    subst h1; subst h2; subst h3
    exact Or.inr ⟨q, (T.setVm vm₁).calling g' mk (Value.ref b :: As).toArray, t, U', L, E, ce, hT, X', hL, e1, e2, hq, hce, hcv, vx_cls hW₁ hcl, st⟩
theorem vx_runS (S : CallFix p m c cc nL s args Ts own) (hM : vx_Met l y ws rm Pc Qc XC mc ms free) (cw : CallB R s args own index y bytes maxL ret ws rm mc ms n ∧ (Cond.static y).before args s = true) (hp : PreS s H Pc As)
    (hg : g.method = m) (hn : As.length = n) (hsize : g.locals.size = nL) (hstack : g.stack = As.reverse ++ rest) (hW : 2 * g.monitorRoom + (rest.map fun v => v.category).sum ≤ 8) (hdg : decode cc g.pc = .ok (.invokestatic index, 3)) (hf : cells + mc ≤ R.cells ∧ slots + ms ≤ R.slots) :
    vx_Run p l e R s m args below meth c H locs cells slots mc ms g rest (Qc As.toArray) XC free := by
  have hK : vx_Back l R p e below s args y 3 8 (PreOf R mc ms Pc) (PostOf Qc mc ms free) (vx_Post XC mc ms free) := vx_callBack cw.1 hM hp.1
  obtain ⟨⟨-, -, -, -, -, -, hcode, hini, hy, hlen, hl⟩, hstt⟩ := cw
  obtain ⟨hx, hb, hml, ho, -⟩ := S
  intro T hT X
  rcases vx_callS X hx (bytes := bytes) (maxL := maxL) (ret := ret) ho hl hstt hini hcode hy hK hg (hsize.trans hml.symm) (argsL := As) (rest := rest) (fun sig h => hn.trans (hlen sig h)) hstack hW (by rw [hb]; exact hdg)
    (fun vm₁ hW₁ => ⟨hf.1, hf.2, hp.2 (T.setVm vm₁) hT hW₁⟩) with ⟨v, vm₁, ⟨U', l2, c2, s2⟩, hW₁, X', ⟨g', mk, t, L, e1, e2, hq, h1, hL, h2, h3⟩, st⟩ | ⟨q, vm₁, ⟨U', l2, c2, s2⟩, hW₁, X', ⟨g', mk, t, L, E, ce, e1, e2, hq, hce, hcv, hcl, h1, hL, h2, h3⟩, st⟩
  · dsimp only [Pt.U, Pt.locs, Pt.cells, Pt.slots] at X' e1 e2 h1 h2 h3 st
    subst h1; subst h2; subst h3
    exact Or.inl ⟨v, (T.setVm vm₁).calling g' mk As.toArray, t, U', L, hT, X', hL, e1, e2, hq, st⟩
  · dsimp only [Pt.U, Pt.locs, Pt.cells, Pt.slots] at X' e1 e2 h1 h2 h3 st hcl
    subst h1; subst h2; subst h3
    exact Or.inr ⟨q, (T.setVm vm₁).calling g' mk As.toArray, t, U', L, E, ce, hT, X', hL, e1, e2, hq, hce, hcv, vx_cls hW₁ hcl, st⟩
end Runs
section Rows
variable {p : Program} {l : Launch} {e : Env} {R : Room} {s : State} {m : MethodId} {args : Array Value} {below : List Frame} {meth : Method} {c : Code} {H : Heap} {locs : List Loc} {cells slots : Nat} {Q : State → Prop}
variable {mc ms : Nat} {free : Addr → Prop} {A0 A1 : Nat → Prop} {H0 : Heap} {a : Array Value} {pc : Nat} {ls : Array Slot} {st0 rest : List Value}
theorem vx_keep {st₀ t T' : State} {L : List Loc} (h0 : st₀.heap = H) (e1 : T'.heap = t.heap) (hS : va_S A0 H0 H locs) (hA : ∀ q, q < H.size → A1 q → A0 q) (hf : ∀ q, free q → A0 q) (hL : ∀ q ∈ L, free q.base) (hF : va_F A1 st₀ t) :
    H.size ≤ T'.heap.size ∧ (∀ q : Nat, q < H.size → ¬ A1 q → T'.heap[q]? = H[q]?) ∧ va_S A0 H0 T'.heap (locs ++ L) := by
  obtain ⟨hz, hk⟩ := hF
  rw [h0] at hz hk
  exact ⟨by rw [e1]; exact hz, fun q h1 h2 => by rw [e1]; exact hk q h1 h2,
    ⟨Nat.le_trans hS.1 (by rw [e1]; exact hz), fun q h1 h2 => by rw [e1, hk q (Nat.lt_of_lt_of_le h1 hS.1) (fun z => h2 (hA q (Nat.lt_of_lt_of_le h1 hS.1) z))]; exact hS.2.1 q h1 h2, fun q hq => by
      rcases List.mem_append.mp hq with h | h
      · exact hS.2.2 q h
      · exact hf _ (hL q h)⟩⟩
theorem vx_calli {S SX : Type} {post : Int32 → S → Prop} {px : SX → Prop} {B : S → State → Prop} {BX : String → SX → State → Prop} {AX : Nat → Prop} (hr : vx_Run p l e R s m args below meth c H locs cells slots mc ms (F0 m pc ls st0) rest (va_Qi post B A1 a) (vx_X px BX AX) free) (hS : va_S A0 H0 H locs) (hA : ∀ q, q < H.size → A1 q → A0 q) (hf : ∀ q, free q → A0 q) (hAX : ∀ q, q < H.size → AX q → A0 q)
    (kx : ∀ (E : String) (ce : Cell) (q9 : Addr) (u : SX) (t : State) (H1 : Heap) (locs1 : List Loc), t.heap = H1 → s.vm.Alike t.vm → px u → BX E u t → H.size ≤ H1.size → (∀ q : Nat, q < H.size → ¬ AX q → H1[q]? = H[q]?) → va_S A0 H0 H1 locs1 → H1[q9]? = some ce → ce.vm = .none → s.vm.findClass E = some ce.cls → vx_W p l e R s m args below meth c H1 locs1 (cells + mc) (slots + ms) Q (F0 m pc ls rest) q9)
    (kk : ∀ (r : Int32) (u : S) (t : State) (H1 : Heap) (locs1 : List Loc), t.heap = H1 → s.vm.Alike t.vm → post r u → B u t → H.size ≤ H1.size → (∀ q : Nat, q < H.size → ¬ A1 q → H1[q]? = H[q]?) → va_S A0 H0 H1 locs1 → W p l e R s m args below meth c H1 locs1 (cells + mc) (slots + ms) Q (F0 m (pc + 3) ls (.int r :: rest))) : W p l e R s m args below meth c H locs cells slots Q (F0 m pc ls st0) := by
  intro T hT X
  rcases hr T hT X with ⟨v, st₀, t, T', L, h0, X', hL, e1, e2, ⟨⟨r, u, hv, hp, hb⟩, hF⟩, st⟩ | ⟨q, st₀, t, T', L, E, ce, h0, X', hL, e1, e2, ⟨u, hp, hb, hF⟩, hce, hcv, hcl, st⟩
  · cases hv
    obtain ⟨k1, k2, k3⟩ := vx_keep h0 e1 hS hA hf hL hF
    obtain ⟨t2, a1, b1⟩ := kk r u t T'.heap (locs ++ L) e1.symm (by rw [← e2]; exact X'.warmed.alike) hp hb k1 k2 k3 T' rfl X'
    exact ⟨t2, st t2 a1, b1⟩
  · obtain ⟨k1, k2, k3⟩ := vx_keep h0 e1 hS hAX hf hL hF
    obtain ⟨t2, a1, b1⟩ := kx E ce q u t T'.heap (locs ++ L) e1.symm (by rw [← e2]; exact X'.warmed.alike) hp hb k1 k2 k3 (by rw [e1]; exact hce) hcv hcl T' rfl X'
    exact ⟨t2, st.trans a1, b1⟩
theorem vx_calll {S SX : Type} {post : Int64 → S → Prop} {px : SX → Prop} {B : S → State → Prop} {BX : String → SX → State → Prop} {AX : Nat → Prop} (hr : vx_Run p l e R s m args below meth c H locs cells slots mc ms (F0 m pc ls st0) rest (va_Ql post B A1 a) (vx_X px BX AX) free) (hS : va_S A0 H0 H locs) (hA : ∀ q, q < H.size → A1 q → A0 q) (hf : ∀ q, free q → A0 q) (hAX : ∀ q, q < H.size → AX q → A0 q)
    (kx : ∀ (E : String) (ce : Cell) (q9 : Addr) (u : SX) (t : State) (H1 : Heap) (locs1 : List Loc), t.heap = H1 → s.vm.Alike t.vm → px u → BX E u t → H.size ≤ H1.size → (∀ q : Nat, q < H.size → ¬ AX q → H1[q]? = H[q]?) → va_S A0 H0 H1 locs1 → H1[q9]? = some ce → ce.vm = .none → s.vm.findClass E = some ce.cls → vx_W p l e R s m args below meth c H1 locs1 (cells + mc) (slots + ms) Q (F0 m pc ls rest) q9)
    (kk : ∀ (r : Int64) (u : S) (t : State) (H1 : Heap) (locs1 : List Loc), t.heap = H1 → s.vm.Alike t.vm → post r u → B u t → H.size ≤ H1.size → (∀ q : Nat, q < H.size → ¬ A1 q → H1[q]? = H[q]?) → va_S A0 H0 H1 locs1 → W p l e R s m args below meth c H1 locs1 (cells + mc) (slots + ms) Q (F0 m (pc + 3) ls (.long r :: rest))) : W p l e R s m args below meth c H locs cells slots Q (F0 m pc ls st0) := by
  intro T hT X
  rcases hr T hT X with ⟨v, st₀, t, T', L, h0, X', hL, e1, e2, ⟨⟨r, u, hv, hp, hb⟩, hF⟩, st⟩ | ⟨q, st₀, t, T', L, E, ce, h0, X', hL, e1, e2, ⟨u, hp, hb, hF⟩, hce, hcv, hcl, st⟩
  · cases hv
    obtain ⟨k1, k2, k3⟩ := vx_keep h0 e1 hS hA hf hL hF
    obtain ⟨t2, a1, b1⟩ := kk r u t T'.heap (locs ++ L) e1.symm (by rw [← e2]; exact X'.warmed.alike) hp hb k1 k2 k3 T' rfl X'
    exact ⟨t2, st t2 a1, b1⟩
  · obtain ⟨k1, k2, k3⟩ := vx_keep h0 e1 hS hAX hf hL hF
    obtain ⟨t2, a1, b1⟩ := kx E ce q u t T'.heap (locs ++ L) e1.symm (by rw [← e2]; exact X'.warmed.alike) hp hb k1 k2 k3 (by rw [e1]; exact hce) hcv hcl T' rfl X'
    exact ⟨t2, st.trans a1, b1⟩
theorem vx_callf {S SX : Type} {post : UInt32 → S → Prop} {px : SX → Prop} {B : S → State → Prop} {BX : String → SX → State → Prop} {AX : Nat → Prop} (hr : vx_Run p l e R s m args below meth c H locs cells slots mc ms (F0 m pc ls st0) rest (va_Qf post B A1 a) (vx_X px BX AX) free) (hS : va_S A0 H0 H locs) (hA : ∀ q, q < H.size → A1 q → A0 q) (hf : ∀ q, free q → A0 q) (hAX : ∀ q, q < H.size → AX q → A0 q)
    (kx : ∀ (E : String) (ce : Cell) (q9 : Addr) (u : SX) (t : State) (H1 : Heap) (locs1 : List Loc), t.heap = H1 → s.vm.Alike t.vm → px u → BX E u t → H.size ≤ H1.size → (∀ q : Nat, q < H.size → ¬ AX q → H1[q]? = H[q]?) → va_S A0 H0 H1 locs1 → H1[q9]? = some ce → ce.vm = .none → s.vm.findClass E = some ce.cls → vx_W p l e R s m args below meth c H1 locs1 (cells + mc) (slots + ms) Q (F0 m pc ls rest) q9)
    (kk : ∀ (r : UInt32) (u : S) (t : State) (H1 : Heap) (locs1 : List Loc), t.heap = H1 → s.vm.Alike t.vm → post r u → B u t → H.size ≤ H1.size → (∀ q : Nat, q < H.size → ¬ A1 q → H1[q]? = H[q]?) → va_S A0 H0 H1 locs1 → W p l e R s m args below meth c H1 locs1 (cells + mc) (slots + ms) Q (F0 m (pc + 3) ls (.float r :: rest))) : W p l e R s m args below meth c H locs cells slots Q (F0 m pc ls st0) := by
  intro T hT X
  rcases hr T hT X with ⟨v, st₀, t, T', L, h0, X', hL, e1, e2, ⟨⟨r, u, hv, hp, hb⟩, hF⟩, st⟩ | ⟨q, st₀, t, T', L, E, ce, h0, X', hL, e1, e2, ⟨u, hp, hb, hF⟩, hce, hcv, hcl, st⟩
  · cases hv
    obtain ⟨k1, k2, k3⟩ := vx_keep h0 e1 hS hA hf hL hF
    obtain ⟨t2, a1, b1⟩ := kk r u t T'.heap (locs ++ L) e1.symm (by rw [← e2]; exact X'.warmed.alike) hp hb k1 k2 k3 T' rfl X'
    exact ⟨t2, st t2 a1, b1⟩
  · obtain ⟨k1, k2, k3⟩ := vx_keep h0 e1 hS hAX hf hL hF
    obtain ⟨t2, a1, b1⟩ := kx E ce q u t T'.heap (locs ++ L) e1.symm (by rw [← e2]; exact X'.warmed.alike) hp hb k1 k2 k3 (by rw [e1]; exact hce) hcv hcl T' rfl X'
    exact ⟨t2, st.trans a1, b1⟩
theorem vx_calld {S SX : Type} {post : UInt64 → S → Prop} {px : SX → Prop} {B : S → State → Prop} {BX : String → SX → State → Prop} {AX : Nat → Prop} (hr : vx_Run p l e R s m args below meth c H locs cells slots mc ms (F0 m pc ls st0) rest (va_Qd post B A1 a) (vx_X px BX AX) free) (hS : va_S A0 H0 H locs) (hA : ∀ q, q < H.size → A1 q → A0 q) (hf : ∀ q, free q → A0 q) (hAX : ∀ q, q < H.size → AX q → A0 q)
    (kx : ∀ (E : String) (ce : Cell) (q9 : Addr) (u : SX) (t : State) (H1 : Heap) (locs1 : List Loc), t.heap = H1 → s.vm.Alike t.vm → px u → BX E u t → H.size ≤ H1.size → (∀ q : Nat, q < H.size → ¬ AX q → H1[q]? = H[q]?) → va_S A0 H0 H1 locs1 → H1[q9]? = some ce → ce.vm = .none → s.vm.findClass E = some ce.cls → vx_W p l e R s m args below meth c H1 locs1 (cells + mc) (slots + ms) Q (F0 m pc ls rest) q9)
    (kk : ∀ (r : UInt64) (u : S) (t : State) (H1 : Heap) (locs1 : List Loc), t.heap = H1 → s.vm.Alike t.vm → post r u → B u t → H.size ≤ H1.size → (∀ q : Nat, q < H.size → ¬ A1 q → H1[q]? = H[q]?) → va_S A0 H0 H1 locs1 → W p l e R s m args below meth c H1 locs1 (cells + mc) (slots + ms) Q (F0 m (pc + 3) ls (.double r :: rest))) : W p l e R s m args below meth c H locs cells slots Q (F0 m pc ls st0) := by
  intro T hT X
  rcases hr T hT X with ⟨v, st₀, t, T', L, h0, X', hL, e1, e2, ⟨⟨r, u, hv, hp, hb⟩, hF⟩, st⟩ | ⟨q, st₀, t, T', L, E, ce, h0, X', hL, e1, e2, ⟨u, hp, hb, hF⟩, hce, hcv, hcl, st⟩
  · cases hv
    obtain ⟨k1, k2, k3⟩ := vx_keep h0 e1 hS hA hf hL hF
    obtain ⟨t2, a1, b1⟩ := kk r u t T'.heap (locs ++ L) e1.symm (by rw [← e2]; exact X'.warmed.alike) hp hb k1 k2 k3 T' rfl X'
    exact ⟨t2, st t2 a1, b1⟩
  · obtain ⟨k1, k2, k3⟩ := vx_keep h0 e1 hS hAX hf hL hF
    obtain ⟨t2, a1, b1⟩ := kx E ce q u t T'.heap (locs ++ L) e1.symm (by rw [← e2]; exact X'.warmed.alike) hp hb k1 k2 k3 (by rw [e1]; exact hce) hcv hcl T' rfl X'
    exact ⟨t2, st.trans a1, b1⟩
theorem vx_callv {S SX : Type} {post : S → Prop} {px : SX → Prop} {B : S → State → Prop} {BX : String → SX → State → Prop} {AX : Nat → Prop} (hr : vx_Run p l e R s m args below meth c H locs cells slots mc ms (F0 m pc ls st0) rest (va_Qv post B A1 a) (vx_X px BX AX) free) (hS : va_S A0 H0 H locs) (hA : ∀ q, q < H.size → A1 q → A0 q) (hf : ∀ q, free q → A0 q) (hAX : ∀ q, q < H.size → AX q → A0 q)
    (kx : ∀ (E : String) (ce : Cell) (q9 : Addr) (u : SX) (t : State) (H1 : Heap) (locs1 : List Loc), t.heap = H1 → s.vm.Alike t.vm → px u → BX E u t → H.size ≤ H1.size → (∀ q : Nat, q < H.size → ¬ AX q → H1[q]? = H[q]?) → va_S A0 H0 H1 locs1 → H1[q9]? = some ce → ce.vm = .none → s.vm.findClass E = some ce.cls → vx_W p l e R s m args below meth c H1 locs1 (cells + mc) (slots + ms) Q (F0 m pc ls rest) q9)
    (kk : ∀ (u : S) (t : State) (H1 : Heap) (locs1 : List Loc), t.heap = H1 → s.vm.Alike t.vm → post u → B u t → H.size ≤ H1.size → (∀ q : Nat, q < H.size → ¬ A1 q → H1[q]? = H[q]?) → va_S A0 H0 H1 locs1 → W p l e R s m args below meth c H1 locs1 (cells + mc) (slots + ms) Q (F0 m (pc + 3) ls (rest))) : W p l e R s m args below meth c H locs cells slots Q (F0 m pc ls st0) := by
  intro T hT X
  rcases hr T hT X with ⟨v, st₀, t, T', L, h0, X', hL, e1, e2, ⟨⟨u, hv, hp, hb⟩, hF⟩, st⟩ | ⟨q, st₀, t, T', L, E, ce, h0, X', hL, e1, e2, ⟨u, hp, hb, hF⟩, hce, hcv, hcl, st⟩
  · cases hv
    obtain ⟨k1, k2, k3⟩ := vx_keep h0 e1 hS hA hf hL hF
    obtain ⟨t2, a1, b1⟩ := kk u t T'.heap (locs ++ L) e1.symm (by rw [← e2]; exact X'.warmed.alike) hp hb k1 k2 k3 T' rfl X'
    exact ⟨t2, st t2 a1, b1⟩
  · obtain ⟨k1, k2, k3⟩ := vx_keep h0 e1 hS hAX hf hL hF
    obtain ⟨t2, a1, b1⟩ := kx E ce q u t T'.heap (locs ++ L) e1.symm (by rw [← e2]; exact X'.warmed.alike) hp hb k1 k2 k3 (by rw [e1]; exact hce) hcv hcl T' rfl X'
    exact ⟨t2, st.trans a1, b1⟩
theorem vx_catch {own name : String} {E : String} {ce : Cell} {q : Addr} (hown : s.vm.findClass own = some m.cls) (pre : List ExceptionTableEntry) (x : ExceptionTableEntry) (suf : List ExceptionTableEntry) (hsplit : c.exceptionTable.toList = pre ++ x :: suf)
    (hpass : ∀ z ∈ pre, covers z pc = false ∨ (z.catchType ≠ 0 ∧ ∃ nm : String, (Cond.classLink own z.catchType nm).before args s = true ∧ va_Nc E nm s)) (hx : covers x pc = true) (h0 : x.catchType ≠ 0)
    (hlink : (Cond.classLink own x.catchType name).before args s = true) (hcast : (Cond.castable E name).before args s = true) (hcell : H[q]? = some ce) (hv : ce.vm = .none) (hcl : s.vm.findClass E = some ce.cls)
    (kk : W p l e R s m args below meth c H locs cells slots Q (F0 m x.handlerPc ls [.ref q])) : vx_W p l e R s m args below meth c H locs cells slots Q (F0 m pc ls rest) q := by
  intro T hT X
  have hpl : e.platform.magicAccessors = ({} : Platform).magicAccessors := by rw [X.admits.platform]
  obtain ⟨c3, c4, hc3, hc4, hasg⟩ := Cond.castable_spec hcast
  cases Option.some.inj (hc3.symm.trans hcl)
  obtain ⟨c5, hc5, hcl5⟩ := Cond.classLink_spec hown hlink e.platform hpl
  cases Option.some.inj (hc4.symm.trans hc5)
  obtain ⟨vm', X', st⟩ := X.thenCaughtThrough q (g := F0 m pc ls rest) rfl (Steps.refl _) (by rw [hT]; exact hcell) (by rw [hv]; rfl) (by obtain ⟨k9, h9, -⟩ := Vm.findClass_spec hcl; exact ⟨k9, h9⟩) pre x suf hsplit
    (fun z hz => by
      rcases hpass z hz with h | ⟨hz0, nm, hl1, hn1⟩
      · exact Or.inl h
      · obtain ⟨c6, hc6, hcl6⟩ := Cond.classLink_spec hown hl1 e.platform hpl
        obtain ⟨a8, b8, h1, h2, h3⟩ := hn1
        cases Option.some.inj (h1.symm.trans hcl)
        cases Option.some.inj (h2.symm.trans hc6)
        exact Or.inr ⟨hz0, _, hcl6, h3⟩) hx (Or.inr ⟨h0, c4, hcl5, hasg⟩)
  obtain ⟨t, a1, b1⟩ := kk (T.setVm vm') hT X'
  exact ⟨t, st.trans a1, b1⟩
end Rows
section Ends
variable {p : Program} {l : Launch} {e : Env} {R : Room} {s : State} {m : MethodId} {args : Array Value} {below : List Frame} {meth : Method} {c : Code} {H : Heap} {locs : List Loc} {cells slots : Nat} {Q : State → Prop}
variable {mc ms : Nat} {free : Addr → Prop} {A0 A1 : Nat → Prop} {H0 : Heap} {a : Array Value} {ls : Array Slot} {st0 rest : List Value}
variable {Qc : Array Value → State → Outcome → State → Prop} {XC : String → State → State → Prop}
def vx_MQ (below : List Frame) (Qc : Array Value → State → Outcome → State → Prop) (XC : String → State → State → Prop) (a : Array Value) (s : State) (mc ms : Nat) (free : Addr → Prop) : State → Prop := fun t =>
  ∃ o, t.status = .running ∧ Ended t below o ∧ vx_Q Qc XC mc ms free a s o t
theorem vx_ret {g : JFrame} {mc ms : Nat} (k : W p l e R s m args below meth c H locs cells slots (MQ below Qc args s mc ms free) g) : W p l e R s m args below meth c H locs cells slots (vx_MQ below Qc XC args s mc ms free) g := by
  intro T hT X
  obtain ⟨t, a1, o, b1, b2, b3, b4⟩ := k T hT X
  exact ⟨t, a1, o, b1, b2, Or.inl ⟨b3, b4⟩⟩
theorem vx_widen {g : JFrame} {q : Addr} {k n : Nat} (h1 : cells ≤ k) (h2 : slots ≤ n) (kk : vx_W p l e R s m args below meth c H locs k n Q g q) : vx_W p l e R s m args below meth c H locs cells slots Q g q := fun T hT X => kk T hT (stand_widen X h1 h2)
theorem vx_out {pc : Nat} {E : String} {ce : Cell} {q : Addr} {mc ms : Nat} (hout : ∀ x ∈ c.exceptionTable.toList, covers x pc = false) (hlocks : meth.locks = false) (hcell : H[q]? = some ce) (hv : ce.vm = .none) (hcl : s.vm.findClass E = some ce.cls)
    (hx : ∀ t : State, t.heap = H → s.vm.Alike t.vm → XC E s t) (hf : ∀ z ∈ locs, free z.base) (hc : cells ≤ mc) (hs : slots ≤ ms) :
    vx_W p l e R s m args below meth c H locs cells slots (vx_MQ below Qc XC args s mc ms free) (F0 m pc ls rest) q := by
  intro T hT X
  obtain ⟨st1, hrun, hend, hW, hsm⟩ := X.leaveThrown q (g := F0 m pc ls rest) rfl rfl rfl hout hlocks
  have hcell9 : (T.setFrames (.throwing q :: below)).heap[q]? = some ce := by
    show T.heap[q]? = some ce
    rw [hT]; exact hcell
  exact ⟨_, st1, .threw q, hrun, hend, Or.inr ⟨q, rfl, E, ce, locs, hx _ hT hW.alike, hcell9, hv, hcl, hW, hsm.mono hc hs, hf⟩⟩
theorem vx_frame {U : State} {k n : Nat} (h : s.sameButNew ({ U with vm := s.vm } : State) locs k n) : s.heap.size ≤ U.heap.size ∧ ∀ q : Nat, q < s.heap.size → (∀ z ∈ locs, z.base ≠ q) → U.heap[q]? = s.heap[q]? := by
  obtain ⟨-, h2, -, -, -, h6⟩ := h
  refine ⟨h2, fun q hq hz => ?_⟩
  obtain ⟨c9, e1, e2, e3, e4⟩ := h6 q _ (Array.getElem?_eq_getElem hq)
  have hs : c9.slots = (s.heap[q]).slots := Array.ext_getElem? fun i => e4 i fun hm => hz _ hm rfl
  have h9 : c9 = s.heap[q] := by
    rw [hs] at e2
    exact e2
  have e5 : U.heap[q]? = some c9 := e1
  rw [e5, h9, Array.getElem?_eq_getElem hq]
def vx_no (w : Cond) : Bool := decide (w ≠ .isRef (.static Bundle.tN "UNASSIGNED_STACK" Bundle.steD)) && decide (w ≠ .isRef (.static Bundle.tN "SUPPRESSED_SENTINEL" Bundle.listD)) && decide (w ≠ .laysStatic Bundle.tN "UNASSIGNED_STACK" Bundle.steD) && decide (w ≠ .laysStatic Bundle.tN "SUPPRESSED_SENTINEL" Bundle.listD)
def vx_at0 (own : String) (ic : Nat) (X : String) (names : List String) : List Cond := (Bundle.ownAtoms0 own ic X names).filter vx_no
def vx_atS (own : String) (ic : Nat) (X : String) (names : List String) : List Cond := (Bundle.ownAtoms own ic X names).filter vx_no
def vx_ot (w : Cond) : Bool := w.onTables || goodWord w
theorem vx_ot_at {args a' : Array Value} {s U : State} {w : Cond} (hW : s.WarmedH U.vm) (hvm : s.vm = U.vm) (hg : vx_ot w = true) (h : w.before args s = true) : w.before a' U = true := by
  simp only [vx_ot, Bool.or_eq_true] at hg
  rcases hg with hg | hg
  · exact va_tabs hg hvm h
  · exact word_at hW (good_of_word hg) h
theorem vx_hat {args : Array Value} {s : State} {L B : List Cond} (h1 : ∀ w ∈ L.filter goodWord, w.before args s = true) (h2 : ∀ w ∈ L.filter (fun w => !goodWord w), w ∈ B) (h3 : ∀ w ∈ B, w.before args s = true) : ∀ w ∈ L, w.before args s = true := by
  intro w hw
  by_cases g : goodWord w = true
  · exact h1 w (List.mem_filter.mpr ⟨hw, g⟩)
  · refine h3 w (h2 w (List.mem_filter.mpr ⟨hw, ?_⟩))
    show (!goodWord w) = true
    cases hgw : goodWord w
    · rfl
    · exact absurd hgw g
theorem vx_c {args : Array Value} {s : State} {w : Cond} {B : List Cond} (h : w.before args s = true) (t : ∀ w ∈ B, w.before args s = true) : ∀ w' ∈ w :: B, w'.before args s = true := fun w' h' => (List.mem_cons.mp h').elim (fun e => by rw [e]; exact h) (t w')
theorem vx_n {args : Array Value} {s : State} : ∀ w ∈ ([] : List Cond), w.before args s = true := fun _ h => nomatch h
theorem vx_own {args : Array Value} {s : State} {L : List Cond} (h1 : ∀ w ∈ L.filter vx_no, w.before args s = true)
    (hU : (Cond.isRef (.static Bundle.tN "UNASSIGNED_STACK" Bundle.steD)).before args s = true) (hN : (Cond.isRef (.static Bundle.tN "SUPPRESSED_SENTINEL" Bundle.listD)).before args s = true)
    (lU : (Cond.laysStatic Bundle.tN "UNASSIGNED_STACK" Bundle.steD).before args s = true) (lN : (Cond.laysStatic Bundle.tN "SUPPRESSED_SENTINEL" Bundle.listD).before args s = true) : ∀ w ∈ L, w.before args s = true := by
  intro w hw
  by_cases e1 : w = .isRef (.static Bundle.tN "UNASSIGNED_STACK" Bundle.steD)
  · rw [e1]; exact hU
  · by_cases e2 : w = .isRef (.static Bundle.tN "SUPPRESSED_SENTINEL" Bundle.listD)
    · rw [e2]; exact hN
    · by_cases e3 : w = .laysStatic Bundle.tN "UNASSIGNED_STACK" Bundle.steD
      · rw [e3]; exact lU
      · by_cases e4 : w = .laysStatic Bundle.tN "SUPPRESSED_SENTINEL" Bundle.listD
        · rw [e4]; exact lN
        · exact h1 w (List.mem_filter.mpr ⟨hw, by unfold vx_no; rw [decide_eq_true e1, decide_eq_true e2, decide_eq_true e3, decide_eq_true e4]; rfl⟩)
def vx_L (C n d : String) (A : Nat → Prop) (U : State) (H : Heap) : Prop := ∃ (c : ClassId) (k : Class) (i : Nat) (f : Field) (a : Nat) (cell : Cell), U.vm.findClass C = some c ∧ U.fieldFound? C n d = some (c, k, i, f) ∧ f.isStatic = true ∧ k.statics = some a ∧ H[a]? = some cell ∧ cell.vm.isStatics = true ∧ cell.cls = c ∧ f.slot < cell.slots.size ∧ k.staticTypes[f.slot]? = some f.type ∧ ¬ A a
theorem vx_L.moved {C n d : String} {A : Nat → Prop} {u U : State} {H : Heap} (hvm : u.vm.Alike U.vm) (h : vx_L C n d A u H) : vx_L C n d A U H := by
  obtain ⟨c, k, i, f, a, cell, h1, h2, h3, h4, h5, h6, h7, h8, h9, h10⟩ := h
  obtain ⟨k', hi', he⟩ := State.fieldFound?_setVm hvm h2
  exact ⟨c, k', i, f, a, cell, by rw [hvm.findClass]; exact h1, hi', h3, by rw [he]; exact h4, h5, h6, h7, h8, by rw [he]; exact h9, h10⟩
theorem vx_L.kept {C n d : String} {A : Nat → Prop} {U : State} {H H1 : Heap} (h : vx_L C n d A U H) (hq : ∀ a : Nat, a < H.size → ¬ A a → H1[a]? = H[a]?) : vx_L C n d A U H1 := by
  obtain ⟨c, k, i, f, a, cell, h1, h2, h3, h4, h5, h6, h7, h8, h9, h10⟩ := h
  exact ⟨c, k, i, f, a, cell, h1, h2, h3, h4, by rw [hq a (Array.getElem?_eq_some_iff.mp h5).1 h10]; exact h5, h6, h7, h8, h9, h10⟩
theorem vx_L.narrow {C n d : String} {A B : Nat → Prop} {U : State} {H : Heap} (h : vx_L C n d A U H) (hAB : ∀ q, B q → A q) : vx_L C n d B U H := by
  obtain ⟨c, k, i, f, a, cell, h1, h2, h3, h4, h5, h6, h7, h8, h9, h10⟩ := h
  exact ⟨c, k, i, f, a, cell, h1, h2, h3, h4, h5, h6, h7, h8, h9, fun z => h10 (hAB _ z)⟩
theorem vx_L.word {C n d : String} {A : Nat → Prop} {s : State} {args : Array Value} (h : vx_L C n d A s s.heap) : (Cond.laysStatic C n d).before args s = true := by
  obtain ⟨c, k, i, f, a, cell, h1, h2, h3, h4, h5, h6, h7, h8, h9, -⟩ := h
  show (Cond.laysStatic C n d).holds args s none s [] = true
  exact Cond.laysStatic_of h1 h2 h3 h4 h5 h6 h7 h8 h9
def vx_Zq (C n d : String) (A : Nat → Prop) (U : State) (H : Heap) : Prop := va_Zq C n d A U H ∧ vx_L C n d A U H
theorem vx_Zq.moved {C n d : String} {A : Nat → Prop} {u U : State} {H : Heap} (hvm : u.vm.Alike U.vm) (h : vx_Zq C n d A u H) : vx_Zq C n d A U H := ⟨va_Zq.moved hvm h.1, vx_L.moved hvm h.2⟩
theorem vx_Zq.kept {C n d : String} {A : Nat → Prop} {U : State} {H H1 : Heap} (h : vx_Zq C n d A U H) (hq : ∀ a : Nat, a < H.size → ¬ A a → H1[a]? = H[a]?) : vx_Zq C n d A U H1 := ⟨va_Zq.kept h.1 hq, vx_L.kept h.2 hq⟩
theorem vx_Zq.narrow {C n d : String} {A B : Nat → Prop} {U : State} {H : Heap} (h : vx_Zq C n d A U H) (hAB : ∀ q, B q → A q) : vx_Zq C n d B U H := ⟨va_Zq.narrow h.1 hAB, vx_L.narrow h.2 hAB⟩
theorem vx_Zqof {args : Array Value} {s : State} {C n d : String} {A : Nat → Prop} (hl : (Cond.laysStatic C n d).before args s = true) (hini : (Cond.initialized C).before args s = true) (h : (Cond.isRef (.static C n d)).before args s = true) (hA : ∀ a : Nat, a < s.heap.size → ¬ A a) : vx_Zq C n d A s s.heap := by
  refine ⟨va_Zqof hl hini h hA, ?_⟩
  obtain ⟨c, k, i, f, a, cell, h1, h2, h3, h4, h5, h6, h7, h8, h9⟩ := Cond.laysStatic_spec hl
  exact ⟨c, k, i, f, a, cell, h1, h2, h3, h4, h5, h6, h7, h8, h9, hA a (Array.getElem?_eq_some_iff.mp h5).1⟩
theorem vx_isRef {C n d : String} {v : Value} {A : Nat → Prop} {s : State} {args : Array Value} (h : va_Z C n d v A s s.heap) (hv : v.isRef = true) : (Cond.isRef (.static C n d)).before args s = true := by
  obtain ⟨cf, kf, fi, f, a, cell, h1, h2, h3, h4, h5, h6, h7, -⟩ := h
  have he : (Term.static C n d).eval args s none [] s = some v := by
    simp [Term.eval, State.fieldNamed?, h1, h2, h4, h5, h6, h7]
  simp only [Cond.before, Cond.holds, Cond.value, he]
  cases v <;> simp_all [Value.isRef]
theorem vx_isRefq {C n d : String} {A : Nat → Prop} {s : State} {args : Array Value} (h : va_Zq C n d A s s.heap) : (Cond.isRef (.static C n d)).before args s = true := by
  rcases h with h | ⟨t, h⟩
  · exact vx_isRef h rfl
  · exact vx_isRef h rfl
theorem vx_rebase {T : State} (X : Stand p l e R s m args below meth c T locs cells slots) {R' : Room} (hf : R'.frames ≤ R.frames) (hl : R'.locals ≤ R.locals) (hc : cells + R'.cells ≤ R.cells) (hs : slots + R'.slots ≤ R.slots) :
    Stand p l e R' ((T.setVm s.vm).setFrames (.invoking m args :: below)) m args below meth c T [] 0 0 := by
  have htop : (T.setVm s.vm).topJava?.isSome := X.here.top
  have hF : ((T.setVm s.vm).setFrames (.invoking m args :: below)).frames = .invoking m args :: below := State.frames_setFrames _ (State.cur_lt_of_top htop)
  obtain ⟨g₀, hg0⟩ := Option.isSome_iff_exists.mp htop
  obtain ⟨r, hr⟩ := State.topJava?_eq_some.mp hg0
  have hl9 : e.platform.stackLimits (T.setVm s.vm).me = e.platform.stackLimits s.me := X.limits
  have hb9 : (T.setVm s.vm).me.stackBytes = s.me.stackBytes := X.bytes
  refine ⟨X.admits, X.cas, X.clock, hF, ?_, X.hears, X.method, X.code, X.here, X.tail, X.warmed, ?_, ?_, ?_⟩
  · have h := X.room
    have hU : ((T.setVm s.vm).setFrames (.invoking m args :: below)).localsInUse = s.localsInUse := by
      rw [State.localsInUse_invoking hF (meth := meth) (c := c) X.method X.code, State.localsInUse_invoking X.frames X.method X.code]
    simp only [State.hasRoom, Bool.and_eq_true, decide_eq_true_eq] at h ⊢
    obtain ⟨⟨⟨⟨h1, h2, h3, h4, h5, h6⟩, h7⟩, h8⟩, h9⟩ := h
    rw [X.frames, List.length_cons] at h2 h3
    have q1 := X.heapSize
    have q2 := X.used
    simp only [hF, hU, List.length_cons, State.stackLimits_setFrames, State.stackBytes_setFrames, hl9, hb9]
    refine ⟨⟨⟨⟨by omega, by omega, by omega, by omega, by omega, h6⟩, ?_⟩, ?_⟩, X.book⟩
    · show T.heap.size + R'.cells ≤ e.platform.maxCells
      omega
    · show T.slotsUsed + R'.slots ≤ e.platform.maxSlots
      omega
  · rw [State.stackLimits_setFrames]; rfl
  · rw [State.stackBytes_setFrames]; rfl
  · refine ⟨?_, Nat.le_refl _, Nat.le_refl _, ?_, ?_, fun a c9 h9 => ⟨c9, h9, rfl, rfl, fun _ _ => rfl⟩⟩
    · obtain ⟨t, ht, -⟩ := State.frames_cons hr
      show T.setVm s.vm = { ((T.setVm s.vm).setFrames (.invoking m args :: below)).setFrames (T.setVm s.vm).frames with heap := T.heap, slotsUsed := T.slotsUsed }
      rw [State.setFrames_setFrames, State.setFrames_self ht]
      rfl
    · show T.slotsUsed = T.slotsUsed + ((T.heap.toList.drop T.heap.size).map (·.slots.size)).sum
      rw [List.drop_eq_nil_of_le (Nat.le_of_eq Array.length_toList)]
      rfl
    · show ((T.heap.toList.drop T.heap.size).map (·.slots.size)).sum ≤ 0
      rw [List.drop_eq_nil_of_le (Nat.le_of_eq Array.length_toList)]
      exact Nat.le_refl _
theorem vx_throw0 {cc : ByteArray} {pc : Nat} (hexec : p.tables.exec = Jvm.exec) (hb : c.code = cc) (hl : l.stackTraces = false) {own cls : String} {names : List String} {ik ic mc ms : Nat} {A : Nat → Prop}
    (hown : s.vm.findClass own = some m.cls) (hcls : Bundle.fit cls = true) (hnames : ∀ n ∈ names, Bundle.fit n = true)
    (hk : (Cond.classLink own ik cls).before args s = true) (hini : (Cond.initialized cls).before args s = true) (hat : ∀ w ∈ vx_at0 own ic cls names, w.before args s = true)
    (hgood : ∀ w ∈ Cond.classLink own ik cls :: Cond.initialized cls :: vx_at0 own ic cls names, vx_ot w = true)
    (hU : vx_Zq Bundle.tN "UNASSIGNED_STACK" Bundle.steD A s s.heap) (hN : vx_Zq Bundle.tN "SUPPRESSED_SENTINEL" Bundle.listD A s s.heap) (hS : va_S A s.heap H locs) (hsize : ls.size = c.maxLocals)
    (d0 : decode cc pc = .ok (.new ik, 3)) (d3 : decode cc (pc + 3) = .ok (.dup, 1)) (d4 : decode cc (pc + 4) = .ok (.invokespecial ic, 3)) (d7 : decode cc (pc + 7) = .ok (.athrow, 1))
    (hout : ∀ x ∈ c.exceptionTable.toList, covers x (pc + 7) = false)
    (hRframes : names.length + 3 < R.frames) (hRlocals : (rest.map fun v => v.category).sum + (13 * (names.length + 1) + 42) ≤ R.locals) (hRcells : cells + 1 ≤ R.cells) (hRslots : slots + 6 ≤ R.slots) (hlocks : meth.locks = false)
    (hx : ∀ t : State, s.vm.Alike t.vm → H.size ≤ t.heap.size → (∀ q : Nat, q < H.size → t.heap[q]? = H[q]?) → XC cls s t)
    (hf : ∀ z ∈ locs, free z.base) (hc : cells + 1 ≤ mc) (hs : slots + 6 ≤ ms) :
    W p l e R s m args below meth c H locs cells slots (vx_MQ below Qc XC args s mc ms free) (F0 m pc ls rest) := by
  intro T hT X
  have htr : e.platform.stackTraces = false := (show e.platform.stackTraces = l.stackTraces by rw [X.admits.platform]).trans hl
  have Y := vx_rebase X (R' := { frames := R.frames, locals := R.locals, cells := 1, slots := 6 }) (Nat.le_refl _) (Nat.le_refl _) hRcells hRslots
  obtain ⟨s', hA⟩ : ∃ z, z = (T.setVm s.vm).setFrames (.invoking m args :: below) := ⟨_, rfl⟩
  rw [← hA] at Y
  have hvm : s'.vm = s.vm := by rw [hA]; rfl
  have hhp : s'.heap = H := by rw [hA]; exact hT
  have hW0 : s.WarmedH s'.vm := by rw [hvm]; exact State.WarmedH.refl s
  have hat' : ∀ w ∈ vx_at0 own ic cls names, w.before args s' = true := fun w hw => vx_ot_at hW0 hvm.symm (hgood w (List.mem_cons_of_mem _ (List.mem_cons_of_mem _ hw))) (hat w hw)
  have hk' : (Cond.classLink own ik cls).before args s' = true := vx_ot_at hW0 hvm.symm (hgood _ List.mem_cons_self) hk
  have hini' : (Cond.initialized cls).before args s' = true := vx_ot_at hW0 hvm.symm (hgood _ (List.mem_cons_of_mem _ List.mem_cons_self)) hini
  have hU' : vx_Zq Bundle.tN "UNASSIGNED_STACK" Bundle.steD A s' s'.heap := by rw [hhp]; exact vx_Zq.moved hW0.alike (hU.kept hS.2.1)
  have hN' : vx_Zq Bundle.tN "SUPPRESSED_SENTINEL" Bundle.listD A s' s'.heap := by rw [hhp]; exact vx_Zq.moved hW0.alike (hN.kept hS.2.1)
  have h : ∀ w ∈ Bundle.ownAtoms0 own ic cls names, w.before args s' = true := vx_own hat' (vx_isRefq hU'.1) (vx_isRefq hN'.1) hU'.2.word hN'.2.word
  have hown' : s'.vm.findClass own = some m.cls := by rw [hvm]; exact hown
  have hins : (Cond.instantiable cls 6).before args s' = true := h _ (by simp [Bundle.ownAtoms0])
  obtain ⟨vm₁, cX, kX, hfX, hkX, -, -, X₁, st1⟩ := Y.newCold hexec (own := own) (C := cls) (index := ik) (n := 6) hown' hk' hins hini'
    (g := F0 m pc ls rest) rfl (by rw [hb]; exact d0) (Nat.le_refl _) (Nat.le_refl _)
  generalize hT1 : (T.setVm vm₁).pushCell { cls := cX, slots := kX.instanceTypes.map defaultValue, vm := .none } = T1 at X₁ st1
  have hcat : (Value.ref T.heap.size).category = 1 := rfl
  have hcellA : T1.heap[T.heap.size]? = some (freshCell cX kX) := by rw [← hT1]; exact State.heap_pushCell_size _ _
  have d3' : decode c.code (pc + 3) = .ok (.dup, 1) := by rw [hb]; exact d3
  obtain ⟨U, hsteps, hrun, hend, hW, hsame, ce, hce, hO⟩ := X₁.ctorThrow0 hexec htr (own := own) (cls := cls) (names := names) (ic := ic) hown' hcls hnames h (fun x hx => nomatch hx) hfX hkX hcellA (by rw [hhp, hT]; exact Nat.le_refl _)
    (g := { method := m, pc := pc + 4, locals := ls, stack := .ref T.heap.size :: .ref T.heap.size :: rest, locked := none }) rfl hsize rfl rfl (rest := rest) rfl
    (by rw [hb]; exact d4) (by rw [hb]; exact d7) hout hRframes (by simp only [List.map_cons, List.sum_cons, hcat]; omega) hlocks
  obtain ⟨f1, f2⟩ := vx_frame hsame
  rw [hhp] at f1 f2
  have hWs : s.WarmedH U.vm := State.WarmedH.trans hW0 hW
  have hcl : s.vm.findClass cls = some ce.cls := by
    have h9 := hO.cls
    rw [hvm] at h9
    exact h9
  have hall : s.sameButNew ({ U with vm := s.vm } : State) locs mc ms := by
    subst hA
    obtain ⟨e1, e2⟩ := hsame
    rw [State.setFrames_setFrames] at e1
    have h2 : (T.setVm s.vm).sameButNew ({ U with vm := s.vm } : State) [] (0 + 1) (0 + 6) := ⟨e1, e2⟩
    have h3 := X.same.trans h2
    rw [List.append_nil] at h3
    exact h3.mono hc hs
  refine ⟨U, ?_, .threw T.heap.size, hrun, hend, Or.inr ⟨T.heap.size, rfl, cls, ce, locs, hx U hWs.alike f1 (fun q hq => f2 q hq (fun z hz => nomatch hz)), hce, hO.vm, hcl, hWs, hall, hf⟩⟩
  refine st1 _ ?_
  show Steps p.tables e below (T1.setTop { method := m, pc := pc + 3, locals := ls, stack := .ref T.heap.size :: rest, locked := none }) _
  jvm_step X₁.here [X₁.here.top, hexec, d3', Value.category]
  exact hsteps
theorem vx_throwS {cc : ByteArray} {pc : Nat} (hexec : p.tables.exec = Jvm.exec) (hb : c.code = cc) (hl : l.stackTraces = false) {own cls text : String} {names : List String} {ik is ic mc ms sa : Nat} {A : Nat → Prop}
    (hown : s.vm.findClass own = some m.cls) (hcls : Bundle.fit cls = true) (hnames : ∀ n ∈ names, Bundle.fit n = true)
    (hk : (Cond.classLink own ik cls).before args s = true) (hini : (Cond.initialized cls).before args s = true) (hstr : vk_R own is text sa s) (hat : ∀ w ∈ vx_atS own ic cls names, w.before args s = true)
    (hgood : ∀ w ∈ Cond.classLink own ik cls :: Cond.initialized cls :: vx_atS own ic cls names, vx_ot w = true)
    (hU : vx_Zq Bundle.tN "UNASSIGNED_STACK" Bundle.steD A s s.heap) (hN : vx_Zq Bundle.tN "SUPPRESSED_SENTINEL" Bundle.listD A s s.heap) (hS : va_S A s.heap H locs) (hsize : ls.size = c.maxLocals)
    (d0 : decode cc pc = .ok (.new ik, 3)) (d3 : decode cc (pc + 3) = .ok (.dup, 1)) (d4 : decode cc (pc + 4) = .ok (.ldc is, 2)) (d6 : decode cc (pc + 6) = .ok (.invokespecial ic, 3)) (d9 : decode cc (pc + 9) = .ok (.athrow, 1))
    (hout : ∀ x ∈ c.exceptionTable.toList, covers x (pc + 9) = false)
    (hRframes : names.length + 3 < R.frames) (hRlocals : (rest.map fun v => v.category).sum + (13 * (names.length + 1) + 43) ≤ R.locals) (hRcells : cells + 1 ≤ R.cells) (hRslots : slots + 6 ≤ R.slots) (hlocks : meth.locks = false)
    (hx : ∀ t : State, s.vm.Alike t.vm → H.size ≤ t.heap.size → (∀ q : Nat, q < H.size → t.heap[q]? = H[q]?) → XC cls s t)
    (hf : ∀ z ∈ locs, free z.base) (hc : cells + 1 ≤ mc) (hs : slots + 6 ≤ ms) :
    W p l e R s m args below meth c H locs cells slots (vx_MQ below Qc XC args s mc ms free) (F0 m pc ls rest) := by
  intro T hT X
  have htr : e.platform.stackTraces = false := (show e.platform.stackTraces = l.stackTraces by rw [X.admits.platform]).trans hl
  have Y := vx_rebase X (R' := { frames := R.frames, locals := R.locals, cells := 1, slots := 6 }) (Nat.le_refl _) (Nat.le_refl _) hRcells hRslots
  obtain ⟨s', hA⟩ : ∃ z, z = (T.setVm s.vm).setFrames (.invoking m args :: below) := ⟨_, rfl⟩
  rw [← hA] at Y
  have hvm : s'.vm = s.vm := by rw [hA]; rfl
  have hhp : s'.heap = H := by rw [hA]; exact hT
  have hW0 : s.WarmedH s'.vm := by rw [hvm]; exact State.WarmedH.refl s
  have hat' : ∀ w ∈ vx_atS own ic cls names, w.before args s' = true := fun w hw => vx_ot_at hW0 hvm.symm (hgood w (List.mem_cons_of_mem _ (List.mem_cons_of_mem _ hw))) (hat w hw)
  have hk' : (Cond.classLink own ik cls).before args s' = true := vx_ot_at hW0 hvm.symm (hgood _ List.mem_cons_self) hk
  have hini' : (Cond.initialized cls).before args s' = true := vx_ot_at hW0 hvm.symm (hgood _ (List.mem_cons_of_mem _ List.mem_cons_self)) hini
  have hU' : vx_Zq Bundle.tN "UNASSIGNED_STACK" Bundle.steD A s' s'.heap := by rw [hhp]; exact vx_Zq.moved hW0.alike (hU.kept hS.2.1)
  have hN' : vx_Zq Bundle.tN "SUPPRESSED_SENTINEL" Bundle.listD A s' s'.heap := by rw [hhp]; exact vx_Zq.moved hW0.alike (hN.kept hS.2.1)
  have h : ∀ w ∈ Bundle.ownAtoms own ic cls names, w.before args s' = true := vx_own hat' (vx_isRefq hU'.1) (vx_isRefq hN'.1) hU'.2.word hN'.2.word
  have hown' : s'.vm.findClass own = some m.cls := by rw [hvm]; exact hown
  have hins : (Cond.instantiable cls 6).before args s' = true := h _ (by simp [Bundle.ownAtoms])
  obtain ⟨vm₁, cX, kX, hfX, hkX, -, -, X₁, st1⟩ := Y.newCold hexec (own := own) (C := cls) (index := ik) (n := 6) hown' hk' hins hini'
    (g := F0 m pc ls rest) rfl (by rw [hb]; exact d0) (Nat.le_refl _) (Nat.le_refl _)
  generalize hT1 : (T.setVm vm₁).pushCell { cls := cX, slots := kX.instanceTypes.map defaultValue, vm := .none } = T1 at X₁ st1
  have hcat : (Value.ref T.heap.size).category = 1 := rfl
  have hcellA : T1.heap[T.heap.size]? = some (freshCell cX kX) := by rw [← hT1]; exact State.heap_pushCell_size _ _
  have d3' : decode c.code (pc + 3) = .ok (.dup, 1) := by rw [hb]; exact d3
  have d4' : decode c.code (pc + 4) = .ok (.ldc is, 2) := by rw [hb]; exact d4
  have hstr' : vk_R own is text sa s' := vk_R.warm hW0 hstr
  obtain ⟨U, hsteps, hrun, hend, hW, hsame, ce, hce, hO⟩ := X₁.ctorThrowS hexec htr (own := own) (cls := cls) (names := names) (ic := ic) hown' hcls hnames h (fun x hx => nomatch hx) hfX hkX hcellA (by rw [hhp, hT]; exact Nat.le_refl _) (msg := .ref sa) rfl
    (g := { method := m, pc := pc + 6, locals := ls, stack := .ref sa :: .ref T.heap.size :: .ref T.heap.size :: rest, locked := none }) rfl hsize rfl rfl (rest := rest) rfl
    (by rw [hb]; exact d6) (by rw [hb]; exact d9) hout hRframes (by simp only [List.map_cons, List.sum_cons, hcat]; omega) hlocks
  obtain ⟨f1, f2⟩ := vx_frame hsame
  rw [hhp] at f1 f2
  have hWs : s.WarmedH U.vm := State.WarmedH.trans hW0 hW
  have hcl : s.vm.findClass cls = some ce.cls := by
    have h9 := hO.cls
    rw [hvm] at h9
    exact h9
  have hall : s.sameButNew ({ U with vm := s.vm } : State) locs mc ms := by
    subst hA
    obtain ⟨e1, e2⟩ := hsame
    rw [State.setFrames_setFrames] at e1
    have h2 : (T.setVm s.vm).sameButNew ({ U with vm := s.vm } : State) [] (0 + 1) (0 + 6) := ⟨e1, e2⟩
    have h3 := X.same.trans h2
    rw [List.append_nil] at h3
    exact h3.mono hc hs
  refine ⟨U, ?_, .threw T.heap.size, hrun, hend, Or.inr ⟨T.heap.size, rfl, cls, ce, locs, hx U hWs.alike f1 (fun q hq => f2 q hq (fun z hz => nomatch hz)), hce, hO.vm, hcl, hWs, hall, hf⟩⟩
  refine st1 _ ?_
  show Steps p.tables e below (T1.setTop { method := m, pc := pc + 3, locals := ls, stack := .ref T.heap.size :: rest, locked := none }) _
  jvm_step X₁.here [X₁.here.top, hexec, d3', Value.category]
  exact X₁.ldcString hexec (own := own) (text := text) (index := is) (a := sa) hown' hstr'.1 hstr'.2
    (g := { method := m, pc := pc + 4, locals := ls, stack := .ref T.heap.size :: .ref T.heap.size :: rest, locked := none }) rfl d4' _ hsteps
theorem vx_throwSW {cc : ByteArray} {pc : Nat} (hexec : p.tables.exec = Jvm.exec) (hb : c.code = cc) (hl : l.stackTraces = false) {own cls text : String} {names : List String} {ik is ic mc ms sa : Nat} {A : Nat → Prop}
    (hown : s.vm.findClass own = some m.cls) (hcls : Bundle.fit cls = true) (hnames : ∀ n ∈ names, Bundle.fit n = true)
    (hk : (Cond.classLink own ik cls).before args s = true) (hini : (Cond.initialized cls).before args s = true) (hstr : vk_R own is text sa s) (hat : ∀ w ∈ vx_atS own ic cls names, w.before args s = true)
    (hgood : ∀ w ∈ Cond.classLink own ik cls :: Cond.initialized cls :: vx_atS own ic cls names, vx_ot w = true)
    (hU : vx_Zq Bundle.tN "UNASSIGNED_STACK" Bundle.steD A s s.heap) (hN : vx_Zq Bundle.tN "SUPPRESSED_SENTINEL" Bundle.listD A s s.heap) (hS : va_S A s.heap H locs) (hsize : ls.size = c.maxLocals)
    (d0 : decode cc pc = .ok (.new ik, 3)) (d3 : decode cc (pc + 3) = .ok (.dup, 1)) (d4 : decode cc (pc + 4) = .ok (.ldc_w is, 3)) (d7 : decode cc (pc + 7) = .ok (.invokespecial ic, 3)) (d10 : decode cc (pc + 10) = .ok (.athrow, 1))
    (hout : ∀ x ∈ c.exceptionTable.toList, covers x (pc + 10) = false)
    (hRframes : names.length + 3 < R.frames) (hRlocals : (rest.map fun v => v.category).sum + (13 * (names.length + 1) + 43) ≤ R.locals) (hRcells : cells + 1 ≤ R.cells) (hRslots : slots + 6 ≤ R.slots) (hlocks : meth.locks = false)
    (hx : ∀ t : State, s.vm.Alike t.vm → H.size ≤ t.heap.size → (∀ q : Nat, q < H.size → t.heap[q]? = H[q]?) → XC cls s t)
    (hf : ∀ z ∈ locs, free z.base) (hc : cells + 1 ≤ mc) (hs : slots + 6 ≤ ms) :
    W p l e R s m args below meth c H locs cells slots (vx_MQ below Qc XC args s mc ms free) (F0 m pc ls rest) := by
  intro T hT X
  have htr : e.platform.stackTraces = false := (show e.platform.stackTraces = l.stackTraces by rw [X.admits.platform]).trans hl
  have Y := vx_rebase X (R' := { frames := R.frames, locals := R.locals, cells := 1, slots := 6 }) (Nat.le_refl _) (Nat.le_refl _) hRcells hRslots
  obtain ⟨s', hA⟩ : ∃ z, z = (T.setVm s.vm).setFrames (.invoking m args :: below) := ⟨_, rfl⟩
  rw [← hA] at Y
  have hvm : s'.vm = s.vm := by rw [hA]; rfl
  have hhp : s'.heap = H := by rw [hA]; exact hT
  have hW0 : s.WarmedH s'.vm := by rw [hvm]; exact State.WarmedH.refl s
  have hat' : ∀ w ∈ vx_atS own ic cls names, w.before args s' = true := fun w hw => vx_ot_at hW0 hvm.symm (hgood w (List.mem_cons_of_mem _ (List.mem_cons_of_mem _ hw))) (hat w hw)
  have hk' : (Cond.classLink own ik cls).before args s' = true := vx_ot_at hW0 hvm.symm (hgood _ List.mem_cons_self) hk
  have hini' : (Cond.initialized cls).before args s' = true := vx_ot_at hW0 hvm.symm (hgood _ (List.mem_cons_of_mem _ List.mem_cons_self)) hini
  have hU' : vx_Zq Bundle.tN "UNASSIGNED_STACK" Bundle.steD A s' s'.heap := by rw [hhp]; exact vx_Zq.moved hW0.alike (hU.kept hS.2.1)
  have hN' : vx_Zq Bundle.tN "SUPPRESSED_SENTINEL" Bundle.listD A s' s'.heap := by rw [hhp]; exact vx_Zq.moved hW0.alike (hN.kept hS.2.1)
  have h : ∀ w ∈ Bundle.ownAtoms own ic cls names, w.before args s' = true := vx_own hat' (vx_isRefq hU'.1) (vx_isRefq hN'.1) hU'.2.word hN'.2.word
  have hown' : s'.vm.findClass own = some m.cls := by rw [hvm]; exact hown
  have hins : (Cond.instantiable cls 6).before args s' = true := h _ (by simp [Bundle.ownAtoms])
  obtain ⟨vm₁, cX, kX, hfX, hkX, -, -, X₁, st1⟩ := Y.newCold hexec (own := own) (C := cls) (index := ik) (n := 6) hown' hk' hins hini'
    (g := F0 m pc ls rest) rfl (by rw [hb]; exact d0) (Nat.le_refl _) (Nat.le_refl _)
  generalize hT1 : (T.setVm vm₁).pushCell { cls := cX, slots := kX.instanceTypes.map defaultValue, vm := .none } = T1 at X₁ st1
  have hcat : (Value.ref T.heap.size).category = 1 := rfl
  have hcellA : T1.heap[T.heap.size]? = some (freshCell cX kX) := by rw [← hT1]; exact State.heap_pushCell_size _ _
  have d3' : decode c.code (pc + 3) = .ok (.dup, 1) := by rw [hb]; exact d3
  have d4' : decode c.code (pc + 4) = .ok (.ldc_w is, 3) := by rw [hb]; exact d4
  have hstr' : vk_R own is text sa s' := vk_R.warm hW0 hstr
  obtain ⟨U, hsteps, hrun, hend, hW, hsame, ce, hce, hO⟩ := X₁.ctorThrowS hexec htr (own := own) (cls := cls) (names := names) (ic := ic) hown' hcls hnames h (fun x hx => nomatch hx) hfX hkX hcellA (by rw [hhp, hT]; exact Nat.le_refl _) (msg := .ref sa) rfl
    (g := { method := m, pc := pc + 7, locals := ls, stack := .ref sa :: .ref T.heap.size :: .ref T.heap.size :: rest, locked := none }) rfl hsize rfl rfl (rest := rest) rfl
    (by rw [hb]; exact d7) (by rw [hb]; exact d10) hout hRframes (by simp only [List.map_cons, List.sum_cons, hcat]; omega) hlocks
  obtain ⟨f1, f2⟩ := vx_frame hsame
  rw [hhp] at f1 f2
  have hWs : s.WarmedH U.vm := State.WarmedH.trans hW0 hW
  have hcl : s.vm.findClass cls = some ce.cls := by
    have h9 := hO.cls
    rw [hvm] at h9
    exact h9
  have hall : s.sameButNew ({ U with vm := s.vm } : State) locs mc ms := by
    subst hA
    obtain ⟨e1, e2⟩ := hsame
    rw [State.setFrames_setFrames] at e1
    have h2 : (T.setVm s.vm).sameButNew ({ U with vm := s.vm } : State) [] (0 + 1) (0 + 6) := ⟨e1, e2⟩
    have h3 := X.same.trans h2
    rw [List.append_nil] at h3
    exact h3.mono hc hs
  refine ⟨U, ?_, .threw T.heap.size, hrun, hend, Or.inr ⟨T.heap.size, rfl, cls, ce, locs, hx U hWs.alike f1 (fun q hq => f2 q hq (fun z hz => nomatch hz)), hce, hO.vm, hcl, hWs, hall, hf⟩⟩
  refine st1 _ ?_
  show Steps p.tables e below (T1.setTop { method := m, pc := pc + 3, locals := ls, stack := .ref T.heap.size :: rest, locked := none }) _
  jvm_step X₁.here [X₁.here.top, hexec, d3', Value.category]
  exact X₁.ldcStringW hexec (own := own) (text := text) (index := is) (a := sa) hown' hstr'.1 hstr'.2
    (g := { method := m, pc := pc + 4, locals := ls, stack := .ref T.heap.size :: .ref T.heap.size :: rest, locked := none }) rfl d4' _ hsteps
end Ends
section Bodies
variable {l : Launch}
theorem vx_ofW {y : MethodName} {ws ws' : List Cond} {rm : Room} {Pc : Array Value → State → Prop} {Qc : Array Value → State → Outcome → State → Prop} {XC : String → State → State → Prop} {mc ms : Nat} {free : Addr → Prop} {cc : ByteArray} {maxL : Nat} {ret : Option FieldType}
    (hy : plainName y.cls = true) (hw : ws = Cond.code y cc maxL ret :: ws')
    (body : ∀ p e s m args below meth c s₁, BodyLoose p l y (headSpec ws rm) cc maxL ret e s m args below meth c s₁ → c.maxLocals = maxL → (∀ x ∈ c.exceptionTable.toList, False) → Pc args s →
      W p l e (headSpec ws rm).room s m args below meth c s.heap [] 0 0 (vx_MQ below Qc XC args s mc ms free) (entryFrame m args maxL)) : vx_Met l y ws rm Pc Qc XC mc ms free := by
  refine MetFree.of_bodyS (code := cc) (maxLocals := maxL) (ret := ret) hy ?_ ?_
  · intro args s m h hn
    obtain ⟨meth, c, h1, h2, h3, h4, h5, h6, -, -⟩ := Cond.code_spec hn (atoms_spec (ws := ws) h _ (by rw [hw]; exact List.mem_cons_self))
    exact ⟨meth, c, h1, h2, h3, h4, h5, h6⟩
  · intro p e s m args below meth c s₁ B hml hP _
    have hh0 : s₁.heap = s.heap := by rw [B.state]; rfl
    have ht : ∀ x ∈ c.exceptionTable.toList, False := by
      obtain ⟨meth9, c9, h1, h2, -, -, -, -, h7, -⟩ := Cond.code_spec B.named (atoms_spec (ws := ws) B.pre _ (by rw [hw]; exact List.mem_cons_self))
      cases Option.some.inj (h1.symm.trans B.method)
      cases Option.some.inj (h2.symm.trans (Stand.of_body B).code)
      intro x hx
      rw [Array.isEmpty_iff.mp h7] at hx
      cases hx
    obtain ⟨t, a1, o, b1, b2, b3⟩ := body p e s m args below meth c s₁ B hml ht hP s₁ hh0 (Stand.of_body B)
    exact ⟨t, o, a1, b1, b2, b3⟩
theorem vx_table {p : Program} {x y : MethodName} {S : Spec} {cc bytes : ByteArray} {maxL maxL' : Nat} {ret ret' : Option FieldType} {e : Env} {s s₁ : State} {m : MethodId} {args : Array Value} {below : List Frame} {meth : Method} {c : Code} {hh : List (Nat × Nat × Nat × Nat)}
    (B : BodyLoose p l y S cc maxL ret e s m args below meth c s₁) (h : (Cond.codeWith y bytes maxL' ret' hh).before args s = true) : c.exceptionTable.toList = tableOf hh := by
  obtain ⟨m9, meth9, c9, hn9, h1, h2, -, -, h6, -⟩ := Cond.codeWith_spec h
  cases Option.some.inj (hn9.symm.trans B.named)
  cases Option.some.inj (h1.symm.trans B.method)
  cases Option.some.inj (h2.symm.trans (Stand.of_body B).code)
  rw [← h6, table_eq]
end Bodies
end VXA
section VXS
variable {p : Program} {l : Launch} {e : Env} {R : Room} {s : State} {m : MethodId} {args : Array Value} {below : List Frame} {meth : Method} {c : Code} {T : State} {H : Heap} {locs : List Loc} {cells slots : Nat}
abbrev vx_CSW (R : Room) (s : State) (args : Array Value) (own : String) (index : Nat) (y : MethodName) (bytes : ByteArray) (maxL : Nat) (ret : Option FieldType) (hh : List (Nat × Nat × Nat × Nat)) (ws : List Cond) (rm : Room) (mc ms n : Nat) : Prop :=
  (rm.cells = mc ∧ rm.slots = ms ∧ rm.frames + 1 ≤ R.frames ∧ 8 + (maxL + 11) + rm.locals ≤ R.locals ∧ (∀ w ∈ ws, ∀ (a' : Array Value) (U : State), s.WarmedH U.vm → w.before a' U = true) ∧ Cond.codeWith y bytes maxL ret hh ∈ ws) ∧
  (Cond.codeWith y bytes maxL ret hh).before args s = true ∧ (Cond.initialized y.cls).before args s = true ∧ (y.cls ≠ "java/lang/invoke/MethodHandle" ∧ y.cls ≠ "java/lang/invoke/VarHandle") ∧
  (∀ sig, parseMethodDescriptor y.desc = some sig → n = sig.parameters.length) ∧ (Cond.methodLink own index y).before args s = true ∧ (Cond.static y).before args s = true
theorem vx_cwSW {own : String} {index maxL mc ms : Nat} {y : MethodName} {bytes : ByteArray} {ret : Option FieldType} {hh : List (Nat × Nat × Nat × Nat)} {Ts ws ws' : List Cond} {rm : Room} (n : Nat) (ht : ∀ w ∈ Ts, w.before args s = true) (hT : GoodIn Ts (va_wsS own index y ws)) (hw : ws = Cond.codeWith y bytes maxL ret hh :: ws') (hrc : rm.cells = mc) (hrs : rm.slots = ms)
    (hd : y.cls ≠ "java/lang/invoke/MethodHandle" ∧ y.cls ≠ "java/lang/invoke/VarHandle" ∧ (parseMethodDescriptor y.desc).map (fun d => d.parameters.length) = some n) (hR : rm.frames + 1 ≤ R.frames ∧ 8 + (maxL + 11) + rm.locals ≤ R.locals) :
    vx_CSW R s args own index y bytes maxL ret hh ws rm mc ms n := by
  have ok : ∀ w ∈ va_wsS own index y ws, w.before args s = true := fun w h => ht w (hT w h).1
  have hG : GoodIn Ts ws := fun w h => hT w (by unfold va_wsS; exact List.mem_append_right _ h)
  have hc : Cond.codeWith y bytes maxL ret hh ∈ ws := by rw [hw]; exact List.mem_cons_self
  refine ⟨⟨hrc, hrs, hR.1, hR.2, pay_in ht hG, hc⟩, ht _ (hG _ hc).1, ok _ (by simp [va_wsS]), ⟨hd.1, hd.2.1⟩, fun sig h => ?_, ok _ (by simp [va_wsS]), ok _ (by simp [va_wsS])⟩
  have h2 := hd.2.2
  rw [h] at h2
  exact (Option.some.inj h2).symm
theorem vx_callSW (X : Stand p l e R s m args below meth c T locs cells slots) (hexec : p.tables.exec = Jvm.exec) {own : String} {index : Nat} {y : MethodName} {bytes : ByteArray} {maxL : Nat} {ret : Option FieldType} {hh : List (Nat × Nat × Nat × Nat)}
    (hown : s.vm.findClass own = some m.cls) (hlink : (Cond.methodLink own index y).before args s = true) (hstat : (Cond.static y).before args s = true) (hinit : (Cond.initialized y.cls).before args s = true)
    (hcode : (Cond.codeWith y bytes maxL ret hh).before args s = true) (hy : y.cls ≠ "java/lang/invoke/MethodHandle" ∧ y.cls ≠ "java/lang/invoke/VarHandle")
    {W9 : Nat} {Pre : Pt → Array Value → Prop} {Post : Pt → Array Value → Option Value → Pt → Prop} (hK : Back l R p e below s args y 3 W9 Pre Post)
    {g : JFrame} (hg : g.method = m) (hsize : g.locals.size = c.maxLocals) {argsL rest : List Value} (hlen : ∀ sig, parseMethodDescriptor y.desc = some sig → argsL.length = sig.parameters.length)
    (hstack : g.stack = argsL.reverse ++ rest) (hW : 2 * g.monitorRoom + (rest.map fun v => v.category).sum ≤ W9) (hdg : decode c.code g.pc = .ok (.invokestatic index, 3))
    (hpre : ∀ vm₁, s.WarmedH vm₁ → Pre ⟨T.setVm vm₁, locs, cells, slots⟩ argsL.toArray) :
    ∃ (v : Option Value) (vm₁ : Vm) (B : Pt), s.WarmedH vm₁ ∧ Stand p l e R s m args below meth c B.U B.locs B.cells B.slots ∧ Post ⟨T.setVm vm₁, locs, cells, slots⟩ argsL.toArray v B ∧
      ∀ target, Steps p.tables e below (B.U.setTop { g with pc := g.pc + 3, stack := v.toList ++ rest }) target → Steps p.tables e below (T.setTop g) target := by
  obtain ⟨mk, methM, cM, hnamed, hmethM, -, -, -, -, -, -, hsigM⟩ := Cond.codeWith_spec hcode
  have hstatic : methM.isStatic = true := Cond.static_spec hnamed hmethM hstat
  obtain ⟨kP, hkP, -⟩ := className_of_methodNamed hnamed
  have hinitP : kP.init = .initialized := Cond.initialized_spec (findClass_of_methodNamed hnamed) hkP hinit
  obtain ⟨vm₁, X₁, hstep₁⟩ := X.invokestatic hexec hown hlink hnamed hmethM hstatic hkP hinitP hy (g := g) hg (argsL := argsL) (rest := rest) (hlen _ hsigM) hstack hdg
  obtain ⟨v, B, X', hpost, hsteps⟩ := hK m meth c ⟨T.setVm vm₁, locs, cells, slots⟩ { g with stack := rest } (.invokestatic index) mk argsL.toArray X₁ hg hsize hdg hW (X₁.named hnamed) (hpre vm₁ X₁.warmed)
  exact ⟨v, vm₁, B, X₁.warmed, X', hpost, fun target h => hstep₁ _ fun acts => by rw [doInvoke_state]; exact hsteps.trans h⟩
theorem vx_runSW {y : MethodName} {bytes cc : ByteArray} {maxL nL mc ms n index : Nat} {ret : Option FieldType} {hh : List (Nat × Nat × Nat × Nat)} {ws : List Cond} {rm : Room} {Pc : Array Value → State → Prop} {Qc : Array Value → State → Outcome → State → Prop} {free : Addr → Prop} {Ts : List Cond} {own : String} {As rest : List Value} {g : JFrame}
    (S : CallFix p m c cc nL s args Ts own) (hM : Met l y ws rm Pc Qc mc ms free) (cw : vx_CSW R s args own index y bytes maxL ret hh ws rm mc ms n) (hp : PreS s H Pc As)
    (hg : g.method = m) (hn : As.length = n) (hsize : g.locals.size = nL) (hstack : g.stack = As.reverse ++ rest) (hW : 2 * g.monitorRoom + (rest.map fun v => v.category).sum ≤ 8) (hdg : decode cc g.pc = .ok (.invokestatic index, 3)) (hf : cells + mc ≤ R.cells ∧ slots + ms ≤ R.slots) :
    va_Run p l e R s m args below meth c H locs cells slots mc ms g rest (Qc As.toArray) (free) := by
  obtain ⟨⟨hrc, hrs, hfr, hlo, hws, hcw⟩, hcode, hini, hy, hlen, hl, hstt⟩ := cw
  have hK : Back l R p e below s args y 3 8 (PreOf R mc ms Pc) (PostOf Qc mc ms free) := va_backW (hh := hh) (bytes := bytes) (maxL := maxL) (ret := ret) hM hp.1 hrc hrs hfr hlo hws hcw (fun a' U hW => word_at hW (Or.inl (by first | rfl | simp [Cond.onTables, Cond.keeps, Cond.steady])) hini)
  obtain ⟨hx, hb, hml, ho, -⟩ := S
  intro T hT X
  obtain ⟨v, vm₁, ⟨U', l2, c2, s2⟩, hW₁, X', ⟨g', mk, t, L, e1, e2, hq, h1, hL, h2, h3⟩, st⟩ := vx_callSW X hx (hh := hh) (bytes := bytes) (maxL := maxL) (ret := ret) ho hl hstt hini hcode hy hK hg (hsize.trans hml.symm) (argsL := As) (rest := rest) (fun sig h => hn.trans (hlen sig h)) hstack hW (by rw [hb]; exact hdg)
    (fun vm₁ hW₁ => ⟨hf.1, hf.2, hp.2 (T.setVm vm₁) hT hW₁⟩)
  dsimp only [Pt.U, Pt.locs, Pt.cells, Pt.slots] at X' e1 e2 h1 h2 h3 st
  subst h1; subst h2; subst h3
  exact ⟨v, (T.setVm vm₁).calling g' mk As.toArray, t, U', L, hT, X', hL, e1, e2, hq, st⟩
theorem vx_outP {p : Program} {l : Launch} {e : Env} {R : Room} {s : State} {m : MethodId} {args : Array Value} {below : List Frame} {meth : Method} {c : Code} {H : Heap} {locs : List Loc} {cells slots : Nat} {free : Addr → Prop} {ls : Array Slot} {rest : List Value} {Qc : Array Value → State → Outcome → State → Prop} {XC : String → State → State → Prop}
    {pc : Nat} {own E : String} {ce : Cell} {q : Addr} {mc ms : Nat} (hown : s.vm.findClass own = some m.cls) (hlocks : meth.locks = false)
    (hpass : ∀ z ∈ c.exceptionTable.toList, covers z pc = false ∨ (z.catchType ≠ 0 ∧ ∃ nm : String, (Cond.classLink own z.catchType nm).before args s = true ∧ va_Nc E nm s)) (hcell : H[q]? = some ce) (hv : ce.vm = .none) (hcl : s.vm.findClass E = some ce.cls)
    (hx : ∀ t : State, t.heap = H → s.vm.Alike t.vm → XC E s t) (hf : ∀ z ∈ locs, free z.base) (hc : cells ≤ mc) (hs : slots ≤ ms) :
    vx_W p l e R s m args below meth c H locs cells slots (vx_MQ below Qc XC args s mc ms free) (F0 m pc ls rest) q := by
  intro T hT X
  have hpl : e.platform.magicAccessors = ({} : Platform).magicAccessors := by rw [X.admits.platform]
  obtain ⟨vm', hW', X', st⟩ := X.outThrough hlocks q (g := F0 m pc ls rest) rfl rfl rfl (cell := ce) (by rw [hT]; exact hcell) (by rw [hv]; rfl)
    (by obtain ⟨k9, h9, -⟩ := Vm.findClass_spec hcl; exact ⟨k9, h9⟩) (fun z hz => by
      rcases hpass z hz with h | ⟨hz0, nm, hl1, hn1⟩
      · exact Or.inl h
      · obtain ⟨c6, hc6, hcl6⟩ := Cond.classLink_spec hown hl1 e.platform hpl
        obtain ⟨a8, b8, h1, h2, h3⟩ := hn1
        cases Option.some.inj (h1.symm.trans hcl)
        cases Option.some.inj (h2.symm.trans hc6)
        exact Or.inr ⟨hz0, _, hcl6, h3⟩)
  obtain ⟨g₀, hfr⟩ := X'.frames_eq
  have hcell9 : ((T.setVm vm').setFrames (.throwing q :: below)).heap[q]? = some ce := by
    show T.heap[q]? = some ce
    rw [hT]; exact hcell
  have hend : Ended ((T.setVm vm').setFrames (.throwing q :: below)) below (.threw q) := State.frames_setFrames _ (State.cur_lt_of_frames hfr)
  refine ⟨(T.setVm vm').setFrames (.throwing q :: below), ?_, .threw q, X'.here.running, hend, Or.inr ⟨q, rfl, E, ce, locs, hx _ hT (X'.ends _).1.alike, hcell9, hv, hcl, (X'.ends _).1, (X'.ends _).2.mono hc hs, hf⟩⟩
  rw [X.pushThrowing_eq]
  exact st
theorem vx_lt {D : va_G} {cl : List vw_C} {ws : va_W} {H1 : Heap} (h : va_P D cl ws H1) {k : Nat} {q : Nat × va_E} (hk : ws[k]? = some q) : q.1 < H1.size := (h k q hk).lt
end VXS
section VXH
section
variable {l : Launch} {R : Room} {p : Program} {e : Env} {below : List Frame} {s : State} {sargs : Array Value} {y : MethodName} {len W9 : Nat}
theorem vx_backW {ws : List Cond} {rm : Room} {Pc : Array Value → State → Prop} {Qc : Array Value → State → Outcome → State → Prop} {XC : String → State → State → Prop} {mc ms : Nat} {free : Addr → Prop} {bytes : ByteArray} {maxL : Nat} {ret : Option FieldType} {hh : List (Nat × Nat × Nat × Nat)}
    (hM : vx_Met l y ws rm Pc Qc XC mc ms free) (hblind : FrameBlind Pc) (hrc : rm.cells = mc) (hrs : rm.slots = ms)
    (hframes : rm.frames + 1 ≤ R.frames) (hlocals : W9 + (maxL + 11) + rm.locals ≤ R.locals)
    (hws : ∀ w ∈ ws, ∀ a' U, s.WarmedH U.vm → w.before a' U = true) (hcode : Cond.codeWith y bytes maxL ret hh ∈ ws) (hinit : ∀ a' U, s.WarmedH U.vm → (Cond.initialized y.cls).before a' U = true) :
    vx_Back l R p e below s sargs y len W9 (PreOf R mc ms Pc) (PostOf Qc mc ms free) (vx_Post XC mc ms free) := by
  intro m meth c A g ig mk a X hg hsize hdg hW hn hp
  have h1 : (headSpec ws rm).pre.before a A.U = true := atoms_intro fun w hw => hws w hw _ _ X.warmed
  have h2 : (Cond.codeWith y bytes maxL ret hh).before a A.U = true := hws _ hcode _ _ X.warmed
  have h3 : (Cond.initialized y.cls).before a A.U = true := hinit _ _ X.warmed
  have h4 : A.cells + (headSpec ws rm).room.cells ≤ R.cells := by rw [show (headSpec ws rm).room.cells = mc from hrc]; exact hp.1
  have h5 : A.slots + (headSpec ws rm).room.slots ≤ R.slots := by rw [show (headSpec ws rm).room.slots = ms from hrs]; exact hp.2.1
  have hPc : Pc a (A.U.calling g mk a) := hblind _ _ _ _ hp.2.2
  obtain ⟨U, Ls, c0, s0⟩ := A
  dsimp only [Pt.U, Pt.locs, Pt.cells, Pt.slots] at h1 h2 h3 h4 h5 X hn hPc ⊢
  obtain ⟨m9, methY, cY, hn9, hmY, hcY, -, hlY, -⟩ := Cond.codeWith_spec h2
  cases Option.some.inj (hn9.symm.trans hn)
  obtain ⟨kY, hkY, -⟩ := className_of_methodNamed hn
  have hinitY : kY.init = .initialized := Cond.initialized_spec (findClass_of_methodNamed hn) hkY h3
  have h : At U g.method c below := by rw [hg]; exact X.here
  have hlocals9 : W9 + (maxL + 11) + (headSpec ws rm).room.locals ≤ R.locals := hlocals
  have happ : (headSpec ws rm).appliesLoose y e.platform (U.calling g mk a) = true :=
    Spec.appliesLoose_calling (g := g) h hdg hn hkY hinitY
      (X.room_calling (g := g) (R' := (headSpec ws rm).room) hsize hmY hcY hframes (by rw [hlY]; omega) h4 h5) h1
  obtain ⟨mid, hmid⟩ := h.above
  have hfr : (U.setTop g).frames = (.java g :: mid) ++ below := by rw [State.frames_setTop' g h.top, hmid]; rfl
  obtain ⟨o, s₂, hsteps, -, hend, hq⟩ := Steps.callFree hM p X.admits X.cas X.clock (acts := []) hfr happ hPc trivial
  have hq' : vx_Q Qc XC mc ms free a (U.calling g mk a) o s₂ := hq
  rw [State.frames_setTop' g h.top] at hend
  obtain ⟨g₀, hg0⟩ := Option.isSome_iff_exists.mp h.top
  obtain ⟨r, hr⟩ := State.topJava?_eq_some.mp hg0
  have hr' : (({ U with heap := s₂.heap, slotsUsed := s₂.slotsUsed } : State).setVm s₂.vm).frames = .java g₀ :: r := hr
  rcases hq' with ⟨hqc, L, hfe, hL⟩ | ⟨q, rfl, E, ce, L, hx, hce, hcv, hcl, hW₂, hsm, hL⟩
  · obtain ⟨⟨v, rfl⟩, hW₂, e2, q2, q3, q4, q5, q6⟩ := id hfe
    have e3 : s₂ = ({ (U.calling g mk a).setFrames s₂.frames with heap := s₂.heap, slotsUsed := s₂.slotsUsed } : State).setVm s₂.vm := by
      have : s₂ = ({ s₂ with vm := (U.calling g mk a).vm } : State).setVm s₂.vm := rfl
      rw [e2] at this
      exact this
    obtain ⟨c₂, i₂, len₂, hc₂, hd₂, hf₂⟩ := hend
    have hW' : U.WarmedH s₂.vm := hW₂
    have hcc : c₂ = c := by
      have h1 : s₂.code? g.method = U.code? g.method := by
        rw [State.code?_eq, State.code?_eq, hW'.alike.method?]
      exact Option.some.inj (hc₂.symm.trans (h1.trans h.code))
    subst hcc
    have hlen : len₂ = len := by rw [hdg] at hd₂; cases hd₂; rfl
    subst hlen
    have hs₂ : s₂ = (({ U with heap := s₂.heap, slotsUsed := s₂.slotsUsed } : State).setVm s₂.vm).setTop { g with pc := g.pc + len₂, stack := v.toList ++ g.stack } := by
      refine e3.trans ?_
      rw [hf₂, State.calling_eq h.top, State.setFrames_setFrames, State.setTop_of_frames _ hr', hr]
      rfl
    have hsame : U.sameButNew ({ U with heap := s₂.heap, slotsUsed := s₂.slotsUsed } : State) L mc ms := by
      refine ⟨?_, q2, q3, q4, q5, q6⟩
      obtain ⟨t, ht, -⟩ := State.frames_cons hr
      show ({ U with heap := s₂.heap, slotsUsed := s₂.slotsUsed } : State) = { U.setFrames U.frames with heap := s₂.heap, slotsUsed := s₂.slotsUsed }
      rw [State.setFrames_self ht]
    subst hg
    refine Or.inl ⟨v, ⟨(({ U with heap := s₂.heap, slotsUsed := s₂.slotsUsed } : State).setVm s₂.vm), Ls ++ L, c0 + mc, s0 + ms⟩,
      ⟨X.admits, X.cas, X.clock, X.frames, X.room, X.hears, X.method, X.code, (X.here.setHeapUsed s₂.heap s₂.slotsUsed).setVm hW'.alike, X.tail, State.WarmedH.trans X.warmed hW', X.limits, X.bytes, X.same.trans (hsame.setVm s.vm)⟩,
      ⟨g, mk, s₂, L, rfl, rfl, hqc, rfl, hL, rfl, rfl⟩, ?_⟩
    show Steps p.tables e below _ ((({ U with heap := s₂.heap, slotsUsed := s₂.slotsUsed } : State).setVm s₂.vm).setTop { g with pc := g.pc + len₂, stack := v.toList ++ g.stack })
    rw [← hs₂]
    exact hsteps
  · obtain ⟨e2, q2, q3, q4, q5, q6⟩ := id hsm
    have e3 : s₂ = ({ (U.calling g mk a).setFrames s₂.frames with heap := s₂.heap, slotsUsed := s₂.slotsUsed } : State).setVm s₂.vm := by
      have : s₂ = ({ s₂ with vm := (U.calling g mk a).vm } : State).setVm s₂.vm := rfl
      rw [e2] at this
      exact this
    have hf₂ : s₂.frames = .throwing q :: .java g :: U.frames.tail := hend
    have hW' : U.WarmedH s₂.vm := hW₂
    have hs₂ : s₂ = ((({ U with heap := s₂.heap, slotsUsed := s₂.slotsUsed } : State).setVm s₂.vm).setTop g).pushFrame (.throwing q) := by
      refine e3.trans ?_
      rw [hf₂, State.calling_eq h.top, State.setFrames_setFrames, State.pushFrame, State.frames_setTop _ hr', State.setTop_of_frames _ hr', State.setFrames_setFrames, hr]
      rfl
    have hsame : U.sameButNew ({ U with heap := s₂.heap, slotsUsed := s₂.slotsUsed } : State) L mc ms := by
      refine ⟨?_, q2, q3, q4, q5, q6⟩
      obtain ⟨t, ht, -⟩ := State.frames_cons hr
      show ({ U with heap := s₂.heap, slotsUsed := s₂.slotsUsed } : State) = { U.setFrames U.frames with heap := s₂.heap, slotsUsed := s₂.slotsUsed }
      rw [State.setFrames_self ht]
    subst hg
    refine Or.inr ⟨q, ⟨(({ U with heap := s₂.heap, slotsUsed := s₂.slotsUsed } : State).setVm s₂.vm), Ls ++ L, c0 + mc, s0 + ms⟩,
      ⟨X.admits, X.cas, X.clock, X.frames, X.room, X.hears, X.method, X.code, (X.here.setHeapUsed s₂.heap s₂.slotsUsed).setVm hW'.alike, X.tail, State.WarmedH.trans X.warmed hW', X.limits, X.bytes, X.same.trans (hsame.setVm s.vm)⟩,
      ⟨g, mk, s₂, L, E, ce, rfl, rfl, hx, hce, hcv, hcl, rfl, hL, rfl, rfl⟩, ?_⟩
    show Steps p.tables e below _ (((({ U with heap := s₂.heap, slotsUsed := s₂.slotsUsed } : State).setVm s₂.vm).setTop g).pushFrame (.throwing q))
    rw [← hs₂]
    exact hsteps
end
variable {p : Program} {l : Launch} {e : Env} {R : Room} {s : State} {m : MethodId} {args : Array Value} {below : List Frame} {meth : Method} {c : Code} {T : State} {H : Heap} {locs : List Loc} {cells slots : Nat}
theorem vx_callVX (X : Stand p l e R s m args below meth c T locs cells slots) (hexec : p.tables.exec = Jvm.exec) {own C : String} {index : Nat} {y : MethodName} {bytes : ByteArray} {maxL : Nat} {ret : Option FieldType} {hh : List (Nat × Nat × Nat × Nat)}
    (hown : s.vm.findClass own = some m.cls) (hlink : (Cond.methodLink own index y).before args s = true) (hinst : (Cond.instanceMethod y).before args s = true) (hsel : (Cond.selects C y y).before args s = true)
    (hcode : (Cond.codeWith y bytes maxL ret hh).before args s = true) (hy : y.cls ≠ "java/lang/invoke/MethodHandle" ∧ y.cls ≠ "java/lang/invoke/VarHandle")
    {W9 : Nat} {Pre : Pt → Array Value → Prop} {Post : Pt → Array Value → Option Value → Pt → Prop} {PostX : Pt → Array Value → Addr → Pt → Prop} (hK : vx_Back l R p e below s args y 3 W9 Pre Post PostX)
    {b : Addr} {cellB : Cell} (hcell : T.heap[b]? = some cellB) (hobj : cellB.vm.isStatics = false) (hcls : s.vm.findClass C = some cellB.cls)
    {g : JFrame} (hg : g.method = m) (hsize : g.locals.size = c.maxLocals) {argsL rest : List Value} (hlen : ∀ sig, parseMethodDescriptor y.desc = some sig → argsL.length = sig.parameters.length)
    (hstack : g.stack = argsL.reverse ++ .ref b :: rest) (hW : 2 * g.monitorRoom + (rest.map fun v => v.category).sum ≤ W9) (hdg : decode c.code g.pc = .ok (.invokevirtual index, 3))
    (hpre : ∀ vm₁, s.WarmedH vm₁ → Pre ⟨T.setVm vm₁, locs, cells, slots⟩ (Value.ref b :: argsL).toArray) :
    (∃ (v : Option Value) (vm₁ : Vm) (B : Pt), s.WarmedH vm₁ ∧ Stand p l e R s m args below meth c B.U B.locs B.cells B.slots ∧ Post ⟨T.setVm vm₁, locs, cells, slots⟩ (Value.ref b :: argsL).toArray v B ∧
      ∀ target, Steps p.tables e below (B.U.setTop { g with pc := g.pc + 3, stack := v.toList ++ rest }) target → Steps p.tables e below (T.setTop g) target) ∨
    (∃ (q : Addr) (vm₁ : Vm) (B : Pt), s.WarmedH vm₁ ∧ Stand p l e R s m args below meth c B.U B.locs B.cells B.slots ∧ PostX ⟨T.setVm vm₁, locs, cells, slots⟩ (Value.ref b :: argsL).toArray q B ∧
      Steps p.tables e below (T.setTop g) ((B.U.setTop { g with stack := rest }).pushFrame (.throwing q))) := by
  obtain ⟨mk, methM, hnamed, hmethM, hstM, habM⟩ := Cond.instanceMethod_spec hinst
  obtain ⟨m8, methM', cM, hn8, hmethM', -, -, -, -, -, -, hsigM⟩ := Cond.codeWith_spec hcode
  cases Option.some.inj (hn8.symm.trans hnamed)
  cases hmethM.symm.trans hmethM'
  obtain ⟨c2, r2, m2, q1, q2, q3, q4, kP, hkP, hkPi⟩ := Cond.selects_spec hsel
  cases hcls.symm.trans q1
  cases (State.methodFound?_of_named hnamed hy).symm.trans q2
  cases hnamed.symm.trans q3
  have hselP : selectMethod e.platform s.vm cellB.cls mk = .method mk := by rw [Launch.admits_selectMethod X.admits]; exact q4
  obtain ⟨vm₁, X₁, hstep₁⟩ := X.invokevirtual hexec hown hlink hnamed hmethM hstM hkP hkPi hy (a := b) (cell := cellB) hcell
    (fun z h => by rw [h] at hobj; cases hobj) hselP hmethM habM hkP hkPi (g := g) hg (argsL := argsL) (rest := rest) (hlen _ hsigM) hstack hdg
  rcases hK m meth c ⟨T.setVm vm₁, locs, cells, slots⟩ { g with stack := rest } (.invokevirtual index) mk (Value.ref b :: argsL).toArray X₁ hg hsize hdg hW (X₁.named hnamed) (hpre vm₁ X₁.warmed) with ⟨v, B, X', hpost, hsteps⟩ | ⟨q, B, X', hpost, hsteps⟩
  · exact Or.inl ⟨v, vm₁, B, X₁.warmed, X', hpost, fun target h => hstep₁ _ fun acts => by rw [doInvoke_state]; exact hsteps.trans h⟩
  · exact Or.inr ⟨q, vm₁, B, X₁.warmed, X', hpost, hstep₁ _ fun acts => by rw [doInvoke_state]; exact hsteps⟩
theorem vx_callSX (X : Stand p l e R s m args below meth c T locs cells slots) (hexec : p.tables.exec = Jvm.exec) {own : String} {index : Nat} {y : MethodName} {bytes : ByteArray} {maxL : Nat} {ret : Option FieldType} {hh : List (Nat × Nat × Nat × Nat)}
    (hown : s.vm.findClass own = some m.cls) (hlink : (Cond.methodLink own index y).before args s = true) (hstat : (Cond.static y).before args s = true) (hinit : (Cond.initialized y.cls).before args s = true)
    (hcode : (Cond.codeWith y bytes maxL ret hh).before args s = true) (hy : y.cls ≠ "java/lang/invoke/MethodHandle" ∧ y.cls ≠ "java/lang/invoke/VarHandle")
    {W9 : Nat} {Pre : Pt → Array Value → Prop} {Post : Pt → Array Value → Option Value → Pt → Prop} {PostX : Pt → Array Value → Addr → Pt → Prop} (hK : vx_Back l R p e below s args y 3 W9 Pre Post PostX)
    {g : JFrame} (hg : g.method = m) (hsize : g.locals.size = c.maxLocals) {argsL rest : List Value} (hlen : ∀ sig, parseMethodDescriptor y.desc = some sig → argsL.length = sig.parameters.length)
    (hstack : g.stack = argsL.reverse ++ rest) (hW : 2 * g.monitorRoom + (rest.map fun v => v.category).sum ≤ W9) (hdg : decode c.code g.pc = .ok (.invokestatic index, 3))
    (hpre : ∀ vm₁, s.WarmedH vm₁ → Pre ⟨T.setVm vm₁, locs, cells, slots⟩ argsL.toArray) :
    (∃ (v : Option Value) (vm₁ : Vm) (B : Pt), s.WarmedH vm₁ ∧ Stand p l e R s m args below meth c B.U B.locs B.cells B.slots ∧ Post ⟨T.setVm vm₁, locs, cells, slots⟩ argsL.toArray v B ∧
      ∀ target, Steps p.tables e below (B.U.setTop { g with pc := g.pc + 3, stack := v.toList ++ rest }) target → Steps p.tables e below (T.setTop g) target) ∨
    (∃ (q : Addr) (vm₁ : Vm) (B : Pt), s.WarmedH vm₁ ∧ Stand p l e R s m args below meth c B.U B.locs B.cells B.slots ∧ PostX ⟨T.setVm vm₁, locs, cells, slots⟩ argsL.toArray q B ∧
      Steps p.tables e below (T.setTop g) ((B.U.setTop { g with stack := rest }).pushFrame (.throwing q))) := by
  obtain ⟨mk, methM, cM, hnamed, hmethM, -, -, -, -, -, -, hsigM⟩ := Cond.codeWith_spec hcode
  have hstatic : methM.isStatic = true := Cond.static_spec hnamed hmethM hstat
  obtain ⟨kP, hkP, -⟩ := className_of_methodNamed hnamed
  have hinitP : kP.init = .initialized := Cond.initialized_spec (findClass_of_methodNamed hnamed) hkP hinit
  obtain ⟨vm₁, X₁, hstep₁⟩ := X.invokestatic hexec hown hlink hnamed hmethM hstatic hkP hinitP hy (g := g) hg (argsL := argsL) (rest := rest) (hlen _ hsigM) hstack hdg
  rcases hK m meth c ⟨T.setVm vm₁, locs, cells, slots⟩ { g with stack := rest } (.invokestatic index) mk argsL.toArray X₁ hg hsize hdg hW (X₁.named hnamed) (hpre vm₁ X₁.warmed) with ⟨v, B, X', hpost, hsteps⟩ | ⟨q, B, X', hpost, hsteps⟩
  · exact Or.inl ⟨v, vm₁, B, X₁.warmed, X', hpost, fun target h => hstep₁ _ fun acts => by rw [doInvoke_state]; exact hsteps.trans h⟩
  · exact Or.inr ⟨q, vm₁, B, X₁.warmed, X', hpost, hstep₁ _ fun acts => by rw [doInvoke_state]; exact hsteps⟩
theorem vx_callVW (X : Stand p l e R s m args below meth c T locs cells slots) (hexec : p.tables.exec = Jvm.exec) {own C : String} {index : Nat} {y : MethodName} {bytes : ByteArray} {maxL : Nat} {ret : Option FieldType} {hh : List (Nat × Nat × Nat × Nat)}
    (hown : s.vm.findClass own = some m.cls) (hlink : (Cond.methodLink own index y).before args s = true) (hinst : (Cond.instanceMethod y).before args s = true) (hsel : (Cond.selects C y y).before args s = true)
    (hcode : (Cond.codeWith y bytes maxL ret hh).before args s = true) (hy : y.cls ≠ "java/lang/invoke/MethodHandle" ∧ y.cls ≠ "java/lang/invoke/VarHandle")
    {W9 : Nat} {Pre : Pt → Array Value → Prop} {Post : Pt → Array Value → Option Value → Pt → Prop} (hK : Back l R p e below s args y 3 W9 Pre Post)
    {b : Addr} {cellB : Cell} (hcell : T.heap[b]? = some cellB) (hobj : cellB.vm.isStatics = false) (hcls : s.vm.findClass C = some cellB.cls)
    {g : JFrame} (hg : g.method = m) (hsize : g.locals.size = c.maxLocals) {argsL rest : List Value} (hlen : ∀ sig, parseMethodDescriptor y.desc = some sig → argsL.length = sig.parameters.length)
    (hstack : g.stack = argsL.reverse ++ .ref b :: rest) (hW : 2 * g.monitorRoom + (rest.map fun v => v.category).sum ≤ W9) (hdg : decode c.code g.pc = .ok (.invokevirtual index, 3))
    (hpre : ∀ vm₁, s.WarmedH vm₁ → Pre ⟨T.setVm vm₁, locs, cells, slots⟩ (Value.ref b :: argsL).toArray) :
    ∃ (v : Option Value) (vm₁ : Vm) (B : Pt), s.WarmedH vm₁ ∧ Stand p l e R s m args below meth c B.U B.locs B.cells B.slots ∧ Post ⟨T.setVm vm₁, locs, cells, slots⟩ (Value.ref b :: argsL).toArray v B ∧
      ∀ target, Steps p.tables e below (B.U.setTop { g with pc := g.pc + 3, stack := v.toList ++ rest }) target → Steps p.tables e below (T.setTop g) target := by
  obtain ⟨mk, methM, hnamed, hmethM, hstM, habM⟩ := Cond.instanceMethod_spec hinst
  obtain ⟨m8, methM', cM, hn8, hmethM', -, -, -, -, -, -, hsigM⟩ := Cond.codeWith_spec hcode
  cases Option.some.inj (hn8.symm.trans hnamed)
  cases hmethM.symm.trans hmethM'
  obtain ⟨c2, r2, m2, q1, q2, q3, q4, kP, hkP, hkPi⟩ := Cond.selects_spec hsel
  cases hcls.symm.trans q1
  cases (State.methodFound?_of_named hnamed hy).symm.trans q2
  cases hnamed.symm.trans q3
  have hselP : selectMethod e.platform s.vm cellB.cls mk = .method mk := by rw [Launch.admits_selectMethod X.admits]; exact q4
  obtain ⟨vm₁, X₁, hstep₁⟩ := X.invokevirtual hexec hown hlink hnamed hmethM hstM hkP hkPi hy (a := b) (cell := cellB) hcell
    (fun z h => by rw [h] at hobj; cases hobj) hselP hmethM habM hkP hkPi (g := g) hg (argsL := argsL) (rest := rest) (hlen _ hsigM) hstack hdg
  obtain ⟨v, B, X', hpost, hsteps⟩ := hK m meth c ⟨T.setVm vm₁, locs, cells, slots⟩ { g with stack := rest } (.invokevirtual index) mk (Value.ref b :: argsL).toArray X₁ hg hsize hdg hW (X₁.named hnamed) (hpre vm₁ X₁.warmed)
  exact ⟨v, vm₁, B, X₁.warmed, X', hpost, fun target h => hstep₁ _ fun acts => by rw [doInvoke_state]; exact hsteps.trans h⟩
abbrev vx_CVW (R : Room) (s : State) (args : Array Value) (own C : String) (index : Nat) (y : MethodName) (bytes : ByteArray) (maxL : Nat) (ret : Option FieldType) (hh : List (Nat × Nat × Nat × Nat)) (ws : List Cond) (rm : Room) (mc ms n : Nat) : Prop :=
  (rm.cells = mc ∧ rm.slots = ms ∧ rm.frames + 1 ≤ R.frames ∧ 8 + (maxL + 11) + rm.locals ≤ R.locals ∧ (∀ w ∈ ws, ∀ (a' : Array Value) (U : State), s.WarmedH U.vm → w.before a' U = true) ∧ Cond.codeWith y bytes maxL ret hh ∈ ws) ∧
  (Cond.codeWith y bytes maxL ret hh).before args s = true ∧ (Cond.initialized y.cls).before args s = true ∧ (y.cls ≠ "java/lang/invoke/MethodHandle" ∧ y.cls ≠ "java/lang/invoke/VarHandle") ∧
  (∀ sig, parseMethodDescriptor y.desc = some sig → n = sig.parameters.length) ∧ (Cond.methodLink own index y).before args s = true ∧ (Cond.instanceMethod y).before args s = true ∧ (Cond.selects C y y).before args s = true
theorem vx_cwVW {own C : String} {index maxL mc ms : Nat} {y : MethodName} {bytes : ByteArray} {ret : Option FieldType} {hh : List (Nat × Nat × Nat × Nat)} {Ts ws ws' : List Cond} {rm : Room} (n : Nat) (ht : ∀ w ∈ Ts, w.before args s = true) (hT : GoodIn Ts (wsV own index C y ws)) (hw : ws = Cond.codeWith y bytes maxL ret hh :: ws') (hrc : rm.cells = mc) (hrs : rm.slots = ms)
    (hd : y.cls = C ∧ y.cls ≠ "java/lang/invoke/MethodHandle" ∧ y.cls ≠ "java/lang/invoke/VarHandle" ∧ (parseMethodDescriptor y.desc).map (fun d => d.parameters.length) = some n) (hR : rm.frames + 1 ≤ R.frames ∧ 8 + (maxL + 11) + rm.locals ≤ R.locals) :
    vx_CVW R s args own C index y bytes maxL ret hh ws rm mc ms n := by
  obtain ⟨hC, hd⟩ := hd
  subst hC
  have ok : ∀ w ∈ wsV own index y.cls y ws, w.before args s = true := fun w h => ht w (hT w h).1
  have hG : GoodIn Ts ws := fun w h => hT w (by unfold wsV; exact List.mem_append_right _ h)
  have hc : Cond.codeWith y bytes maxL ret hh ∈ ws := by rw [hw]; exact List.mem_cons_self
  refine ⟨⟨hrc, hrs, hR.1, hR.2, pay_in ht hG, hc⟩, ht _ (hG _ hc).1, ok _ (by simp [wsV]), ⟨hd.1, hd.2.1⟩, fun sig h => ?_, ok _ (by simp [wsV]), ok _ (by simp [wsV]), ok _ (by simp [wsV])⟩
  have h2 := hd.2.2
  rw [h] at h2
  exact (Option.some.inj h2).symm
theorem vx_runVW {y : MethodName} {bytes cc : ByteArray} {maxL nL mc ms n index : Nat} {ret : Option FieldType} {hh : List (Nat × Nat × Nat × Nat)} {ws : List Cond} {rm : Room} {Pc : Array Value → State → Prop} {Qc : Array Value → State → Outcome → State → Prop} {free : Addr → Prop} {Ts : List Cond} {own C : String} {b : Addr} {As rest : List Value} {g : JFrame}
    (S : CallFix p m c cc nL s args Ts own) (hM : Met l y ws rm Pc Qc mc ms free) (cw : vx_CVW R s args own C index y bytes maxL ret hh ws rm mc ms n) (hp : PreV s H C b Pc As)
    (hg : g.method = m) (hn : As.length = n) (hsize : g.locals.size = nL) (hstack : g.stack = As.reverse ++ .ref b :: rest) (hW : 2 * g.monitorRoom + (rest.map fun v => v.category).sum ≤ 8) (hdg : decode cc g.pc = .ok (.invokevirtual index, 3)) (hf : cells + mc ≤ R.cells ∧ slots + ms ≤ R.slots) :
    va_Run p l e R s m args below meth c H locs cells slots mc ms g rest (Qc (Value.ref b :: As).toArray) free := by
  obtain ⟨⟨hrc, hrs, hfr, hlo, hws, hcw⟩, hcode, hini, hy, hlen, hl, hin, hse⟩ := cw
  have hK : Back l R p e below s args y 3 8 (PreOf R mc ms Pc) (PostOf Qc mc ms free) := va_backW (hh := hh) (bytes := bytes) (maxL := maxL) (ret := ret) hM hp.1 hrc hrs hfr hlo hws hcw (fun a' U hW => word_at hW (Or.inl (by first | rfl | simp [Cond.onTables, Cond.keeps, Cond.steady])) hini)
  obtain ⟨hx, hb, hml, ho, -⟩ := S
  obtain ⟨-, ⟨cellB, hcB, hoB, hclB⟩, hPc⟩ := hp
  intro T hT X
  obtain ⟨v, vm₁, ⟨U', l2, c2, s2⟩, hW₁, X', ⟨g', mk, t, L, e1, e2, hq, h1, hL, h2, h3⟩, st⟩ := vx_callVW X hx (C := C) (hh := hh) (bytes := bytes) (maxL := maxL) (ret := ret) ho hl hin hse hcode hy hK (by rw [hT]; exact hcB) hoB hclB hg (hsize.trans hml.symm) (argsL := As) (rest := rest) (fun sig h => hn.trans (hlen sig h)) hstack hW (by rw [hb]; exact hdg)
    (fun vm₁ hW₁ => ⟨hf.1, hf.2, hPc (T.setVm vm₁) hT hW₁⟩)
  dsimp only [Pt.U, Pt.locs, Pt.cells, Pt.slots] at X' e1 e2 h1 h2 h3 st
  subst h1; subst h2; subst h3
  exact ⟨v, (T.setVm vm₁).calling g' mk (Value.ref b :: As).toArray, t, U', L, hT, X', hL, e1, e2, hq, st⟩
section
variable {y : MethodName} {bytes cc : ByteArray} {maxL nL mc ms n index : Nat} {ret : Option FieldType} {ws : List Cond} {rm : Room} {Pc : Array Value → State → Prop} {Qc : Array Value → State → Outcome → State → Prop} {XC : String → State → State → Prop} {free : Addr → Prop} {Ts : List Cond} {own C : String} {b : Addr} {As rest : List Value} {g : JFrame}
theorem vx_runVX {hh : List (Nat × Nat × Nat × Nat)} (S : CallFix p m c cc nL s args Ts own) (hM : vx_Met l y ws rm Pc Qc XC mc ms free) (cw : vx_CVW R s args own C index y bytes maxL ret hh ws rm mc ms n) (hp : PreV s H C b Pc As)
    (hg : g.method = m) (hn : As.length = n) (hsize : g.locals.size = nL) (hstack : g.stack = As.reverse ++ .ref b :: rest) (hW : 2 * g.monitorRoom + (rest.map fun v => v.category).sum ≤ 8) (hdg : decode cc g.pc = .ok (.invokevirtual index, 3)) (hf : cells + mc ≤ R.cells ∧ slots + ms ≤ R.slots) :
    vx_Run p l e R s m args below meth c H locs cells slots mc ms g rest (Qc (Value.ref b :: As).toArray) XC free := by
  obtain ⟨⟨hrc, hrs, hfr, hlo, hws, hcw⟩, hcode, hini, hy, hlen, hl, hin, hse⟩ := cw
  have hK : vx_Back l R p e below s args y 3 8 (PreOf R mc ms Pc) (PostOf Qc mc ms free) (vx_Post XC mc ms free) := vx_backW (hh := hh) (bytes := bytes) (maxL := maxL) (ret := ret) hM hp.1 hrc hrs hfr hlo hws hcw (fun a' U hW => word_at hW (Or.inl (by first | rfl | simp [Cond.onTables, Cond.keeps, Cond.steady])) hini)
  obtain ⟨hx, hb, hml, ho, -⟩ := S
  obtain ⟨-, ⟨cellB, hcB, hoB, hclB⟩, hPc⟩ := hp
  intro T hT X
  rcases vx_callVX X hx (C := C) (hh := hh) (bytes := bytes) (maxL := maxL) (ret := ret) ho hl hin hse hcode hy hK (by rw [hT]; exact hcB) hoB hclB hg (hsize.trans hml.symm) (argsL := As) (rest := rest) (fun sig h => hn.trans (hlen sig h)) hstack hW (by rw [hb]; exact hdg)
    (fun vm₁ hW₁ => ⟨hf.1, hf.2, hPc (T.setVm vm₁) hT hW₁⟩) with ⟨v, vm₁, ⟨U', l2, c2, s2⟩, hW₁, X', ⟨g', mk, t, L, e1, e2, hq, h1, hL, h2, h3⟩, st⟩ | ⟨q, vm₁, ⟨U', l2, c2, s2⟩, hW₁, X', ⟨g', mk, t, L, E, ce, e1, e2, hq, hce, hcv, hcl, h1, hL, h2, h3⟩, st⟩
  · dsimp only [Pt.U, Pt.locs, Pt.cells, Pt.slots] at X' e1 e2 h1 h2 h3 st
    subst h1; subst h2; subst h3
    exact Or.inl ⟨v, (T.setVm vm₁).calling g' mk (Value.ref b :: As).toArray, t, U', L, hT, X', hL, e1, e2, hq, st⟩
  · dsimp only [Pt.U, Pt.locs, Pt.cells, Pt.slots] at X' e1 e2 h1 h2 h3 st hcl
    subst h1; subst h2; subst h3
    exact Or.inr ⟨q, (T.setVm vm₁).calling g' mk (Value.ref b :: As).toArray, t, U', L, E, ce, hT, X', hL, e1, e2, hq, hce, hcv, vx_cls hW₁ hcl, st⟩
theorem vx_runSX {hh : List (Nat × Nat × Nat × Nat)} (S : CallFix p m c cc nL s args Ts own) (hM : vx_Met l y ws rm Pc Qc XC mc ms free) (cw : vx_CSW R s args own index y bytes maxL ret hh ws rm mc ms n) (hp : PreS s H Pc As)
    (hg : g.method = m) (hn : As.length = n) (hsize : g.locals.size = nL) (hstack : g.stack = As.reverse ++ rest) (hW : 2 * g.monitorRoom + (rest.map fun v => v.category).sum ≤ 8) (hdg : decode cc g.pc = .ok (.invokestatic index, 3)) (hf : cells + mc ≤ R.cells ∧ slots + ms ≤ R.slots) :
    vx_Run p l e R s m args below meth c H locs cells slots mc ms g rest (Qc As.toArray) XC free := by
  obtain ⟨⟨hrc, hrs, hfr, hlo, hws, hcw⟩, hcode, hini, hy, hlen, hl, hstt⟩ := cw
  have hK : vx_Back l R p e below s args y 3 8 (PreOf R mc ms Pc) (PostOf Qc mc ms free) (vx_Post XC mc ms free) := vx_backW (hh := hh) (bytes := bytes) (maxL := maxL) (ret := ret) hM hp.1 hrc hrs hfr hlo hws hcw (fun a' U hW => word_at hW (Or.inl (by first | rfl | simp [Cond.onTables, Cond.keeps, Cond.steady])) hini)
  obtain ⟨hx, hb, hml, ho, -⟩ := S
  intro T hT X
  rcases vx_callSX X hx (hh := hh) (bytes := bytes) (maxL := maxL) (ret := ret) ho hl hstt hini hcode hy hK hg (hsize.trans hml.symm) (argsL := As) (rest := rest) (fun sig h => hn.trans (hlen sig h)) hstack hW (by rw [hb]; exact hdg)
    (fun vm₁ hW₁ => ⟨hf.1, hf.2, hp.2 (T.setVm vm₁) hT hW₁⟩) with ⟨v, vm₁, ⟨U', l2, c2, s2⟩, hW₁, X', ⟨g', mk, t, L, e1, e2, hq, h1, hL, h2, h3⟩, st⟩ | ⟨q, vm₁, ⟨U', l2, c2, s2⟩, hW₁, X', ⟨g', mk, t, L, E, ce, e1, e2, hq, hce, hcv, hcl, h1, hL, h2, h3⟩, st⟩
  · dsimp only [Pt.U, Pt.locs, Pt.cells, Pt.slots] at X' e1 e2 h1 h2 h3 st
    subst h1; subst h2; subst h3
    exact Or.inl ⟨v, (T.setVm vm₁).calling g' mk As.toArray, t, U', L, hT, X', hL, e1, e2, hq, st⟩
  · dsimp only [Pt.U, Pt.locs, Pt.cells, Pt.slots] at X' e1 e2 h1 h2 h3 st hcl
    subst h1; subst h2; subst h3
    exact Or.inr ⟨q, (T.setVm vm₁).calling g' mk As.toArray, t, U', L, E, ce, hT, X', hL, e1, e2, hq, hce, hcv, vx_cls hW₁ hcl, st⟩
end
end VXH
theorem vx_ofWH {l : Launch} {y : MethodName} {ws ws' : List Cond} {rm : Room} {Pc : Array Value → State → Prop} {Qc : Array Value → State → Outcome → State → Prop} {XC : String → State → State → Prop} {mc ms : Nat} {free : Addr → Prop} {cc : ByteArray} {maxL : Nat} {ret : Option FieldType} {hh : List (Nat × Nat × Nat × Nat)}
    (hy : plainName y.cls = true) (hw : ws = Cond.codeWith y cc maxL ret hh :: ws')
    (body : ∀ p e s m args below meth c s₁, BodyLoose p l y (headSpec ws rm) cc maxL ret e s m args below meth c s₁ → c.maxLocals = maxL → Pc args s →
      W p l e (headSpec ws rm).room s m args below meth c s.heap [] 0 0 (vx_MQ below Qc XC args s mc ms free) (entryFrame m args maxL)) : vx_Met l y ws rm Pc Qc XC mc ms free := by
  refine MetFree.of_bodyS (code := cc) (maxLocals := maxL) (ret := ret) hy ?_ ?_
  · intro args s m h hn
    obtain ⟨m9, meth, c, hn9, h1, h2, h3, h4, -, h5, h6, -⟩ := Cond.codeWith_spec (atoms_spec (ws := ws) h _ (by rw [hw]; exact List.mem_cons_self))
    cases hn.symm.trans hn9
    exact ⟨meth, c, h1, h2, h3, h4, h5, h6⟩
  · intro p e s m args below meth c s₁ B hml hP _
    have hh0 : s₁.heap = s.heap := by rw [B.state]; rfl
    obtain ⟨t, a1, o, b1, b2, b3⟩ := body p e s m args below meth c s₁ B hml hP s₁ hh0 (Stand.of_body B)
    exact ⟨t, o, a1, b1, b2, b3⟩
end
section
def RX0 : String := "CausalGate"
def TX0 : u_T := fun k => match k with
  | 0 => ("CausalGate", "throughKeys", "[I", true)
  | 1 => ("CausalGate", "throughLabels", "[I", true)
  | 2 => ("CausalGate", "throughCount", "I", false)
  | 3 => ("CausalGate", "waitKeys", "[I", true)
  | 4 => ("CausalGate", "waitClocks", "[J", true)
  | 5 => ("CausalGate", "waitLabels", "[I", true)
  | 6 => ("CausalGate", "waitCount", "I", false)
  | 7 => ("CausalGate", "gateClock", "J", false)
  | 8 => ("CausalGate", "knownOffers", "I", false)
  | _ => ("CausalGate", "mostWaited", "I", false)
def tyX0 : Nat → FieldType := fun k => match k with
  | 0 => .array .int
  | 1 => .array .int
  | 2 => .int
  | 3 => .array .int
  | 4 => .array .long
  | 5 => .array .int
  | 6 => .int
  | 7 => .long
  | 8 => .int
  | _ => .int
abbrev wsX00 : List Cond := u_ws RX0 TX0 10
theorem nmX0 : ∀ a, a < 10 → ∀ b, b < 10 → a ≠ b → (TX0 a).2.1 ≠ (TX0 b).2.1 := by decide +kernel
theorem tyX0_ok : ∀ k, k < 10 → parseFieldDescriptor (TX0 k).2.2.1 = some (tyX0 k) := by decide +kernel
abbrev cX0_init : ByteArray := prog_1_method_1_code
def yX0_init : MethodName := ⟨RX0, "<init>", "()V"⟩
abbrev cX0_clear : ByteArray := prog_1_method_2_code
def yX0_clear : MethodName := ⟨RX0, "clear", "()V"⟩
abbrev cX0_offer : ByteArray := prog_1_method_3_code
def yX0_offer : MethodName := ⟨RX0, "offer", "(IIJI)I"⟩
abbrev cX0_known : ByteArray := prog_1_method_4_code
def yX0_known : MethodName := ⟨RX0, "known", "(II)Z"⟩
abbrev cX0_clock : ByteArray := prog_1_method_5_code
def yX0_clock : MethodName := ⟨RX0, "clock", "()J"⟩
abbrev cX0_ahead : ByteArray := prog_1_method_8_code
def yX0_ahead : MethodName := ⟨RX0, "ahead", "(J)I"⟩
abbrev cX0_next : ByteArray := prog_1_method_9_code
def yX0_next : MethodName := ⟨RX0, "next", "(JI)I"⟩
abbrev cX0_compare : ByteArray := prog_1_method_10_code
def yX0_compare : MethodName := ⟨RX0, "compare", "(J)I"⟩
abbrev cX0_forget : ByteArray := prog_1_method_11_code
def yX0_forget : MethodName := ⟨RX0, "forget", "(I)I"⟩
abbrev cX0_look : ByteArray := prog_1_method_12_code
def yX0_look : MethodName := ⟨RX0, "look", "(I)I"⟩
abbrev cX0_isActor : ByteArray := prog_1_method_13_code
def yX0_isActor : MethodName := ⟨RX0, "isActor", "(I)Z"⟩
abbrev cX0_isSeq : ByteArray := prog_1_method_14_code
def yX0_isSeq : MethodName := ⟨RX0, "isSeq", "(I)Z"⟩
abbrev cX0_keyOf : ByteArray := prog_1_method_15_code
def yX0_keyOf : MethodName := ⟨RX0, "keyOf", "(II)I"⟩
abbrev cX0_actorOf : ByteArray := prog_1_method_16_code
def yX0_actorOf : MethodName := ⟨RX0, "actorOf", "(I)I"⟩
abbrev cX0_seqOf : ByteArray := prog_1_method_17_code
def yX0_seqOf : MethodName := ⟨RX0, "seqOf", "(I)I"⟩
abbrev cX0_byteOf : ByteArray := prog_1_method_18_code
def yX0_byteOf : MethodName := ⟨RX0, "byteOf", "(JI)I"⟩
abbrev cX0_nextSeq : ByteArray := prog_1_method_19_code
def yX0_nextSeq : MethodName := ⟨RX0, "nextSeq", "(I)I"⟩
abbrev cX0_isKnown : ByteArray := prog_1_method_20_code
def yX0_isKnown : MethodName := ⟨RX0, "isKnown", "(I)Z"⟩
abbrev cX0_canComeThrough : ByteArray := prog_1_method_21_code
def yX0_canComeThrough : MethodName := ⟨RX0, "canComeThrough", "(IJ)Z"⟩
abbrev cX0_lackedActor : ByteArray := prog_1_method_22_code
def yX0_lackedActor : MethodName := ⟨RX0, "lackedActor", "(IJ)I"⟩
abbrev cX0_letThroughAllThatCan : ByteArray := prog_1_method_23_code
def yX0_letThroughAllThatCan : MethodName := ⟨RX0, "letThroughAllThatCan", "()I"⟩
abbrev cX0_firstThatCanComeThrough : ByteArray := prog_1_method_24_code
def yX0_firstThatCanComeThrough : MethodName := ⟨RX0, "firstThatCanComeThrough", "()I"⟩
abbrev cX0_letThrough : ByteArray := prog_1_method_25_code
def yX0_letThrough : MethodName := ⟨RX0, "letThrough", "(I)V"⟩
abbrev cX0_insertWaiting : ByteArray := prog_1_method_26_code
def yX0_insertWaiting : MethodName := ⟨RX0, "insertWaiting", "(IJI)V"⟩
abbrev cX0_removeWaiting : ByteArray := prog_1_method_27_code
def yX0_removeWaiting : MethodName := ⟨RX0, "removeWaiting", "(I)V"⟩
abbrev cX0_moveWaiting : ByteArray := prog_1_method_28_code
def yX0_moveWaiting : MethodName := ⟨RX0, "moveWaiting", "(II)V"⟩
def RX1 : String := "CausalGateModel"
def TX1 : u_T := fun k => match k with
  | _ => ("", "", "", false)
def tyX1 : Nat → FieldType := fun k => match k with
  | _ => .int
abbrev wsX10 : List Cond := u_ws RX1 TX1 0
theorem nmX1 : ∀ a, a < 0 → ∀ b, b < 0 → a ≠ b → (TX1 a).2.1 ≠ (TX1 b).2.1 := by decide +kernel
theorem tyX1_ok : ∀ k, k < 0 → parseFieldDescriptor (TX1 k).2.2.1 = some (tyX1 k) := by decide +kernel
def RJ9 : String := "java/lang/Math"
def TJ9 : u_T := fun k => match k with
  | _ => ("", "", "", false)
def tyJ9 : Nat → FieldType := fun k => match k with
  | _ => .int
abbrev wsJ90 : List Cond := u_ws RJ9 TJ9 0
theorem nmJ9 : ∀ a, a < 0 → ∀ b, b < 0 → a ≠ b → (TJ9 a).2.1 ≠ (TJ9 b).2.1 := by decide +kernel
theorem tyJ9_ok : ∀ k, k < 0 → parseFieldDescriptor (TJ9 k).2.2.1 = some (tyJ9 k) := by decide +kernel
def RJ0 : String := "java/lang/String"
def TJ0 : u_T := fun k => match k with
  | _ => ("", "", "", false)
def tyJ0 : Nat → FieldType := fun k => match k with
  | _ => .int
abbrev wsJ00 : List Cond := u_ws RJ0 TJ0 0
theorem nmJ0 : ∀ a, a < 0 → ∀ b, b < 0 → a ≠ b → (TJ0 a).2.1 ≠ (TJ0 b).2.1 := by decide +kernel
theorem tyJ0_ok : ∀ k, k < 0 → parseFieldDescriptor (TJ0 k).2.2.1 = some (tyJ0 k) := by decide +kernel
def RL : String := "CausalGateLaw"
abbrev cL_offer : ByteArray := method_3_code
def yL_offer : MethodName := ⟨RL, "offer", "(LCausalGate;IIJI[J)I"⟩
abbrev cL_law : ByteArray := code
def yL_law : MethodName := ⟨RL, "law", "([I)Z"⟩
def wsX0_init : List Cond := .code yX0_init cX0_init 1 none :: ([.methodLink RX0 3 objectInit, .instanceMethod objectInit, .code objectInit ⟨#[0xb1]⟩ 1 none, .arrayClass .int, .fieldLink RX0 9 "CausalGate" "throughKeys" "[I", .fieldLink RX0 13 "CausalGate" "throughLabels" "[I", .fieldLink RX0 16 "CausalGate" "waitKeys" "[I", .arrayClass .long, .fieldLink RX0 19 "CausalGate" "waitClocks" "[J", .fieldLink RX0 23 "CausalGate" "waitLabels" "[I"] ++ wsX00)
def wsX0_clear : List Cond := .code yX0_clear cX0_clear 1 none :: ([.fieldLink RX0 26 "CausalGate" "throughCount" "I", .fieldLink RX0 30 "CausalGate" "waitCount" "I", .fieldLink RX0 33 "CausalGate" "gateClock" "J", .fieldLink RX0 37 "CausalGate" "knownOffers" "I", .fieldLink RX0 40 "CausalGate" "mostWaited" "I"] ++ wsX00)
def wsX0_isActor : List Cond := .code yX0_isActor cX0_isActor 1 (some .boolean) :: ([])
def wsX0_isSeq : List Cond := .code yX0_isSeq cX0_isSeq 1 (some .boolean) :: ([])
def wsX0_keyOf : List Cond := .code yX0_keyOf cX0_keyOf 2 (some .int) :: ([])
def wsX0_seqOf : List Cond := .code yX0_seqOf cX0_seqOf 1 (some .int) :: ([])
def wsX0_actorOf : List Cond := .code yX0_actorOf cX0_actorOf 1 (some .int) :: ([])
def wsX0_byteOf : List Cond := .code yX0_byteOf cX0_byteOf 3 (some .int) :: ([])
def wsX0_nextSeq : List Cond := .code yX0_nextSeq cX0_nextSeq 2 (some .int) :: ([.fieldLink RX0 33 "CausalGate" "gateClock" "J", .methodLink RX0 105 yX0_byteOf, .static yX0_byteOf, .initialized RX0, .code yX0_byteOf cX0_byteOf 3 (some .int)] ++ wsX00)
def wsX0_isKnown : List Cond := .code yX0_isKnown cX0_isKnown 3 (some .boolean) :: ([.fieldLink RX0 30 "CausalGate" "waitCount" "I", .fieldLink RX0 16 "CausalGate" "waitKeys" "[I", .methodLink RX0 95 yX0_seqOf, .static yX0_seqOf, .initialized RX0, .code yX0_seqOf cX0_seqOf 1 (some .int), .methodLink RX0 91 yX0_actorOf, .static yX0_actorOf, .code yX0_actorOf cX0_actorOf 1 (some .int), .methodLink RX0 102 yX0_nextSeq, .instanceMethod yX0_nextSeq, .selects RX0 yX0_nextSeq yX0_nextSeq, .code yX0_nextSeq cX0_nextSeq 2 (some .int), .fieldLink RX0 33 "CausalGate" "gateClock" "J", .methodLink RX0 105 yX0_byteOf, .static yX0_byteOf, .code yX0_byteOf cX0_byteOf 3 (some .int)] ++ wsX00)
def wsX0_lackedActor : List Cond := .code yX0_lackedActor cX0_lackedActor 6 (some .int) :: ([.fieldLink RX0 33 "CausalGate" "gateClock" "J", .methodLink RX0 91 yX0_actorOf, .static yX0_actorOf, .initialized RX0, .code yX0_actorOf cX0_actorOf 1 (some .int), .methodLink RX0 95 yX0_seqOf, .static yX0_seqOf, .code yX0_seqOf cX0_seqOf 1 (some .int), .methodLink RX0 102 yX0_nextSeq, .instanceMethod yX0_nextSeq, .selects RX0 yX0_nextSeq yX0_nextSeq, .code yX0_nextSeq cX0_nextSeq 2 (some .int), .methodLink RX0 105 yX0_byteOf, .static yX0_byteOf, .code yX0_byteOf cX0_byteOf 3 (some .int)] ++ wsX00)
def wsX0_canComeThrough : List Cond := .code yX0_canComeThrough cX0_canComeThrough 4 (some .boolean) :: ([.fieldLink RX0 26 "CausalGate" "throughCount" "I", .methodLink RX0 98 yX0_lackedActor, .instanceMethod yX0_lackedActor, .selects RX0 yX0_lackedActor yX0_lackedActor, .initialized RX0, .code yX0_lackedActor cX0_lackedActor 6 (some .int), .fieldLink RX0 33 "CausalGate" "gateClock" "J", .methodLink RX0 91 yX0_actorOf, .static yX0_actorOf, .code yX0_actorOf cX0_actorOf 1 (some .int), .methodLink RX0 95 yX0_seqOf, .static yX0_seqOf, .code yX0_seqOf cX0_seqOf 1 (some .int), .methodLink RX0 102 yX0_nextSeq, .instanceMethod yX0_nextSeq, .selects RX0 yX0_nextSeq yX0_nextSeq, .code yX0_nextSeq cX0_nextSeq 2 (some .int), .methodLink RX0 105 yX0_byteOf, .static yX0_byteOf, .code yX0_byteOf cX0_byteOf 3 (some .int)] ++ wsX00)
def wsX0_moveWaiting : List Cond := .code yX0_moveWaiting cX0_moveWaiting 3 none :: ([.fieldLink RX0 16 "CausalGate" "waitKeys" "[I", .fieldLink RX0 19 "CausalGate" "waitClocks" "[J", .fieldLink RX0 23 "CausalGate" "waitLabels" "[I"] ++ wsX00)
def wsX0_insertWaiting : List Cond := .code yX0_insertWaiting cX0_insertWaiting 6 none :: ([.fieldLink RX0 30 "CausalGate" "waitCount" "I", .fieldLink RX0 16 "CausalGate" "waitKeys" "[I", .fieldLink RX0 19 "CausalGate" "waitClocks" "[J", .fieldLink RX0 23 "CausalGate" "waitLabels" "[I", .methodLink RX0 109 yX0_moveWaiting, .instanceMethod yX0_moveWaiting, .selects RX0 yX0_moveWaiting yX0_moveWaiting, .initialized RX0, .code yX0_moveWaiting cX0_moveWaiting 3 none] ++ wsX00)
def wsX0_firstThatCanComeThrough_r1 : List Cond := [Cond.fieldLink RX0 30 "CausalGate" "waitCount" "I", Cond.fieldLink RX0 16 "CausalGate" "waitKeys" "[I", Cond.fieldLink RX0 19 "CausalGate" "waitClocks" "[J", Cond.methodLink RX0 64 yX0_canComeThrough, Cond.instanceMethod yX0_canComeThrough, Cond.selects RX0 yX0_canComeThrough yX0_canComeThrough, Cond.initialized RX0, Cond.code yX0_canComeThrough cX0_canComeThrough 4 (some .boolean), Cond.fieldLink RX0 26 "CausalGate" "throughCount" "I", Cond.methodLink RX0 98 yX0_lackedActor, Cond.instanceMethod yX0_lackedActor, Cond.selects RX0 yX0_lackedActor yX0_lackedActor, Cond.code yX0_lackedActor cX0_lackedActor 6 (some .int), Cond.fieldLink RX0 33 "CausalGate" "gateClock" "J", Cond.methodLink RX0 91 yX0_actorOf, Cond.static yX0_actorOf, Cond.code yX0_actorOf cX0_actorOf 1 (some .int), Cond.methodLink RX0 95 yX0_seqOf, Cond.static yX0_seqOf, Cond.code yX0_seqOf cX0_seqOf 1 (some .int), Cond.methodLink RX0 102 yX0_nextSeq, Cond.instanceMethod yX0_nextSeq, Cond.selects RX0 yX0_nextSeq yX0_nextSeq, Cond.code yX0_nextSeq cX0_nextSeq 2 (some .int)]
def wsX0_firstThatCanComeThrough_r2 : List Cond := [Cond.methodLink RX0 105 yX0_byteOf, Cond.static yX0_byteOf, Cond.code yX0_byteOf cX0_byteOf 3 (some .int)]
def wsX0_firstThatCanComeThrough : List Cond := .code yX0_firstThatCanComeThrough cX0_firstThatCanComeThrough 2 (some .int) :: ((wsX0_firstThatCanComeThrough_r1 ++ wsX0_firstThatCanComeThrough_r2) ++ wsX00)
def wsX0_removeWaiting : List Cond := .code yX0_removeWaiting cX0_removeWaiting 3 none :: ([.fieldLink RX0 30 "CausalGate" "waitCount" "I", .methodLink RX0 109 yX0_moveWaiting, .instanceMethod yX0_moveWaiting, .selects RX0 yX0_moveWaiting yX0_moveWaiting, .initialized RX0, .code yX0_moveWaiting cX0_moveWaiting 3 none, .fieldLink RX0 16 "CausalGate" "waitKeys" "[I", .fieldLink RX0 19 "CausalGate" "waitClocks" "[J", .fieldLink RX0 23 "CausalGate" "waitLabels" "[I"] ++ wsX00)
def wsX0_letThrough : List Cond := .code yX0_letThrough cX0_letThrough 2 none :: ([.fieldLink RX0 9 "CausalGate" "throughKeys" "[I", .fieldLink RX0 26 "CausalGate" "throughCount" "I", .fieldLink RX0 16 "CausalGate" "waitKeys" "[I", .fieldLink RX0 13 "CausalGate" "throughLabels" "[I", .fieldLink RX0 23 "CausalGate" "waitLabels" "[I", .fieldLink RX0 33 "CausalGate" "gateClock" "J", .methodLink RX0 91 yX0_actorOf, .static yX0_actorOf, .initialized RX0, .code yX0_actorOf cX0_actorOf 1 (some .int), .methodLink RX0 120 yX0_removeWaiting, .instanceMethod yX0_removeWaiting, .selects RX0 yX0_removeWaiting yX0_removeWaiting, .code yX0_removeWaiting cX0_removeWaiting 3 none, .fieldLink RX0 30 "CausalGate" "waitCount" "I", .methodLink RX0 109 yX0_moveWaiting, .instanceMethod yX0_moveWaiting, .selects RX0 yX0_moveWaiting yX0_moveWaiting, .code yX0_moveWaiting cX0_moveWaiting 3 none, .fieldLink RX0 19 "CausalGate" "waitClocks" "[J"] ++ wsX00)
def wsX0_letThroughAllThatCan_r1 : List Cond := [Cond.methodLink RX0 113 yX0_firstThatCanComeThrough, Cond.instanceMethod yX0_firstThatCanComeThrough, Cond.selects RX0 yX0_firstThatCanComeThrough yX0_firstThatCanComeThrough, Cond.initialized RX0, Cond.code yX0_firstThatCanComeThrough cX0_firstThatCanComeThrough 2 (some .int), Cond.fieldLink RX0 30 "CausalGate" "waitCount" "I", Cond.fieldLink RX0 16 "CausalGate" "waitKeys" "[I", Cond.fieldLink RX0 19 "CausalGate" "waitClocks" "[J", Cond.methodLink RX0 64 yX0_canComeThrough, Cond.instanceMethod yX0_canComeThrough, Cond.selects RX0 yX0_canComeThrough yX0_canComeThrough, Cond.code yX0_canComeThrough cX0_canComeThrough 4 (some .boolean), Cond.fieldLink RX0 26 "CausalGate" "throughCount" "I", Cond.methodLink RX0 98 yX0_lackedActor, Cond.instanceMethod yX0_lackedActor, Cond.selects RX0 yX0_lackedActor yX0_lackedActor, Cond.code yX0_lackedActor cX0_lackedActor 6 (some .int), Cond.fieldLink RX0 33 "CausalGate" "gateClock" "J", Cond.methodLink RX0 91 yX0_actorOf, Cond.static yX0_actorOf, Cond.code yX0_actorOf cX0_actorOf 1 (some .int), Cond.methodLink RX0 95 yX0_seqOf, Cond.static yX0_seqOf, Cond.code yX0_seqOf cX0_seqOf 1 (some .int)]
def wsX0_letThroughAllThatCan_r2 : List Cond := [Cond.methodLink RX0 102 yX0_nextSeq, Cond.instanceMethod yX0_nextSeq, Cond.selects RX0 yX0_nextSeq yX0_nextSeq, Cond.code yX0_nextSeq cX0_nextSeq 2 (some .int), Cond.methodLink RX0 105 yX0_byteOf, Cond.static yX0_byteOf, Cond.code yX0_byteOf cX0_byteOf 3 (some .int), Cond.methodLink RX0 116 yX0_letThrough, Cond.instanceMethod yX0_letThrough, Cond.selects RX0 yX0_letThrough yX0_letThrough, Cond.code yX0_letThrough cX0_letThrough 2 none, Cond.fieldLink RX0 9 "CausalGate" "throughKeys" "[I", Cond.fieldLink RX0 13 "CausalGate" "throughLabels" "[I", Cond.fieldLink RX0 23 "CausalGate" "waitLabels" "[I", Cond.methodLink RX0 120 yX0_removeWaiting, Cond.instanceMethod yX0_removeWaiting, Cond.selects RX0 yX0_removeWaiting yX0_removeWaiting, Cond.code yX0_removeWaiting cX0_removeWaiting 3 none, Cond.methodLink RX0 109 yX0_moveWaiting, Cond.instanceMethod yX0_moveWaiting, Cond.selects RX0 yX0_moveWaiting yX0_moveWaiting, Cond.code yX0_moveWaiting cX0_moveWaiting 3 none]
def wsX0_letThroughAllThatCan : List Cond := .code yX0_letThroughAllThatCan cX0_letThroughAllThatCan 3 (some .int) :: ((wsX0_letThroughAllThatCan_r1 ++ wsX0_letThroughAllThatCan_r2) ++ wsX00)
def wsX0_offer_r1 : List Cond := [Cond.classLink RX0 50 "java/lang/IllegalArgumentException", Cond.initialized "java/lang/IllegalArgumentException", Cond.classLink RX0 68 "java/lang/IllegalStateException", Cond.initialized "java/lang/IllegalStateException", Cond.fieldLink RX0 37 "CausalGate" "knownOffers" "I", Cond.fieldLink RX0 30 "CausalGate" "waitCount" "I", Cond.fieldLink RX0 40 "CausalGate" "mostWaited" "I", Cond.methodLink RX0 81 Lib.Math.max.name, Cond.static Lib.Math.max.name, Cond.initialized "java/lang/Math", Cond.code Lib.Math.max.name Lib.Math.max.code 2 (some .int), Cond.methodLink RX0 43 yX0_isActor, Cond.static yX0_isActor, Cond.initialized RX0, Cond.code yX0_isActor cX0_isActor 1 (some .boolean), Cond.methodLink RX0 47 yX0_isSeq, Cond.static yX0_isSeq, Cond.code yX0_isSeq cX0_isSeq 1 (some .boolean), Cond.methodLink RX0 57 yX0_keyOf, Cond.static yX0_keyOf, Cond.code yX0_keyOf cX0_keyOf 2 (some .int), Cond.methodLink RX0 61 yX0_isKnown, Cond.instanceMethod yX0_isKnown, Cond.selects RX0 yX0_isKnown yX0_isKnown]
def wsX0_offer_r2 : List Cond := [Cond.code yX0_isKnown cX0_isKnown 3 (some .boolean), Cond.fieldLink RX0 16 "CausalGate" "waitKeys" "[I", Cond.methodLink RX0 95 yX0_seqOf, Cond.static yX0_seqOf, Cond.code yX0_seqOf cX0_seqOf 1 (some .int), Cond.methodLink RX0 91 yX0_actorOf, Cond.static yX0_actorOf, Cond.code yX0_actorOf cX0_actorOf 1 (some .int), Cond.methodLink RX0 102 yX0_nextSeq, Cond.instanceMethod yX0_nextSeq, Cond.selects RX0 yX0_nextSeq yX0_nextSeq, Cond.code yX0_nextSeq cX0_nextSeq 2 (some .int), Cond.fieldLink RX0 33 "CausalGate" "gateClock" "J", Cond.methodLink RX0 105 yX0_byteOf, Cond.static yX0_byteOf, Cond.code yX0_byteOf cX0_byteOf 3 (some .int), Cond.methodLink RX0 64 yX0_canComeThrough, Cond.instanceMethod yX0_canComeThrough, Cond.selects RX0 yX0_canComeThrough yX0_canComeThrough, Cond.code yX0_canComeThrough cX0_canComeThrough 4 (some .boolean), Cond.fieldLink RX0 26 "CausalGate" "throughCount" "I", Cond.methodLink RX0 98 yX0_lackedActor, Cond.instanceMethod yX0_lackedActor, Cond.selects RX0 yX0_lackedActor yX0_lackedActor]
def wsX0_offer_r3 : List Cond := [Cond.code yX0_lackedActor cX0_lackedActor 6 (some .int), Cond.methodLink RX0 73 yX0_insertWaiting, Cond.instanceMethod yX0_insertWaiting, Cond.selects RX0 yX0_insertWaiting yX0_insertWaiting, Cond.code yX0_insertWaiting cX0_insertWaiting 6 none, Cond.fieldLink RX0 19 "CausalGate" "waitClocks" "[J", Cond.fieldLink RX0 23 "CausalGate" "waitLabels" "[I", Cond.methodLink RX0 109 yX0_moveWaiting, Cond.instanceMethod yX0_moveWaiting, Cond.selects RX0 yX0_moveWaiting yX0_moveWaiting, Cond.code yX0_moveWaiting cX0_moveWaiting 3 none, Cond.methodLink RX0 77 yX0_letThroughAllThatCan, Cond.instanceMethod yX0_letThroughAllThatCan, Cond.selects RX0 yX0_letThroughAllThatCan yX0_letThroughAllThatCan, Cond.code yX0_letThroughAllThatCan cX0_letThroughAllThatCan 3 (some .int), Cond.methodLink RX0 113 yX0_firstThatCanComeThrough, Cond.instanceMethod yX0_firstThatCanComeThrough, Cond.selects RX0 yX0_firstThatCanComeThrough yX0_firstThatCanComeThrough, Cond.code yX0_firstThatCanComeThrough cX0_firstThatCanComeThrough 2 (some .int), Cond.methodLink RX0 116 yX0_letThrough, Cond.instanceMethod yX0_letThrough, Cond.selects RX0 yX0_letThrough yX0_letThrough, Cond.code yX0_letThrough cX0_letThrough 2 none, Cond.fieldLink RX0 9 "CausalGate" "throughKeys" "[I"]
def wsX0_offer_r4 : List Cond := [Cond.fieldLink RX0 13 "CausalGate" "throughLabels" "[I", Cond.methodLink RX0 120 yX0_removeWaiting, Cond.instanceMethod yX0_removeWaiting, Cond.selects RX0 yX0_removeWaiting yX0_removeWaiting, Cond.code yX0_removeWaiting cX0_removeWaiting 3 none]
def wsX0_offer : List Cond := .code yX0_offer cX0_offer 8 (some .int) :: ((wsX0_offer_r1 ++ (wsX0_offer_r2 ++ (wsX0_offer_r3 ++ wsX0_offer_r4))) ++ wsX00 ++ (vx_atS RX0 54 "java/lang/IllegalArgumentException" ["java/lang/RuntimeException", "java/lang/Exception"]).filter goodWord ++ (vx_atS RX0 72 "java/lang/IllegalStateException" ["java/lang/RuntimeException", "java/lang/Exception"]).filter goodWord)
def wsX0_known_r1 : List Cond := [Cond.methodLink RX0 43 yX0_isActor, Cond.static yX0_isActor, Cond.initialized RX0, Cond.code yX0_isActor cX0_isActor 1 (some .boolean), Cond.methodLink RX0 47 yX0_isSeq, Cond.static yX0_isSeq, Cond.code yX0_isSeq cX0_isSeq 1 (some .boolean), Cond.methodLink RX0 57 yX0_keyOf, Cond.static yX0_keyOf, Cond.code yX0_keyOf cX0_keyOf 2 (some .int), Cond.methodLink RX0 61 yX0_isKnown, Cond.instanceMethod yX0_isKnown, Cond.selects RX0 yX0_isKnown yX0_isKnown, Cond.code yX0_isKnown cX0_isKnown 3 (some .boolean), Cond.fieldLink RX0 30 "CausalGate" "waitCount" "I", Cond.fieldLink RX0 16 "CausalGate" "waitKeys" "[I", Cond.methodLink RX0 95 yX0_seqOf, Cond.static yX0_seqOf, Cond.code yX0_seqOf cX0_seqOf 1 (some .int), Cond.methodLink RX0 91 yX0_actorOf, Cond.static yX0_actorOf, Cond.code yX0_actorOf cX0_actorOf 1 (some .int), Cond.methodLink RX0 102 yX0_nextSeq, Cond.instanceMethod yX0_nextSeq]
def wsX0_known_r2 : List Cond := [Cond.selects RX0 yX0_nextSeq yX0_nextSeq, Cond.code yX0_nextSeq cX0_nextSeq 2 (some .int), Cond.fieldLink RX0 33 "CausalGate" "gateClock" "J", Cond.methodLink RX0 105 yX0_byteOf, Cond.static yX0_byteOf, Cond.code yX0_byteOf cX0_byteOf 3 (some .int)]
def wsX0_known : List Cond := .code yX0_known cX0_known 3 (some .boolean) :: ((wsX0_known_r1 ++ wsX0_known_r2) ++ wsX00)
def wsX0_clock : List Cond := .code yX0_clock cX0_clock 1 (some .long) :: ([.fieldLink RX0 33 "CausalGate" "gateClock" "J"] ++ wsX00)
def wsX0_ahead : List Cond := .code yX0_ahead cX0_ahead 5 (some .int) :: ([.fieldLink RX0 33 "CausalGate" "gateClock" "J", .methodLink RX0 81 Lib.Math.max.name, .static Lib.Math.max.name, .initialized "java/lang/Math", .code Lib.Math.max.name Lib.Math.max.code 2 (some .int), .methodLink RX0 105 yX0_byteOf, .static yX0_byteOf, .initialized RX0, .code yX0_byteOf cX0_byteOf 3 (some .int)] ++ wsX00)
def wsX0_next : List Cond := .code yX0_next cX0_next 6 (some .int) :: ([.fieldLink RX0 26 "CausalGate" "throughCount" "I", .methodLink RX0 81 Lib.Math.max.name, .static Lib.Math.max.name, .initialized "java/lang/Math", .code Lib.Math.max.name Lib.Math.max.code 2 (some .int), .fieldLink RX0 9 "CausalGate" "throughKeys" "[I", .methodLink RX0 95 yX0_seqOf, .static yX0_seqOf, .initialized RX0, .code yX0_seqOf cX0_seqOf 1 (some .int), .methodLink RX0 91 yX0_actorOf, .static yX0_actorOf, .code yX0_actorOf cX0_actorOf 1 (some .int), .methodLink RX0 105 yX0_byteOf, .static yX0_byteOf, .code yX0_byteOf cX0_byteOf 3 (some .int)] ++ wsX00)
def wsX0_compare : List Cond := .code yX0_compare cX0_compare 8 (some .int) :: ([.fieldLink RX0 33 "CausalGate" "gateClock" "J", .methodLink RX0 105 yX0_byteOf, .static yX0_byteOf, .initialized RX0, .code yX0_byteOf cX0_byteOf 3 (some .int)] ++ wsX00)
def wsX0_forget : List Cond := .code yX0_forget cX0_forget 4 (some .int) :: ([.fieldLink RX0 30 "CausalGate" "waitCount" "I", .fieldLink RX0 16 "CausalGate" "waitKeys" "[I", .methodLink RX0 91 yX0_actorOf, .static yX0_actorOf, .initialized RX0, .code yX0_actorOf cX0_actorOf 1 (some .int), .methodLink RX0 109 yX0_moveWaiting, .instanceMethod yX0_moveWaiting, .selects RX0 yX0_moveWaiting yX0_moveWaiting, .code yX0_moveWaiting cX0_moveWaiting 3 none, .fieldLink RX0 19 "CausalGate" "waitClocks" "[J", .fieldLink RX0 23 "CausalGate" "waitLabels" "[I"] ++ wsX00)
def wsX0_look : List Cond := .code yX0_look cX0_look 2 (some .int) :: ([.fieldLink RX0 26 "CausalGate" "throughCount" "I", .fieldLink RX0 30 "CausalGate" "waitCount" "I", .fieldLink RX0 37 "CausalGate" "knownOffers" "I", .fieldLink RX0 40 "CausalGate" "mostWaited" "I"] ++ wsX00)
def wsL_offer_r1 : List Cond := [Cond.classLink RL 13 "java/lang/IllegalArgumentException", Cond.classLink RL 15 "java/lang/IllegalStateException", Cond.methodLink RL 7 yX0_offer, Cond.instanceMethod yX0_offer, Cond.selects RX0 yX0_offer yX0_offer, Cond.initialized RX0, Cond.code yX0_offer cX0_offer 8 (some .int), Cond.classLink RX0 50 "java/lang/IllegalArgumentException", Cond.initialized "java/lang/IllegalArgumentException", Cond.classLink RX0 68 "java/lang/IllegalStateException", Cond.initialized "java/lang/IllegalStateException", Cond.fieldLink RX0 37 "CausalGate" "knownOffers" "I", Cond.fieldLink RX0 30 "CausalGate" "waitCount" "I", Cond.fieldLink RX0 40 "CausalGate" "mostWaited" "I", Cond.methodLink RX0 81 Lib.Math.max.name, Cond.static Lib.Math.max.name, Cond.initialized "java/lang/Math", Cond.code Lib.Math.max.name Lib.Math.max.code 2 (some .int), Cond.methodLink RX0 43 yX0_isActor, Cond.static yX0_isActor, Cond.code yX0_isActor cX0_isActor 1 (some .boolean), Cond.methodLink RX0 47 yX0_isSeq, Cond.static yX0_isSeq, Cond.code yX0_isSeq cX0_isSeq 1 (some .boolean)]
def wsL_offer_r2 : List Cond := [Cond.methodLink RX0 57 yX0_keyOf, Cond.static yX0_keyOf, Cond.code yX0_keyOf cX0_keyOf 2 (some .int), Cond.methodLink RX0 61 yX0_isKnown, Cond.instanceMethod yX0_isKnown, Cond.selects RX0 yX0_isKnown yX0_isKnown, Cond.code yX0_isKnown cX0_isKnown 3 (some .boolean), Cond.fieldLink RX0 16 "CausalGate" "waitKeys" "[I", Cond.methodLink RX0 95 yX0_seqOf, Cond.static yX0_seqOf, Cond.code yX0_seqOf cX0_seqOf 1 (some .int), Cond.methodLink RX0 91 yX0_actorOf, Cond.static yX0_actorOf, Cond.code yX0_actorOf cX0_actorOf 1 (some .int), Cond.methodLink RX0 102 yX0_nextSeq, Cond.instanceMethod yX0_nextSeq, Cond.selects RX0 yX0_nextSeq yX0_nextSeq, Cond.code yX0_nextSeq cX0_nextSeq 2 (some .int), Cond.fieldLink RX0 33 "CausalGate" "gateClock" "J", Cond.methodLink RX0 105 yX0_byteOf, Cond.static yX0_byteOf, Cond.code yX0_byteOf cX0_byteOf 3 (some .int), Cond.methodLink RX0 64 yX0_canComeThrough, Cond.instanceMethod yX0_canComeThrough]
def wsL_offer_r3 : List Cond := [Cond.selects RX0 yX0_canComeThrough yX0_canComeThrough, Cond.code yX0_canComeThrough cX0_canComeThrough 4 (some .boolean), Cond.fieldLink RX0 26 "CausalGate" "throughCount" "I", Cond.methodLink RX0 98 yX0_lackedActor, Cond.instanceMethod yX0_lackedActor, Cond.selects RX0 yX0_lackedActor yX0_lackedActor, Cond.code yX0_lackedActor cX0_lackedActor 6 (some .int), Cond.methodLink RX0 73 yX0_insertWaiting, Cond.instanceMethod yX0_insertWaiting, Cond.selects RX0 yX0_insertWaiting yX0_insertWaiting, Cond.code yX0_insertWaiting cX0_insertWaiting 6 none, Cond.fieldLink RX0 19 "CausalGate" "waitClocks" "[J", Cond.fieldLink RX0 23 "CausalGate" "waitLabels" "[I", Cond.methodLink RX0 109 yX0_moveWaiting, Cond.instanceMethod yX0_moveWaiting, Cond.selects RX0 yX0_moveWaiting yX0_moveWaiting, Cond.code yX0_moveWaiting cX0_moveWaiting 3 none, Cond.methodLink RX0 77 yX0_letThroughAllThatCan, Cond.instanceMethod yX0_letThroughAllThatCan, Cond.selects RX0 yX0_letThroughAllThatCan yX0_letThroughAllThatCan, Cond.code yX0_letThroughAllThatCan cX0_letThroughAllThatCan 3 (some .int), Cond.methodLink RX0 113 yX0_firstThatCanComeThrough, Cond.instanceMethod yX0_firstThatCanComeThrough, Cond.selects RX0 yX0_firstThatCanComeThrough yX0_firstThatCanComeThrough]
def wsL_offer_r4 : List Cond := [Cond.code yX0_firstThatCanComeThrough cX0_firstThatCanComeThrough 2 (some .int), Cond.methodLink RX0 116 yX0_letThrough, Cond.instanceMethod yX0_letThrough, Cond.selects RX0 yX0_letThrough yX0_letThrough, Cond.code yX0_letThrough cX0_letThrough 2 none, Cond.fieldLink RX0 9 "CausalGate" "throughKeys" "[I", Cond.fieldLink RX0 13 "CausalGate" "throughLabels" "[I", Cond.methodLink RX0 120 yX0_removeWaiting, Cond.instanceMethod yX0_removeWaiting, Cond.selects RX0 yX0_removeWaiting yX0_removeWaiting, Cond.code yX0_removeWaiting cX0_removeWaiting 3 none]
def wsL_offer : List Cond := .codeWith yL_offer cL_offer 8 (some .int) [(0, 14, 17, 13), (0, 14, 21, 15)] :: ((wsL_offer_r1 ++ (wsL_offer_r2 ++ (wsL_offer_r3 ++ wsL_offer_r4))) ++ wsX00 ++ (vx_atS RX0 54 "java/lang/IllegalArgumentException" ["java/lang/RuntimeException", "java/lang/Exception"]).filter goodWord ++ (vx_atS RX0 72 "java/lang/IllegalStateException" ["java/lang/RuntimeException", "java/lang/Exception"]).filter goodWord)
theorem dX0_init_0 : decode cX0_init 0 = .ok (.aload_n 0, 1) := by decide +kernel
theorem dX0_init_1 : decode cX0_init 1 = .ok (.invokespecial 3, 3) := by decide +kernel
theorem dX0_init_4 : decode cX0_init 4 = .ok (.aload_n 0, 1) := by decide +kernel
theorem dX0_init_5 : decode cX0_init 5 = .ok (.sipush 512, 3) := by decide +kernel
theorem dX0_init_8 : decode cX0_init 8 = .ok (.newarray .int, 2) := by decide +kernel
theorem dX0_init_10 : decode cX0_init 10 = .ok (.putfield 9, 3) := by decide +kernel
theorem dX0_init_13 : decode cX0_init 13 = .ok (.aload_n 0, 1) := by decide +kernel
theorem dX0_init_14 : decode cX0_init 14 = .ok (.sipush 512, 3) := by decide +kernel
theorem dX0_init_17 : decode cX0_init 17 = .ok (.newarray .int, 2) := by decide +kernel
theorem dX0_init_19 : decode cX0_init 19 = .ok (.putfield 13, 3) := by decide +kernel
theorem dX0_init_22 : decode cX0_init 22 = .ok (.aload_n 0, 1) := by decide +kernel
theorem dX0_init_23 : decode cX0_init 23 = .ok (.bipush 65, 2) := by decide +kernel
theorem dX0_init_25 : decode cX0_init 25 = .ok (.newarray .int, 2) := by decide +kernel
theorem dX0_init_27 : decode cX0_init 27 = .ok (.putfield 16, 3) := by decide +kernel
theorem dX0_init_30 : decode cX0_init 30 = .ok (.aload_n 0, 1) := by decide +kernel
theorem dX0_init_31 : decode cX0_init 31 = .ok (.bipush 65, 2) := by decide +kernel
theorem dX0_init_33 : decode cX0_init 33 = .ok (.newarray .long, 2) := by decide +kernel
theorem dX0_init_35 : decode cX0_init 35 = .ok (.putfield 19, 3) := by decide +kernel
theorem dX0_init_38 : decode cX0_init 38 = .ok (.aload_n 0, 1) := by decide +kernel
theorem dX0_init_39 : decode cX0_init 39 = .ok (.bipush 65, 2) := by decide +kernel
theorem dX0_init_41 : decode cX0_init 41 = .ok (.newarray .int, 2) := by decide +kernel
theorem dX0_init_43 : decode cX0_init 43 = .ok (.putfield 23, 3) := by decide +kernel
theorem dX0_init_46 : decode cX0_init 46 = .ok (.return_, 1) := by decide +kernel
theorem dX0_clear_0 : decode cX0_clear 0 = .ok (.aload_n 0, 1) := by decide +kernel
theorem dX0_clear_1 : decode cX0_clear 1 = .ok (.iconst 0, 1) := by decide +kernel
theorem dX0_clear_2 : decode cX0_clear 2 = .ok (.putfield 26, 3) := by decide +kernel
theorem dX0_clear_5 : decode cX0_clear 5 = .ok (.aload_n 0, 1) := by decide +kernel
theorem dX0_clear_6 : decode cX0_clear 6 = .ok (.iconst 0, 1) := by decide +kernel
theorem dX0_clear_7 : decode cX0_clear 7 = .ok (.putfield 30, 3) := by decide +kernel
theorem dX0_clear_10 : decode cX0_clear 10 = .ok (.aload_n 0, 1) := by decide +kernel
theorem dX0_clear_11 : decode cX0_clear 11 = .ok (.lconst 0, 1) := by decide +kernel
theorem dX0_clear_12 : decode cX0_clear 12 = .ok (.putfield 33, 3) := by decide +kernel
theorem dX0_clear_15 : decode cX0_clear 15 = .ok (.aload_n 0, 1) := by decide +kernel
theorem dX0_clear_16 : decode cX0_clear 16 = .ok (.iconst 0, 1) := by decide +kernel
theorem dX0_clear_17 : decode cX0_clear 17 = .ok (.putfield 37, 3) := by decide +kernel
theorem dX0_clear_20 : decode cX0_clear 20 = .ok (.aload_n 0, 1) := by decide +kernel
theorem dX0_clear_21 : decode cX0_clear 21 = .ok (.iconst 0, 1) := by decide +kernel
theorem dX0_clear_22 : decode cX0_clear 22 = .ok (.putfield 40, 3) := by decide +kernel
theorem dX0_clear_25 : decode cX0_clear 25 = .ok (.return_, 1) := by decide +kernel
set_option maxRecDepth 20000 in
theorem ggX0_offer_X0_isActor : GoodIn wsX0_offer wsX0_isActor := goodIn_r _ [15] (by decide +kernel) (by decide +kernel)
set_option maxRecDepth 20000 in
theorem gX0_offer_X0_isActor : GoodIn wsX0_offer (va_wsS RX0 43 yX0_isActor wsX0_isActor) := goodIn_app (goodIn_of _ (by decide +kernel)) ggX0_offer_X0_isActor
set_option maxRecDepth 20000 in
theorem ggX0_offer_X0_isSeq : GoodIn wsX0_offer wsX0_isSeq := goodIn_r _ [18] (by decide +kernel) (by decide +kernel)
set_option maxRecDepth 20000 in
theorem gX0_offer_X0_isSeq : GoodIn wsX0_offer (va_wsS RX0 47 yX0_isSeq wsX0_isSeq) := goodIn_app (goodIn_of _ (by decide +kernel)) ggX0_offer_X0_isSeq
set_option maxRecDepth 20000 in
theorem ggX0_offer_X0_keyOf : GoodIn wsX0_offer wsX0_keyOf := goodIn_r _ [21] (by decide +kernel) (by decide +kernel)
set_option maxRecDepth 20000 in
theorem gX0_offer_X0_keyOf : GoodIn wsX0_offer (va_wsS RX0 57 yX0_keyOf wsX0_keyOf) := goodIn_app (goodIn_of _ (by decide +kernel)) ggX0_offer_X0_keyOf
set_option maxRecDepth 20000 in
theorem ggX0_offer_X0_isKnown : GoodIn wsX0_offer wsX0_isKnown := goodIn_r _ [25, 6, 26, 27, 28, 14, 29, 30, 31, 32, 33, 34, 35, 36, 37, 38, 39, 40, 78, 79, 80, 81, 82, 83, 84, 85, 86, 87] (by decide +kernel) (by decide +kernel)
set_option maxRecDepth 20000 in
theorem gX0_offer_X0_isKnown : GoodIn wsX0_offer (wsV RX0 61 RX0 yX0_isKnown wsX0_isKnown) := goodIn_app (goodIn_of _ (by decide +kernel)) ggX0_offer_X0_isKnown
set_option maxRecDepth 20000 in
theorem ggX0_offer_X0_canComeThrough : GoodIn wsX0_offer wsX0_canComeThrough := goodIn_r _ [44, 45, 46, 47, 48, 14, 49, 37, 30, 31, 32, 27, 28, 29, 33, 34, 35, 36, 38, 39, 40, 78, 79, 80, 81, 82, 83, 84, 85, 86, 87] (by decide +kernel) (by decide +kernel)
set_option maxRecDepth 20000 in
theorem gX0_offer_X0_canComeThrough : GoodIn wsX0_offer (wsV RX0 64 RX0 yX0_canComeThrough wsX0_canComeThrough) := goodIn_app (goodIn_of _ (by decide +kernel)) ggX0_offer_X0_canComeThrough
set_option maxRecDepth 20000 in
theorem ggX0_offer_X0_insertWaiting : GoodIn wsX0_offer wsX0_insertWaiting := goodIn_r _ [53, 6, 26, 54, 55, 56, 57, 58, 14, 59, 78, 79, 80, 81, 82, 83, 84, 85, 86, 87] (by decide +kernel) (by decide +kernel)
set_option maxRecDepth 20000 in
theorem gX0_offer_X0_insertWaiting : GoodIn wsX0_offer (wsV RX0 73 RX0 yX0_insertWaiting wsX0_insertWaiting) := goodIn_app (goodIn_of _ (by decide +kernel)) ggX0_offer_X0_insertWaiting
set_option maxRecDepth 20000 in
theorem ggX0_offer_X0_letThroughAllThatCan : GoodIn wsX0_offer wsX0_letThroughAllThatCan := goodIn_r _ [63, 64, 65, 66, 14, 67, 6, 26, 54, 41, 42, 43, 44, 45, 46, 47, 48, 49, 37, 30, 31, 32, 27, 28, 29, 33, 34, 35, 36, 38, 39, 40, 68, 69, 70, 71, 72, 73, 55, 74, 75, 76, 77, 56, 57, 58, 59, 78, 79, 80, 81, 82, 83, 84, 85, 86, 87] (by decide +kernel) (by decide +kernel)
set_option maxRecDepth 20000 in
theorem gX0_offer_X0_letThroughAllThatCan : GoodIn wsX0_offer (wsV RX0 77 RX0 yX0_letThroughAllThatCan wsX0_letThroughAllThatCan) := goodIn_app (goodIn_of _ (by decide +kernel)) ggX0_offer_X0_letThroughAllThatCan
theorem dX0_offer_0 : decode cX0_offer 0 = .ok (.iload_n 1, 1) := by decide +kernel
theorem dX0_offer_1 : decode cX0_offer 1 = .ok (.invokestatic 43, 3) := by decide +kernel
theorem dX0_offer_4 : decode cX0_offer 4 = .ok (.ifCond .eq 10, 3) := by decide +kernel
theorem dX0_offer_7 : decode cX0_offer 7 = .ok (.iload_n 2, 1) := by decide +kernel
theorem dX0_offer_8 : decode cX0_offer 8 = .ok (.invokestatic 47, 3) := by decide +kernel
theorem dX0_offer_11 : decode cX0_offer 11 = .ok (.ifCond .ne 13, 3) := by decide +kernel
theorem dX0_offer_14 : decode cX0_offer 14 = .ok (.new 50, 3) := by decide +kernel
theorem dX0_offer_17 : decode cX0_offer 17 = .ok (.dup, 1) := by decide +kernel
theorem dX0_offer_18 : decode cX0_offer 18 = .ok (.ldc 52, 2) := by decide +kernel
theorem dX0_offer_20 : decode cX0_offer 20 = .ok (.invokespecial 54, 3) := by decide +kernel
theorem dX0_offer_23 : decode cX0_offer 23 = .ok (.athrow, 1) := by decide +kernel
theorem dX0_offer_24 : decode cX0_offer 24 = .ok (.iload_n 1, 1) := by decide +kernel
theorem dX0_offer_25 : decode cX0_offer 25 = .ok (.iload_n 2, 1) := by decide +kernel
theorem dX0_offer_26 : decode cX0_offer 26 = .ok (.invokestatic 57, 3) := by decide +kernel
theorem dX0_offer_29 : decode cX0_offer 29 = .ok (.istore 6, 2) := by decide +kernel
theorem dX0_offer_31 : decode cX0_offer 31 = .ok (.aload_n 0, 1) := by decide +kernel
theorem dX0_offer_32 : decode cX0_offer 32 = .ok (.iload 6, 2) := by decide +kernel
theorem dX0_offer_34 : decode cX0_offer 34 = .ok (.invokevirtual 61, 3) := by decide +kernel
theorem dX0_offer_37 : decode cX0_offer 37 = .ok (.ifCond .eq 15, 3) := by decide +kernel
theorem dX0_offer_40 : decode cX0_offer 40 = .ok (.aload_n 0, 1) := by decide +kernel
theorem dX0_offer_41 : decode cX0_offer 41 = .ok (.dup, 1) := by decide +kernel
theorem dX0_offer_42 : decode cX0_offer 42 = .ok (.getfield 37, 3) := by decide +kernel
theorem dX0_offer_45 : decode cX0_offer 45 = .ok (.iconst 1, 1) := by decide +kernel
theorem dX0_offer_46 : decode cX0_offer 46 = .ok (.iadd, 1) := by decide +kernel
theorem dX0_offer_47 : decode cX0_offer 47 = .ok (.putfield 37, 3) := by decide +kernel
theorem dX0_offer_50 : decode cX0_offer 50 = .ok (.iconst 0, 1) := by decide +kernel
theorem dX0_offer_51 : decode cX0_offer 51 = .ok (.ireturn, 1) := by decide +kernel
theorem dX0_offer_52 : decode cX0_offer 52 = .ok (.aload_n 0, 1) := by decide +kernel
theorem dX0_offer_53 : decode cX0_offer 53 = .ok (.getfield 30, 3) := by decide +kernel
theorem dX0_offer_56 : decode cX0_offer 56 = .ok (.bipush 64, 2) := by decide +kernel
theorem dX0_offer_58 : decode cX0_offer 58 = .ok (.if_icmp .lt 23, 3) := by decide +kernel
theorem dX0_offer_61 : decode cX0_offer 61 = .ok (.aload_n 0, 1) := by decide +kernel
theorem dX0_offer_62 : decode cX0_offer 62 = .ok (.iload 6, 2) := by decide +kernel
theorem dX0_offer_64 : decode cX0_offer 64 = .ok (.lload_n 3, 1) := by decide +kernel
theorem dX0_offer_65 : decode cX0_offer 65 = .ok (.invokevirtual 64, 3) := by decide +kernel
theorem dX0_offer_68 : decode cX0_offer 68 = .ok (.ifCond .ne 13, 3) := by decide +kernel
theorem dX0_offer_71 : decode cX0_offer 71 = .ok (.new 68, 3) := by decide +kernel
theorem dX0_offer_74 : decode cX0_offer 74 = .ok (.dup, 1) := by decide +kernel
theorem dX0_offer_75 : decode cX0_offer 75 = .ok (.ldc 70, 2) := by decide +kernel
theorem dX0_offer_77 : decode cX0_offer 77 = .ok (.invokespecial 72, 3) := by decide +kernel
theorem dX0_offer_80 : decode cX0_offer 80 = .ok (.athrow, 1) := by decide +kernel
theorem dX0_offer_81 : decode cX0_offer 81 = .ok (.aload_n 0, 1) := by decide +kernel
theorem dX0_offer_82 : decode cX0_offer 82 = .ok (.iload 6, 2) := by decide +kernel
theorem dX0_offer_84 : decode cX0_offer 84 = .ok (.lload_n 3, 1) := by decide +kernel
theorem dX0_offer_85 : decode cX0_offer 85 = .ok (.iload 5, 2) := by decide +kernel
theorem dX0_offer_87 : decode cX0_offer 87 = .ok (.invokevirtual 73, 3) := by decide +kernel
theorem dX0_offer_90 : decode cX0_offer 90 = .ok (.aload_n 0, 1) := by decide +kernel
theorem dX0_offer_91 : decode cX0_offer 91 = .ok (.invokevirtual 77, 3) := by decide +kernel
theorem dX0_offer_94 : decode cX0_offer 94 = .ok (.istore 7, 2) := by decide +kernel
theorem dX0_offer_96 : decode cX0_offer 96 = .ok (.aload_n 0, 1) := by decide +kernel
theorem dX0_offer_97 : decode cX0_offer 97 = .ok (.aload_n 0, 1) := by decide +kernel
theorem dX0_offer_98 : decode cX0_offer 98 = .ok (.getfield 40, 3) := by decide +kernel
theorem dX0_offer_101 : decode cX0_offer 101 = .ok (.aload_n 0, 1) := by decide +kernel
theorem dX0_offer_102 : decode cX0_offer 102 = .ok (.getfield 30, 3) := by decide +kernel
theorem dX0_offer_105 : decode cX0_offer 105 = .ok (.invokestatic 81, 3) := by decide +kernel
theorem dX0_offer_108 : decode cX0_offer 108 = .ok (.putfield 40, 3) := by decide +kernel
theorem dX0_offer_111 : decode cX0_offer 111 = .ok (.iload 7, 2) := by decide +kernel
theorem dX0_offer_113 : decode cX0_offer 113 = .ok (.ireturn, 1) := by decide +kernel
set_option maxRecDepth 20000 in
theorem ggX0_known_X0_isActor : GoodIn wsX0_known wsX0_isActor := goodIn_r _ [4] (by decide +kernel) (by decide +kernel)
set_option maxRecDepth 20000 in
theorem gX0_known_X0_isActor : GoodIn wsX0_known (va_wsS RX0 43 yX0_isActor wsX0_isActor) := goodIn_app (goodIn_of _ (by decide +kernel)) ggX0_known_X0_isActor
set_option maxRecDepth 20000 in
theorem ggX0_known_X0_isSeq : GoodIn wsX0_known wsX0_isSeq := goodIn_r _ [7] (by decide +kernel) (by decide +kernel)
set_option maxRecDepth 20000 in
theorem gX0_known_X0_isSeq : GoodIn wsX0_known (va_wsS RX0 47 yX0_isSeq wsX0_isSeq) := goodIn_app (goodIn_of _ (by decide +kernel)) ggX0_known_X0_isSeq
set_option maxRecDepth 20000 in
theorem ggX0_known_X0_keyOf : GoodIn wsX0_known wsX0_keyOf := goodIn_r _ [10] (by decide +kernel) (by decide +kernel)
set_option maxRecDepth 20000 in
theorem gX0_known_X0_keyOf : GoodIn wsX0_known (va_wsS RX0 57 yX0_keyOf wsX0_keyOf) := goodIn_app (goodIn_of _ (by decide +kernel)) ggX0_known_X0_keyOf
set_option maxRecDepth 20000 in
theorem ggX0_known_X0_isKnown : GoodIn wsX0_known wsX0_isKnown := goodIn_r _ [14, 15, 16, 17, 18, 3, 19, 20, 21, 22, 23, 24, 25, 26, 27, 28, 29, 30, 31, 32, 33, 34, 35, 36, 37, 38, 39, 40] (by decide +kernel) (by decide +kernel)
set_option maxRecDepth 20000 in
theorem gX0_known_X0_isKnown : GoodIn wsX0_known (wsV RX0 61 RX0 yX0_isKnown wsX0_isKnown) := goodIn_app (goodIn_of _ (by decide +kernel)) ggX0_known_X0_isKnown
theorem dX0_known_0 : decode cX0_known 0 = .ok (.iload_n 1, 1) := by decide +kernel
theorem dX0_known_1 : decode cX0_known 1 = .ok (.invokestatic 43, 3) := by decide +kernel
theorem dX0_known_4 : decode cX0_known 4 = .ok (.ifCond .eq 26, 3) := by decide +kernel
theorem dX0_known_7 : decode cX0_known 7 = .ok (.iload_n 2, 1) := by decide +kernel
theorem dX0_known_8 : decode cX0_known 8 = .ok (.invokestatic 47, 3) := by decide +kernel
theorem dX0_known_11 : decode cX0_known 11 = .ok (.ifCond .eq 19, 3) := by decide +kernel
theorem dX0_known_14 : decode cX0_known 14 = .ok (.aload_n 0, 1) := by decide +kernel
theorem dX0_known_15 : decode cX0_known 15 = .ok (.iload_n 1, 1) := by decide +kernel
theorem dX0_known_16 : decode cX0_known 16 = .ok (.iload_n 2, 1) := by decide +kernel
theorem dX0_known_17 : decode cX0_known 17 = .ok (.invokestatic 57, 3) := by decide +kernel
theorem dX0_known_20 : decode cX0_known 20 = .ok (.invokevirtual 61, 3) := by decide +kernel
theorem dX0_known_23 : decode cX0_known 23 = .ok (.ifCond .eq 7, 3) := by decide +kernel
theorem dX0_known_26 : decode cX0_known 26 = .ok (.iconst 1, 1) := by decide +kernel
theorem dX0_known_27 : decode cX0_known 27 = .ok (.goto 4, 3) := by decide +kernel
theorem dX0_known_30 : decode cX0_known 30 = .ok (.iconst 0, 1) := by decide +kernel
theorem dX0_known_31 : decode cX0_known 31 = .ok (.ireturn, 1) := by decide +kernel
theorem dX0_clock_0 : decode cX0_clock 0 = .ok (.aload_n 0, 1) := by decide +kernel
theorem dX0_clock_1 : decode cX0_clock 1 = .ok (.getfield 33, 3) := by decide +kernel
theorem dX0_clock_4 : decode cX0_clock 4 = .ok (.lreturn, 1) := by decide +kernel
set_option maxRecDepth 20000 in
theorem ggX0_ahead_X0_byteOf : GoodIn wsX0_ahead wsX0_byteOf := goodIn_r _ [9] (by decide +kernel) (by decide +kernel)
set_option maxRecDepth 20000 in
theorem gX0_ahead_X0_byteOf : GoodIn wsX0_ahead (va_wsS RX0 105 yX0_byteOf wsX0_byteOf) := goodIn_app (goodIn_of _ (by decide +kernel)) ggX0_ahead_X0_byteOf
theorem dX0_ahead_0 : decode cX0_ahead 0 = .ok (.iconst 0, 1) := by decide +kernel
theorem dX0_ahead_1 : decode cX0_ahead 1 = .ok (.istore_n 3, 1) := by decide +kernel
theorem dX0_ahead_2 : decode cX0_ahead 2 = .ok (.iconst 0, 1) := by decide +kernel
theorem dX0_ahead_3 : decode cX0_ahead 3 = .ok (.istore 4, 2) := by decide +kernel
theorem dX0_ahead_5 : decode cX0_ahead 5 = .ok (.iload 4, 2) := by decide +kernel
theorem dX0_ahead_7 : decode cX0_ahead 7 = .ok (.bipush 8, 2) := by decide +kernel
theorem dX0_ahead_9 : decode cX0_ahead 9 = .ok (.if_icmp .ge 32, 3) := by decide +kernel
theorem dX0_ahead_12 : decode cX0_ahead 12 = .ok (.iload_n 3, 1) := by decide +kernel
theorem dX0_ahead_13 : decode cX0_ahead 13 = .ok (.iconst 0, 1) := by decide +kernel
theorem dX0_ahead_14 : decode cX0_ahead 14 = .ok (.aload_n 0, 1) := by decide +kernel
theorem dX0_ahead_15 : decode cX0_ahead 15 = .ok (.getfield 33, 3) := by decide +kernel
theorem dX0_ahead_18 : decode cX0_ahead 18 = .ok (.iload 4, 2) := by decide +kernel
theorem dX0_ahead_20 : decode cX0_ahead 20 = .ok (.invokestatic 105, 3) := by decide +kernel
theorem dX0_ahead_23 : decode cX0_ahead 23 = .ok (.lload_n 1, 1) := by decide +kernel
theorem dX0_ahead_24 : decode cX0_ahead 24 = .ok (.iload 4, 2) := by decide +kernel
theorem dX0_ahead_26 : decode cX0_ahead 26 = .ok (.invokestatic 105, 3) := by decide +kernel
theorem dX0_ahead_29 : decode cX0_ahead 29 = .ok (.isub, 1) := by decide +kernel
theorem dX0_ahead_30 : decode cX0_ahead 30 = .ok (.invokestatic 81, 3) := by decide +kernel
theorem dX0_ahead_33 : decode cX0_ahead 33 = .ok (.iadd, 1) := by decide +kernel
theorem dX0_ahead_34 : decode cX0_ahead 34 = .ok (.istore_n 3, 1) := by decide +kernel
theorem dX0_ahead_35 : decode cX0_ahead 35 = .ok (.iinc 4 1, 3) := by decide +kernel
theorem dX0_ahead_38 : decode cX0_ahead 38 = .ok (.goto (-33), 3) := by decide +kernel
theorem dX0_ahead_41 : decode cX0_ahead 41 = .ok (.iload_n 3, 1) := by decide +kernel
theorem dX0_ahead_42 : decode cX0_ahead 42 = .ok (.ireturn, 1) := by decide +kernel
set_option maxRecDepth 20000 in
theorem ggX0_next_X0_seqOf : GoodIn wsX0_next wsX0_seqOf := goodIn_r _ [10] (by decide +kernel) (by decide +kernel)
set_option maxRecDepth 20000 in
theorem gX0_next_X0_seqOf : GoodIn wsX0_next (va_wsS RX0 95 yX0_seqOf wsX0_seqOf) := goodIn_app (goodIn_of _ (by decide +kernel)) ggX0_next_X0_seqOf
set_option maxRecDepth 20000 in
theorem ggX0_next_X0_actorOf : GoodIn wsX0_next wsX0_actorOf := goodIn_r _ [13] (by decide +kernel) (by decide +kernel)
set_option maxRecDepth 20000 in
theorem gX0_next_X0_actorOf : GoodIn wsX0_next (va_wsS RX0 91 yX0_actorOf wsX0_actorOf) := goodIn_app (goodIn_of _ (by decide +kernel)) ggX0_next_X0_actorOf
set_option maxRecDepth 20000 in
theorem ggX0_next_X0_byteOf : GoodIn wsX0_next wsX0_byteOf := goodIn_r _ [16] (by decide +kernel) (by decide +kernel)
set_option maxRecDepth 20000 in
theorem gX0_next_X0_byteOf : GoodIn wsX0_next (va_wsS RX0 105 yX0_byteOf wsX0_byteOf) := goodIn_app (goodIn_of _ (by decide +kernel)) ggX0_next_X0_byteOf
theorem dX0_next_0 : decode cX0_next 0 = .ok (.iload_n 3, 1) := by decide +kernel
theorem dX0_next_1 : decode cX0_next 1 = .ok (.aload_n 0, 1) := by decide +kernel
theorem dX0_next_2 : decode cX0_next 2 = .ok (.getfield 26, 3) := by decide +kernel
theorem dX0_next_5 : decode cX0_next 5 = .ok (.if_icmp .lt 5, 3) := by decide +kernel
theorem dX0_next_8 : decode cX0_next 8 = .ok (.iconst (-1), 1) := by decide +kernel
theorem dX0_next_9 : decode cX0_next 9 = .ok (.ireturn, 1) := by decide +kernel
theorem dX0_next_10 : decode cX0_next 10 = .ok (.iload_n 3, 1) := by decide +kernel
theorem dX0_next_11 : decode cX0_next 11 = .ok (.iconst (-1), 1) := by decide +kernel
theorem dX0_next_12 : decode cX0_next 12 = .ok (.invokestatic 81, 3) := by decide +kernel
theorem dX0_next_15 : decode cX0_next 15 = .ok (.iconst 1, 1) := by decide +kernel
theorem dX0_next_16 : decode cX0_next 16 = .ok (.iadd, 1) := by decide +kernel
theorem dX0_next_17 : decode cX0_next 17 = .ok (.istore 4, 2) := by decide +kernel
theorem dX0_next_19 : decode cX0_next 19 = .ok (.iload 4, 2) := by decide +kernel
theorem dX0_next_21 : decode cX0_next 21 = .ok (.aload_n 0, 1) := by decide +kernel
theorem dX0_next_22 : decode cX0_next 22 = .ok (.getfield 26, 3) := by decide +kernel
theorem dX0_next_25 : decode cX0_next 25 = .ok (.if_icmp .ge 38, 3) := by decide +kernel
theorem dX0_next_28 : decode cX0_next 28 = .ok (.aload_n 0, 1) := by decide +kernel
theorem dX0_next_29 : decode cX0_next 29 = .ok (.getfield 9, 3) := by decide +kernel
theorem dX0_next_32 : decode cX0_next 32 = .ok (.iload 4, 2) := by decide +kernel
theorem dX0_next_34 : decode cX0_next 34 = .ok (.iaload, 1) := by decide +kernel
theorem dX0_next_35 : decode cX0_next 35 = .ok (.istore 5, 2) := by decide +kernel
theorem dX0_next_37 : decode cX0_next 37 = .ok (.iload 5, 2) := by decide +kernel
theorem dX0_next_39 : decode cX0_next 39 = .ok (.invokestatic 95, 3) := by decide +kernel
theorem dX0_next_42 : decode cX0_next 42 = .ok (.lload_n 1, 1) := by decide +kernel
theorem dX0_next_43 : decode cX0_next 43 = .ok (.iload 5, 2) := by decide +kernel
theorem dX0_next_45 : decode cX0_next 45 = .ok (.invokestatic 91, 3) := by decide +kernel
theorem dX0_next_48 : decode cX0_next 48 = .ok (.invokestatic 105, 3) := by decide +kernel
theorem dX0_next_51 : decode cX0_next 51 = .ok (.if_icmp .le 6, 3) := by decide +kernel
theorem dX0_next_54 : decode cX0_next 54 = .ok (.iload 4, 2) := by decide +kernel
theorem dX0_next_56 : decode cX0_next 56 = .ok (.ireturn, 1) := by decide +kernel
theorem dX0_next_57 : decode cX0_next 57 = .ok (.iinc 4 1, 3) := by decide +kernel
theorem dX0_next_60 : decode cX0_next 60 = .ok (.goto (-41), 3) := by decide +kernel
theorem dX0_next_63 : decode cX0_next 63 = .ok (.iconst (-1), 1) := by decide +kernel
theorem dX0_next_64 : decode cX0_next 64 = .ok (.ireturn, 1) := by decide +kernel
set_option maxRecDepth 20000 in
theorem ggX0_compare_X0_byteOf : GoodIn wsX0_compare wsX0_byteOf := goodIn_r _ [5] (by decide +kernel) (by decide +kernel)
set_option maxRecDepth 20000 in
theorem gX0_compare_X0_byteOf : GoodIn wsX0_compare (va_wsS RX0 105 yX0_byteOf wsX0_byteOf) := goodIn_app (goodIn_of _ (by decide +kernel)) ggX0_compare_X0_byteOf
theorem dX0_compare_0 : decode cX0_compare 0 = .ok (.iconst 0, 1) := by decide +kernel
theorem dX0_compare_1 : decode cX0_compare 1 = .ok (.istore_n 3, 1) := by decide +kernel
theorem dX0_compare_2 : decode cX0_compare 2 = .ok (.iconst 0, 1) := by decide +kernel
theorem dX0_compare_3 : decode cX0_compare 3 = .ok (.istore 4, 2) := by decide +kernel
theorem dX0_compare_5 : decode cX0_compare 5 = .ok (.iconst 0, 1) := by decide +kernel
theorem dX0_compare_6 : decode cX0_compare 6 = .ok (.istore 5, 2) := by decide +kernel
theorem dX0_compare_8 : decode cX0_compare 8 = .ok (.iload 5, 2) := by decide +kernel
theorem dX0_compare_10 : decode cX0_compare 10 = .ok (.bipush 8, 2) := by decide +kernel
theorem dX0_compare_12 : decode cX0_compare 12 = .ok (.if_icmp .ge 64, 3) := by decide +kernel
theorem dX0_compare_15 : decode cX0_compare 15 = .ok (.aload_n 0, 1) := by decide +kernel
theorem dX0_compare_16 : decode cX0_compare 16 = .ok (.getfield 33, 3) := by decide +kernel
theorem dX0_compare_19 : decode cX0_compare 19 = .ok (.iload 5, 2) := by decide +kernel
theorem dX0_compare_21 : decode cX0_compare 21 = .ok (.invokestatic 105, 3) := by decide +kernel
theorem dX0_compare_24 : decode cX0_compare 24 = .ok (.istore 6, 2) := by decide +kernel
theorem dX0_compare_26 : decode cX0_compare 26 = .ok (.lload_n 1, 1) := by decide +kernel
theorem dX0_compare_27 : decode cX0_compare 27 = .ok (.iload 5, 2) := by decide +kernel
theorem dX0_compare_29 : decode cX0_compare 29 = .ok (.invokestatic 105, 3) := by decide +kernel
theorem dX0_compare_32 : decode cX0_compare 32 = .ok (.istore 7, 2) := by decide +kernel
theorem dX0_compare_34 : decode cX0_compare 34 = .ok (.iload_n 3, 1) := by decide +kernel
theorem dX0_compare_35 : decode cX0_compare 35 = .ok (.ifCond .ne 10, 3) := by decide +kernel
theorem dX0_compare_38 : decode cX0_compare 38 = .ok (.iload 6, 2) := by decide +kernel
theorem dX0_compare_40 : decode cX0_compare 40 = .ok (.iload 7, 2) := by decide +kernel
theorem dX0_compare_42 : decode cX0_compare 42 = .ok (.if_icmp .le 7, 3) := by decide +kernel
theorem dX0_compare_45 : decode cX0_compare 45 = .ok (.iconst 1, 1) := by decide +kernel
theorem dX0_compare_46 : decode cX0_compare 46 = .ok (.goto 4, 3) := by decide +kernel
theorem dX0_compare_49 : decode cX0_compare 49 = .ok (.iconst 0, 1) := by decide +kernel
theorem dX0_compare_50 : decode cX0_compare 50 = .ok (.istore_n 3, 1) := by decide +kernel
theorem dX0_compare_51 : decode cX0_compare 51 = .ok (.iload 4, 2) := by decide +kernel
theorem dX0_compare_53 : decode cX0_compare 53 = .ok (.ifCond .ne 10, 3) := by decide +kernel
theorem dX0_compare_56 : decode cX0_compare 56 = .ok (.iload 6, 2) := by decide +kernel
theorem dX0_compare_58 : decode cX0_compare 58 = .ok (.iload 7, 2) := by decide +kernel
theorem dX0_compare_60 : decode cX0_compare 60 = .ok (.if_icmp .ge 7, 3) := by decide +kernel
theorem dX0_compare_63 : decode cX0_compare 63 = .ok (.iconst 1, 1) := by decide +kernel
theorem dX0_compare_64 : decode cX0_compare 64 = .ok (.goto 4, 3) := by decide +kernel
theorem dX0_compare_67 : decode cX0_compare 67 = .ok (.iconst 0, 1) := by decide +kernel
theorem dX0_compare_68 : decode cX0_compare 68 = .ok (.istore 4, 2) := by decide +kernel
theorem dX0_compare_70 : decode cX0_compare 70 = .ok (.iinc 5 1, 3) := by decide +kernel
theorem dX0_compare_73 : decode cX0_compare 73 = .ok (.goto (-65), 3) := by decide +kernel
theorem dX0_compare_76 : decode cX0_compare 76 = .ok (.iload_n 3, 1) := by decide +kernel
theorem dX0_compare_77 : decode cX0_compare 77 = .ok (.ifCond .eq 14, 3) := by decide +kernel
theorem dX0_compare_80 : decode cX0_compare 80 = .ok (.iload 4, 2) := by decide +kernel
theorem dX0_compare_82 : decode cX0_compare 82 = .ok (.ifCond .eq 7, 3) := by decide +kernel
theorem dX0_compare_85 : decode cX0_compare 85 = .ok (.iconst 3, 1) := by decide +kernel
theorem dX0_compare_86 : decode cX0_compare 86 = .ok (.goto 4, 3) := by decide +kernel
theorem dX0_compare_89 : decode cX0_compare 89 = .ok (.iconst 1, 1) := by decide +kernel
theorem dX0_compare_90 : decode cX0_compare 90 = .ok (.ireturn, 1) := by decide +kernel
theorem dX0_compare_91 : decode cX0_compare 91 = .ok (.iload 4, 2) := by decide +kernel
theorem dX0_compare_93 : decode cX0_compare 93 = .ok (.ifCond .eq 7, 3) := by decide +kernel
theorem dX0_compare_96 : decode cX0_compare 96 = .ok (.iconst 2, 1) := by decide +kernel
theorem dX0_compare_97 : decode cX0_compare 97 = .ok (.goto 4, 3) := by decide +kernel
theorem dX0_compare_100 : decode cX0_compare 100 = .ok (.iconst 0, 1) := by decide +kernel
theorem dX0_compare_101 : decode cX0_compare 101 = .ok (.ireturn, 1) := by decide +kernel
set_option maxRecDepth 20000 in
theorem ggX0_forget_X0_actorOf : GoodIn wsX0_forget wsX0_actorOf := goodIn_r _ [6] (by decide +kernel) (by decide +kernel)
set_option maxRecDepth 20000 in
theorem gX0_forget_X0_actorOf : GoodIn wsX0_forget (va_wsS RX0 91 yX0_actorOf wsX0_actorOf) := goodIn_app (goodIn_of _ (by decide +kernel)) ggX0_forget_X0_actorOf
set_option maxRecDepth 20000 in
theorem ggX0_forget_X0_moveWaiting : GoodIn wsX0_forget wsX0_moveWaiting := goodIn_r _ [10, 2, 11, 12, 13, 14, 15, 16, 17, 18, 19, 20, 21, 22] (by decide +kernel) (by decide +kernel)
set_option maxRecDepth 20000 in
theorem gX0_forget_X0_moveWaiting : GoodIn wsX0_forget (wsV RX0 109 RX0 yX0_moveWaiting wsX0_moveWaiting) := goodIn_app (goodIn_of _ (by decide +kernel)) ggX0_forget_X0_moveWaiting
theorem dX0_forget_0 : decode cX0_forget 0 = .ok (.iconst 0, 1) := by decide +kernel
theorem dX0_forget_1 : decode cX0_forget 1 = .ok (.istore_n 2, 1) := by decide +kernel
theorem dX0_forget_2 : decode cX0_forget 2 = .ok (.iconst 0, 1) := by decide +kernel
theorem dX0_forget_3 : decode cX0_forget 3 = .ok (.istore_n 3, 1) := by decide +kernel
theorem dX0_forget_4 : decode cX0_forget 4 = .ok (.iload_n 3, 1) := by decide +kernel
theorem dX0_forget_5 : decode cX0_forget 5 = .ok (.aload_n 0, 1) := by decide +kernel
theorem dX0_forget_6 : decode cX0_forget 6 = .ok (.getfield 30, 3) := by decide +kernel
theorem dX0_forget_9 : decode cX0_forget 9 = .ok (.if_icmp .ge 31, 3) := by decide +kernel
theorem dX0_forget_12 : decode cX0_forget 12 = .ok (.aload_n 0, 1) := by decide +kernel
theorem dX0_forget_13 : decode cX0_forget 13 = .ok (.getfield 16, 3) := by decide +kernel
theorem dX0_forget_16 : decode cX0_forget 16 = .ok (.iload_n 3, 1) := by decide +kernel
theorem dX0_forget_17 : decode cX0_forget 17 = .ok (.iaload, 1) := by decide +kernel
theorem dX0_forget_18 : decode cX0_forget 18 = .ok (.invokestatic 91, 3) := by decide +kernel
theorem dX0_forget_21 : decode cX0_forget 21 = .ok (.iload_n 1, 1) := by decide +kernel
theorem dX0_forget_22 : decode cX0_forget 22 = .ok (.if_icmp .eq 12, 3) := by decide +kernel
theorem dX0_forget_25 : decode cX0_forget 25 = .ok (.aload_n 0, 1) := by decide +kernel
theorem dX0_forget_26 : decode cX0_forget 26 = .ok (.iload_n 3, 1) := by decide +kernel
theorem dX0_forget_27 : decode cX0_forget 27 = .ok (.iload_n 2, 1) := by decide +kernel
theorem dX0_forget_28 : decode cX0_forget 28 = .ok (.invokevirtual 109, 3) := by decide +kernel
theorem dX0_forget_31 : decode cX0_forget 31 = .ok (.iinc 2 1, 3) := by decide +kernel
theorem dX0_forget_34 : decode cX0_forget 34 = .ok (.iinc 3 1, 3) := by decide +kernel
theorem dX0_forget_37 : decode cX0_forget 37 = .ok (.goto (-33), 3) := by decide +kernel
theorem dX0_forget_40 : decode cX0_forget 40 = .ok (.aload_n 0, 1) := by decide +kernel
theorem dX0_forget_41 : decode cX0_forget 41 = .ok (.getfield 30, 3) := by decide +kernel
theorem dX0_forget_44 : decode cX0_forget 44 = .ok (.iload_n 2, 1) := by decide +kernel
theorem dX0_forget_45 : decode cX0_forget 45 = .ok (.isub, 1) := by decide +kernel
theorem dX0_forget_46 : decode cX0_forget 46 = .ok (.istore_n 3, 1) := by decide +kernel
theorem dX0_forget_47 : decode cX0_forget 47 = .ok (.aload_n 0, 1) := by decide +kernel
theorem dX0_forget_48 : decode cX0_forget 48 = .ok (.iload_n 2, 1) := by decide +kernel
theorem dX0_forget_49 : decode cX0_forget 49 = .ok (.putfield 30, 3) := by decide +kernel
theorem dX0_forget_52 : decode cX0_forget 52 = .ok (.iload_n 3, 1) := by decide +kernel
theorem dX0_forget_53 : decode cX0_forget 53 = .ok (.ireturn, 1) := by decide +kernel
theorem dX0_look_0 : decode cX0_look 0 = .ok (.iload_n 1, 1) := by decide +kernel
theorem dX0_look_1 : decode cX0_look 1 = .ok (.tableswitch 51 0 3 #[31, 36, 41, 46], 31) := by decide +kernel
theorem dX0_look_32 : decode cX0_look 32 = .ok (.aload_n 0, 1) := by decide +kernel
theorem dX0_look_33 : decode cX0_look 33 = .ok (.getfield 26, 3) := by decide +kernel
theorem dX0_look_36 : decode cX0_look 36 = .ok (.ireturn, 1) := by decide +kernel
theorem dX0_look_37 : decode cX0_look 37 = .ok (.aload_n 0, 1) := by decide +kernel
theorem dX0_look_38 : decode cX0_look 38 = .ok (.getfield 30, 3) := by decide +kernel
theorem dX0_look_41 : decode cX0_look 41 = .ok (.ireturn, 1) := by decide +kernel
theorem dX0_look_42 : decode cX0_look 42 = .ok (.aload_n 0, 1) := by decide +kernel
theorem dX0_look_43 : decode cX0_look 43 = .ok (.getfield 37, 3) := by decide +kernel
theorem dX0_look_46 : decode cX0_look 46 = .ok (.ireturn, 1) := by decide +kernel
theorem dX0_look_47 : decode cX0_look 47 = .ok (.aload_n 0, 1) := by decide +kernel
theorem dX0_look_48 : decode cX0_look 48 = .ok (.getfield 40, 3) := by decide +kernel
theorem dX0_look_51 : decode cX0_look 51 = .ok (.ireturn, 1) := by decide +kernel
theorem dX0_look_52 : decode cX0_look 52 = .ok (.iconst (-1), 1) := by decide +kernel
theorem dX0_look_53 : decode cX0_look 53 = .ok (.ireturn, 1) := by decide +kernel
theorem dX0_isActor_0 : decode cX0_isActor 0 = .ok (.iload_n 0, 1) := by decide +kernel
theorem dX0_isActor_1 : decode cX0_isActor 1 = .ok (.ifCond .lt 13, 3) := by decide +kernel
theorem dX0_isActor_4 : decode cX0_isActor 4 = .ok (.iload_n 0, 1) := by decide +kernel
theorem dX0_isActor_5 : decode cX0_isActor 5 = .ok (.bipush 8, 2) := by decide +kernel
theorem dX0_isActor_7 : decode cX0_isActor 7 = .ok (.if_icmp .ge 7, 3) := by decide +kernel
theorem dX0_isActor_10 : decode cX0_isActor 10 = .ok (.iconst 1, 1) := by decide +kernel
theorem dX0_isActor_11 : decode cX0_isActor 11 = .ok (.goto 4, 3) := by decide +kernel
theorem dX0_isActor_14 : decode cX0_isActor 14 = .ok (.iconst 0, 1) := by decide +kernel
theorem dX0_isActor_15 : decode cX0_isActor 15 = .ok (.ireturn, 1) := by decide +kernel
theorem dX0_isSeq_0 : decode cX0_isSeq 0 = .ok (.iload_n 0, 1) := by decide +kernel
theorem dX0_isSeq_1 : decode cX0_isSeq 1 = .ok (.iconst 1, 1) := by decide +kernel
theorem dX0_isSeq_2 : decode cX0_isSeq 2 = .ok (.if_icmp .lt 14, 3) := by decide +kernel
theorem dX0_isSeq_5 : decode cX0_isSeq 5 = .ok (.iload_n 0, 1) := by decide +kernel
theorem dX0_isSeq_6 : decode cX0_isSeq 6 = .ok (.sipush 255, 3) := by decide +kernel
theorem dX0_isSeq_9 : decode cX0_isSeq 9 = .ok (.if_icmp .gt 7, 3) := by decide +kernel
theorem dX0_isSeq_12 : decode cX0_isSeq 12 = .ok (.iconst 1, 1) := by decide +kernel
theorem dX0_isSeq_13 : decode cX0_isSeq 13 = .ok (.goto 4, 3) := by decide +kernel
theorem dX0_isSeq_16 : decode cX0_isSeq 16 = .ok (.iconst 0, 1) := by decide +kernel
theorem dX0_isSeq_17 : decode cX0_isSeq 17 = .ok (.ireturn, 1) := by decide +kernel
theorem dX0_keyOf_0 : decode cX0_keyOf 0 = .ok (.iload_n 0, 1) := by decide +kernel
theorem dX0_keyOf_1 : decode cX0_keyOf 1 = .ok (.bipush 8, 2) := by decide +kernel
theorem dX0_keyOf_3 : decode cX0_keyOf 3 = .ok (.ishl, 1) := by decide +kernel
theorem dX0_keyOf_4 : decode cX0_keyOf 4 = .ok (.iload_n 1, 1) := by decide +kernel
theorem dX0_keyOf_5 : decode cX0_keyOf 5 = .ok (.ior, 1) := by decide +kernel
theorem dX0_keyOf_6 : decode cX0_keyOf 6 = .ok (.ireturn, 1) := by decide +kernel
theorem dX0_actorOf_0 : decode cX0_actorOf 0 = .ok (.iload_n 0, 1) := by decide +kernel
theorem dX0_actorOf_1 : decode cX0_actorOf 1 = .ok (.bipush 8, 2) := by decide +kernel
theorem dX0_actorOf_3 : decode cX0_actorOf 3 = .ok (.ishr, 1) := by decide +kernel
theorem dX0_actorOf_4 : decode cX0_actorOf 4 = .ok (.ireturn, 1) := by decide +kernel
theorem dX0_seqOf_0 : decode cX0_seqOf 0 = .ok (.iload_n 0, 1) := by decide +kernel
theorem dX0_seqOf_1 : decode cX0_seqOf 1 = .ok (.sipush 255, 3) := by decide +kernel
theorem dX0_seqOf_4 : decode cX0_seqOf 4 = .ok (.iand, 1) := by decide +kernel
theorem dX0_seqOf_5 : decode cX0_seqOf 5 = .ok (.ireturn, 1) := by decide +kernel
theorem dX0_byteOf_0 : decode cX0_byteOf 0 = .ok (.lload_n 0, 1) := by decide +kernel
theorem dX0_byteOf_1 : decode cX0_byteOf 1 = .ok (.bipush 8, 2) := by decide +kernel
theorem dX0_byteOf_3 : decode cX0_byteOf 3 = .ok (.iload_n 2, 1) := by decide +kernel
theorem dX0_byteOf_4 : decode cX0_byteOf 4 = .ok (.imul, 1) := by decide +kernel
theorem dX0_byteOf_5 : decode cX0_byteOf 5 = .ok (.lushr, 1) := by decide +kernel
theorem dX0_byteOf_6 : decode cX0_byteOf 6 = .ok (.l2i, 1) := by decide +kernel
theorem dX0_byteOf_7 : decode cX0_byteOf 7 = .ok (.sipush 255, 3) := by decide +kernel
theorem dX0_byteOf_10 : decode cX0_byteOf 10 = .ok (.iand, 1) := by decide +kernel
theorem dX0_byteOf_11 : decode cX0_byteOf 11 = .ok (.ireturn, 1) := by decide +kernel
set_option maxRecDepth 20000 in
theorem ggX0_nextSeq_X0_byteOf : GoodIn wsX0_nextSeq wsX0_byteOf := goodIn_r _ [5] (by decide +kernel) (by decide +kernel)
set_option maxRecDepth 20000 in
theorem gX0_nextSeq_X0_byteOf : GoodIn wsX0_nextSeq (va_wsS RX0 105 yX0_byteOf wsX0_byteOf) := goodIn_app (goodIn_of _ (by decide +kernel)) ggX0_nextSeq_X0_byteOf
theorem dX0_nextSeq_0 : decode cX0_nextSeq 0 = .ok (.aload_n 0, 1) := by decide +kernel
theorem dX0_nextSeq_1 : decode cX0_nextSeq 1 = .ok (.getfield 33, 3) := by decide +kernel
theorem dX0_nextSeq_4 : decode cX0_nextSeq 4 = .ok (.iload_n 1, 1) := by decide +kernel
theorem dX0_nextSeq_5 : decode cX0_nextSeq 5 = .ok (.invokestatic 105, 3) := by decide +kernel
theorem dX0_nextSeq_8 : decode cX0_nextSeq 8 = .ok (.iconst 1, 1) := by decide +kernel
theorem dX0_nextSeq_9 : decode cX0_nextSeq 9 = .ok (.iadd, 1) := by decide +kernel
theorem dX0_nextSeq_10 : decode cX0_nextSeq 10 = .ok (.ireturn, 1) := by decide +kernel
set_option maxRecDepth 20000 in
theorem ggX0_isKnown_X0_seqOf : GoodIn wsX0_isKnown wsX0_seqOf := goodIn_r _ [6] (by decide +kernel) (by decide +kernel)
set_option maxRecDepth 20000 in
theorem gX0_isKnown_X0_seqOf : GoodIn wsX0_isKnown (va_wsS RX0 95 yX0_seqOf wsX0_seqOf) := goodIn_app (goodIn_of _ (by decide +kernel)) ggX0_isKnown_X0_seqOf
set_option maxRecDepth 20000 in
theorem ggX0_isKnown_X0_actorOf : GoodIn wsX0_isKnown wsX0_actorOf := goodIn_r _ [9] (by decide +kernel) (by decide +kernel)
set_option maxRecDepth 20000 in
theorem gX0_isKnown_X0_actorOf : GoodIn wsX0_isKnown (va_wsS RX0 91 yX0_actorOf wsX0_actorOf) := goodIn_app (goodIn_of _ (by decide +kernel)) ggX0_isKnown_X0_actorOf
set_option maxRecDepth 20000 in
theorem ggX0_isKnown_X0_nextSeq : GoodIn wsX0_isKnown wsX0_nextSeq := goodIn_r _ [13, 14, 15, 16, 5, 17, 18, 19, 20, 21, 22, 23, 24, 25, 26, 27] (by decide +kernel) (by decide +kernel)
set_option maxRecDepth 20000 in
theorem gX0_isKnown_X0_nextSeq : GoodIn wsX0_isKnown (wsV RX0 102 RX0 yX0_nextSeq wsX0_nextSeq) := goodIn_app (goodIn_of _ (by decide +kernel)) ggX0_isKnown_X0_nextSeq
theorem dX0_isKnown_0 : decode cX0_isKnown 0 = .ok (.iload_n 1, 1) := by decide +kernel
theorem dX0_isKnown_1 : decode cX0_isKnown 1 = .ok (.invokestatic 95, 3) := by decide +kernel
theorem dX0_isKnown_4 : decode cX0_isKnown 4 = .ok (.aload_n 0, 1) := by decide +kernel
theorem dX0_isKnown_5 : decode cX0_isKnown 5 = .ok (.iload_n 1, 1) := by decide +kernel
theorem dX0_isKnown_6 : decode cX0_isKnown 6 = .ok (.invokestatic 91, 3) := by decide +kernel
theorem dX0_isKnown_9 : decode cX0_isKnown 9 = .ok (.invokevirtual 102, 3) := by decide +kernel
theorem dX0_isKnown_12 : decode cX0_isKnown 12 = .ok (.if_icmp .ge 5, 3) := by decide +kernel
theorem dX0_isKnown_15 : decode cX0_isKnown 15 = .ok (.iconst 1, 1) := by decide +kernel
theorem dX0_isKnown_16 : decode cX0_isKnown 16 = .ok (.ireturn, 1) := by decide +kernel
theorem dX0_isKnown_17 : decode cX0_isKnown 17 = .ok (.iconst 0, 1) := by decide +kernel
theorem dX0_isKnown_18 : decode cX0_isKnown 18 = .ok (.istore_n 2, 1) := by decide +kernel
theorem dX0_isKnown_19 : decode cX0_isKnown 19 = .ok (.iload_n 2, 1) := by decide +kernel
theorem dX0_isKnown_20 : decode cX0_isKnown 20 = .ok (.aload_n 0, 1) := by decide +kernel
theorem dX0_isKnown_21 : decode cX0_isKnown 21 = .ok (.getfield 30, 3) := by decide +kernel
theorem dX0_isKnown_24 : decode cX0_isKnown 24 = .ok (.if_icmp .ge 21, 3) := by decide +kernel
theorem dX0_isKnown_27 : decode cX0_isKnown 27 = .ok (.aload_n 0, 1) := by decide +kernel
theorem dX0_isKnown_28 : decode cX0_isKnown 28 = .ok (.getfield 16, 3) := by decide +kernel
theorem dX0_isKnown_31 : decode cX0_isKnown 31 = .ok (.iload_n 2, 1) := by decide +kernel
theorem dX0_isKnown_32 : decode cX0_isKnown 32 = .ok (.iaload, 1) := by decide +kernel
theorem dX0_isKnown_33 : decode cX0_isKnown 33 = .ok (.iload_n 1, 1) := by decide +kernel
theorem dX0_isKnown_34 : decode cX0_isKnown 34 = .ok (.if_icmp .ne 5, 3) := by decide +kernel
theorem dX0_isKnown_37 : decode cX0_isKnown 37 = .ok (.iconst 1, 1) := by decide +kernel
theorem dX0_isKnown_38 : decode cX0_isKnown 38 = .ok (.ireturn, 1) := by decide +kernel
theorem dX0_isKnown_39 : decode cX0_isKnown 39 = .ok (.iinc 2 1, 3) := by decide +kernel
theorem dX0_isKnown_42 : decode cX0_isKnown 42 = .ok (.goto (-23), 3) := by decide +kernel
theorem dX0_isKnown_45 : decode cX0_isKnown 45 = .ok (.iconst 0, 1) := by decide +kernel
theorem dX0_isKnown_46 : decode cX0_isKnown 46 = .ok (.ireturn, 1) := by decide +kernel
set_option maxRecDepth 20000 in
theorem ggX0_canComeThrough_X0_lackedActor : GoodIn wsX0_canComeThrough wsX0_lackedActor := goodIn_r _ [6, 7, 8, 9, 5, 10, 11, 12, 13, 14, 15, 16, 17, 18, 19, 20, 21, 22, 23, 24, 25, 26, 27, 28, 29, 30] (by decide +kernel) (by decide +kernel)
set_option maxRecDepth 20000 in
theorem gX0_canComeThrough_X0_lackedActor : GoodIn wsX0_canComeThrough (wsV RX0 98 RX0 yX0_lackedActor wsX0_lackedActor) := goodIn_app (goodIn_of _ (by decide +kernel)) ggX0_canComeThrough_X0_lackedActor
theorem dX0_canComeThrough_0 : decode cX0_canComeThrough 0 = .ok (.aload_n 0, 1) := by decide +kernel
theorem dX0_canComeThrough_1 : decode cX0_canComeThrough 1 = .ok (.getfield 26, 3) := by decide +kernel
theorem dX0_canComeThrough_4 : decode cX0_canComeThrough 4 = .ok (.sipush 512, 3) := by decide +kernel
theorem dX0_canComeThrough_7 : decode cX0_canComeThrough 7 = .ok (.if_icmp .ge 17, 3) := by decide +kernel
theorem dX0_canComeThrough_10 : decode cX0_canComeThrough 10 = .ok (.aload_n 0, 1) := by decide +kernel
theorem dX0_canComeThrough_11 : decode cX0_canComeThrough 11 = .ok (.iload_n 1, 1) := by decide +kernel
theorem dX0_canComeThrough_12 : decode cX0_canComeThrough 12 = .ok (.lload_n 2, 1) := by decide +kernel
theorem dX0_canComeThrough_13 : decode cX0_canComeThrough 13 = .ok (.invokevirtual 98, 3) := by decide +kernel
theorem dX0_canComeThrough_16 : decode cX0_canComeThrough 16 = .ok (.iconst (-1), 1) := by decide +kernel
theorem dX0_canComeThrough_17 : decode cX0_canComeThrough 17 = .ok (.if_icmp .ne 7, 3) := by decide +kernel
theorem dX0_canComeThrough_20 : decode cX0_canComeThrough 20 = .ok (.iconst 1, 1) := by decide +kernel
theorem dX0_canComeThrough_21 : decode cX0_canComeThrough 21 = .ok (.goto 4, 3) := by decide +kernel
theorem dX0_canComeThrough_24 : decode cX0_canComeThrough 24 = .ok (.iconst 0, 1) := by decide +kernel
theorem dX0_canComeThrough_25 : decode cX0_canComeThrough 25 = .ok (.ireturn, 1) := by decide +kernel
set_option maxRecDepth 20000 in
theorem ggX0_lackedActor_X0_actorOf : GoodIn wsX0_lackedActor wsX0_actorOf := goodIn_r _ [5] (by decide +kernel) (by decide +kernel)
set_option maxRecDepth 20000 in
theorem gX0_lackedActor_X0_actorOf : GoodIn wsX0_lackedActor (va_wsS RX0 91 yX0_actorOf wsX0_actorOf) := goodIn_app (goodIn_of _ (by decide +kernel)) ggX0_lackedActor_X0_actorOf
set_option maxRecDepth 20000 in
theorem ggX0_lackedActor_X0_seqOf : GoodIn wsX0_lackedActor wsX0_seqOf := goodIn_r _ [8] (by decide +kernel) (by decide +kernel)
set_option maxRecDepth 20000 in
theorem gX0_lackedActor_X0_seqOf : GoodIn wsX0_lackedActor (va_wsS RX0 95 yX0_seqOf wsX0_seqOf) := goodIn_app (goodIn_of _ (by decide +kernel)) ggX0_lackedActor_X0_seqOf
set_option maxRecDepth 20000 in
theorem ggX0_lackedActor_X0_nextSeq : GoodIn wsX0_lackedActor wsX0_nextSeq := goodIn_r _ [12, 1, 13, 14, 4, 15, 16, 17, 18, 19, 20, 21, 22, 23, 24, 25] (by decide +kernel) (by decide +kernel)
set_option maxRecDepth 20000 in
theorem gX0_lackedActor_X0_nextSeq : GoodIn wsX0_lackedActor (wsV RX0 102 RX0 yX0_nextSeq wsX0_nextSeq) := goodIn_app (goodIn_of _ (by decide +kernel)) ggX0_lackedActor_X0_nextSeq
set_option maxRecDepth 20000 in
theorem ggX0_lackedActor_X0_byteOf : GoodIn wsX0_lackedActor wsX0_byteOf := goodIn_r _ [15] (by decide +kernel) (by decide +kernel)
set_option maxRecDepth 20000 in
theorem gX0_lackedActor_X0_byteOf : GoodIn wsX0_lackedActor (va_wsS RX0 105 yX0_byteOf wsX0_byteOf) := goodIn_app (goodIn_of _ (by decide +kernel)) ggX0_lackedActor_X0_byteOf
theorem dX0_lackedActor_0 : decode cX0_lackedActor 0 = .ok (.iload_n 1, 1) := by decide +kernel
theorem dX0_lackedActor_1 : decode cX0_lackedActor 1 = .ok (.invokestatic 91, 3) := by decide +kernel
theorem dX0_lackedActor_4 : decode cX0_lackedActor 4 = .ok (.istore 4, 2) := by decide +kernel
theorem dX0_lackedActor_6 : decode cX0_lackedActor 6 = .ok (.iload_n 1, 1) := by decide +kernel
theorem dX0_lackedActor_7 : decode cX0_lackedActor 7 = .ok (.invokestatic 95, 3) := by decide +kernel
theorem dX0_lackedActor_10 : decode cX0_lackedActor 10 = .ok (.aload_n 0, 1) := by decide +kernel
theorem dX0_lackedActor_11 : decode cX0_lackedActor 11 = .ok (.iload 4, 2) := by decide +kernel
theorem dX0_lackedActor_13 : decode cX0_lackedActor 13 = .ok (.invokevirtual 102, 3) := by decide +kernel
theorem dX0_lackedActor_16 : decode cX0_lackedActor 16 = .ok (.if_icmp .eq 6, 3) := by decide +kernel
theorem dX0_lackedActor_19 : decode cX0_lackedActor 19 = .ok (.iload 4, 2) := by decide +kernel
theorem dX0_lackedActor_21 : decode cX0_lackedActor 21 = .ok (.ireturn, 1) := by decide +kernel
theorem dX0_lackedActor_22 : decode cX0_lackedActor 22 = .ok (.iconst 0, 1) := by decide +kernel
theorem dX0_lackedActor_23 : decode cX0_lackedActor 23 = .ok (.istore 5, 2) := by decide +kernel
theorem dX0_lackedActor_25 : decode cX0_lackedActor 25 = .ok (.iload 5, 2) := by decide +kernel
theorem dX0_lackedActor_27 : decode cX0_lackedActor 27 = .ok (.bipush 8, 2) := by decide +kernel
theorem dX0_lackedActor_29 : decode cX0_lackedActor 29 = .ok (.if_icmp .ge 37, 3) := by decide +kernel
theorem dX0_lackedActor_32 : decode cX0_lackedActor 32 = .ok (.iload 5, 2) := by decide +kernel
theorem dX0_lackedActor_34 : decode cX0_lackedActor 34 = .ok (.iload 4, 2) := by decide +kernel
theorem dX0_lackedActor_36 : decode cX0_lackedActor 36 = .ok (.if_icmp .eq 24, 3) := by decide +kernel
theorem dX0_lackedActor_39 : decode cX0_lackedActor 39 = .ok (.lload_n 2, 1) := by decide +kernel
theorem dX0_lackedActor_40 : decode cX0_lackedActor 40 = .ok (.iload 5, 2) := by decide +kernel
theorem dX0_lackedActor_42 : decode cX0_lackedActor 42 = .ok (.invokestatic 105, 3) := by decide +kernel
theorem dX0_lackedActor_45 : decode cX0_lackedActor 45 = .ok (.aload_n 0, 1) := by decide +kernel
theorem dX0_lackedActor_46 : decode cX0_lackedActor 46 = .ok (.getfield 33, 3) := by decide +kernel
theorem dX0_lackedActor_49 : decode cX0_lackedActor 49 = .ok (.iload 5, 2) := by decide +kernel
theorem dX0_lackedActor_51 : decode cX0_lackedActor 51 = .ok (.invokestatic 105, 3) := by decide +kernel
theorem dX0_lackedActor_54 : decode cX0_lackedActor 54 = .ok (.if_icmp .le 6, 3) := by decide +kernel
theorem dX0_lackedActor_57 : decode cX0_lackedActor 57 = .ok (.iload 5, 2) := by decide +kernel
theorem dX0_lackedActor_59 : decode cX0_lackedActor 59 = .ok (.ireturn, 1) := by decide +kernel
theorem dX0_lackedActor_60 : decode cX0_lackedActor 60 = .ok (.iinc 5 1, 3) := by decide +kernel
theorem dX0_lackedActor_63 : decode cX0_lackedActor 63 = .ok (.goto (-38), 3) := by decide +kernel
theorem dX0_lackedActor_66 : decode cX0_lackedActor 66 = .ok (.iconst (-1), 1) := by decide +kernel
theorem dX0_lackedActor_67 : decode cX0_lackedActor 67 = .ok (.ireturn, 1) := by decide +kernel
set_option maxRecDepth 20000 in
theorem ggX0_letThroughAllThatCan_X0_firstThatCanComeThrough : GoodIn wsX0_letThroughAllThatCan wsX0_firstThatCanComeThrough := goodIn_r _ [5, 6, 7, 8, 9, 10, 11, 4, 12, 13, 14, 15, 16, 17, 18, 19, 20, 21, 22, 23, 24, 25, 26, 27, 28, 29, 30, 31, 47, 48, 49, 50, 51, 52, 53, 54, 55, 56] (by decide +kernel) (by decide +kernel)
set_option maxRecDepth 20000 in
theorem gX0_letThroughAllThatCan_X0_firstThatCanComeThrough : GoodIn wsX0_letThroughAllThatCan (wsV RX0 113 RX0 yX0_firstThatCanComeThrough wsX0_firstThatCanComeThrough) := goodIn_app (goodIn_of _ (by decide +kernel)) ggX0_letThroughAllThatCan_X0_firstThatCanComeThrough
set_option maxRecDepth 20000 in
theorem ggX0_letThroughAllThatCan_X0_letThrough : GoodIn wsX0_letThroughAllThatCan wsX0_letThrough := goodIn_r _ [35, 36, 13, 7, 37, 38, 18, 19, 20, 4, 21, 39, 40, 41, 42, 6, 43, 44, 45, 46, 8, 47, 48, 49, 50, 51, 52, 53, 54, 55, 56] (by decide +kernel) (by decide +kernel)
set_option maxRecDepth 20000 in
theorem gX0_letThroughAllThatCan_X0_letThrough : GoodIn wsX0_letThroughAllThatCan (wsV RX0 116 RX0 yX0_letThrough wsX0_letThrough) := goodIn_app (goodIn_of _ (by decide +kernel)) ggX0_letThroughAllThatCan_X0_letThrough
theorem dX0_letThroughAllThatCan_0 : decode cX0_letThroughAllThatCan 0 = .ok (.iconst 0, 1) := by decide +kernel
theorem dX0_letThroughAllThatCan_1 : decode cX0_letThroughAllThatCan 1 = .ok (.istore_n 1, 1) := by decide +kernel
theorem dX0_letThroughAllThatCan_2 : decode cX0_letThroughAllThatCan 2 = .ok (.iload_n 1, 1) := by decide +kernel
theorem dX0_letThroughAllThatCan_3 : decode cX0_letThroughAllThatCan 3 = .ok (.bipush 65, 2) := by decide +kernel
theorem dX0_letThroughAllThatCan_5 : decode cX0_letThroughAllThatCan 5 = .ok (.if_icmp .ge 26, 3) := by decide +kernel
theorem dX0_letThroughAllThatCan_8 : decode cX0_letThroughAllThatCan 8 = .ok (.aload_n 0, 1) := by decide +kernel
theorem dX0_letThroughAllThatCan_9 : decode cX0_letThroughAllThatCan 9 = .ok (.invokevirtual 113, 3) := by decide +kernel
theorem dX0_letThroughAllThatCan_12 : decode cX0_letThroughAllThatCan 12 = .ok (.istore_n 2, 1) := by decide +kernel
theorem dX0_letThroughAllThatCan_13 : decode cX0_letThroughAllThatCan 13 = .ok (.iload_n 2, 1) := by decide +kernel
theorem dX0_letThroughAllThatCan_14 : decode cX0_letThroughAllThatCan 14 = .ok (.iconst (-1), 1) := by decide +kernel
theorem dX0_letThroughAllThatCan_15 : decode cX0_letThroughAllThatCan 15 = .ok (.if_icmp .ne 5, 3) := by decide +kernel
theorem dX0_letThroughAllThatCan_18 : decode cX0_letThroughAllThatCan 18 = .ok (.iload_n 1, 1) := by decide +kernel
theorem dX0_letThroughAllThatCan_19 : decode cX0_letThroughAllThatCan 19 = .ok (.ireturn, 1) := by decide +kernel
theorem dX0_letThroughAllThatCan_20 : decode cX0_letThroughAllThatCan 20 = .ok (.aload_n 0, 1) := by decide +kernel
theorem dX0_letThroughAllThatCan_21 : decode cX0_letThroughAllThatCan 21 = .ok (.iload_n 2, 1) := by decide +kernel
theorem dX0_letThroughAllThatCan_22 : decode cX0_letThroughAllThatCan 22 = .ok (.invokevirtual 116, 3) := by decide +kernel
theorem dX0_letThroughAllThatCan_25 : decode cX0_letThroughAllThatCan 25 = .ok (.iinc 1 1, 3) := by decide +kernel
theorem dX0_letThroughAllThatCan_28 : decode cX0_letThroughAllThatCan 28 = .ok (.goto (-26), 3) := by decide +kernel
theorem dX0_letThroughAllThatCan_31 : decode cX0_letThroughAllThatCan 31 = .ok (.iload_n 1, 1) := by decide +kernel
theorem dX0_letThroughAllThatCan_32 : decode cX0_letThroughAllThatCan 32 = .ok (.ireturn, 1) := by decide +kernel
set_option maxRecDepth 20000 in
theorem ggX0_firstThatCanComeThrough_X0_canComeThrough : GoodIn wsX0_firstThatCanComeThrough wsX0_canComeThrough := goodIn_r _ [8, 9, 10, 11, 12, 7, 13, 14, 15, 16, 17, 18, 19, 20, 21, 22, 23, 24, 25, 26, 27, 28, 29, 30, 31, 32, 33, 34, 35, 36, 37] (by decide +kernel) (by decide +kernel)
set_option maxRecDepth 20000 in
theorem gX0_firstThatCanComeThrough_X0_canComeThrough : GoodIn wsX0_firstThatCanComeThrough (wsV RX0 64 RX0 yX0_canComeThrough wsX0_canComeThrough) := goodIn_app (goodIn_of _ (by decide +kernel)) ggX0_firstThatCanComeThrough_X0_canComeThrough
theorem dX0_firstThatCanComeThrough_0 : decode cX0_firstThatCanComeThrough 0 = .ok (.iconst 0, 1) := by decide +kernel
theorem dX0_firstThatCanComeThrough_1 : decode cX0_firstThatCanComeThrough 1 = .ok (.istore_n 1, 1) := by decide +kernel
theorem dX0_firstThatCanComeThrough_2 : decode cX0_firstThatCanComeThrough 2 = .ok (.iload_n 1, 1) := by decide +kernel
theorem dX0_firstThatCanComeThrough_3 : decode cX0_firstThatCanComeThrough 3 = .ok (.aload_n 0, 1) := by decide +kernel
theorem dX0_firstThatCanComeThrough_4 : decode cX0_firstThatCanComeThrough 4 = .ok (.getfield 30, 3) := by decide +kernel
theorem dX0_firstThatCanComeThrough_7 : decode cX0_firstThatCanComeThrough 7 = .ok (.if_icmp .ge 30, 3) := by decide +kernel
theorem dX0_firstThatCanComeThrough_10 : decode cX0_firstThatCanComeThrough 10 = .ok (.aload_n 0, 1) := by decide +kernel
theorem dX0_firstThatCanComeThrough_11 : decode cX0_firstThatCanComeThrough 11 = .ok (.aload_n 0, 1) := by decide +kernel
theorem dX0_firstThatCanComeThrough_12 : decode cX0_firstThatCanComeThrough 12 = .ok (.getfield 16, 3) := by decide +kernel
theorem dX0_firstThatCanComeThrough_15 : decode cX0_firstThatCanComeThrough 15 = .ok (.iload_n 1, 1) := by decide +kernel
theorem dX0_firstThatCanComeThrough_16 : decode cX0_firstThatCanComeThrough 16 = .ok (.iaload, 1) := by decide +kernel
theorem dX0_firstThatCanComeThrough_17 : decode cX0_firstThatCanComeThrough 17 = .ok (.aload_n 0, 1) := by decide +kernel
theorem dX0_firstThatCanComeThrough_18 : decode cX0_firstThatCanComeThrough 18 = .ok (.getfield 19, 3) := by decide +kernel
theorem dX0_firstThatCanComeThrough_21 : decode cX0_firstThatCanComeThrough 21 = .ok (.iload_n 1, 1) := by decide +kernel
theorem dX0_firstThatCanComeThrough_22 : decode cX0_firstThatCanComeThrough 22 = .ok (.laload, 1) := by decide +kernel
theorem dX0_firstThatCanComeThrough_23 : decode cX0_firstThatCanComeThrough 23 = .ok (.invokevirtual 64, 3) := by decide +kernel
theorem dX0_firstThatCanComeThrough_26 : decode cX0_firstThatCanComeThrough 26 = .ok (.ifCond .eq 5, 3) := by decide +kernel
theorem dX0_firstThatCanComeThrough_29 : decode cX0_firstThatCanComeThrough 29 = .ok (.iload_n 1, 1) := by decide +kernel
theorem dX0_firstThatCanComeThrough_30 : decode cX0_firstThatCanComeThrough 30 = .ok (.ireturn, 1) := by decide +kernel
theorem dX0_firstThatCanComeThrough_31 : decode cX0_firstThatCanComeThrough 31 = .ok (.iinc 1 1, 3) := by decide +kernel
theorem dX0_firstThatCanComeThrough_34 : decode cX0_firstThatCanComeThrough 34 = .ok (.goto (-32), 3) := by decide +kernel
theorem dX0_firstThatCanComeThrough_37 : decode cX0_firstThatCanComeThrough 37 = .ok (.iconst (-1), 1) := by decide +kernel
theorem dX0_firstThatCanComeThrough_38 : decode cX0_firstThatCanComeThrough 38 = .ok (.ireturn, 1) := by decide +kernel
set_option maxRecDepth 20000 in
theorem ggX0_letThrough_X0_actorOf : GoodIn wsX0_letThrough wsX0_actorOf := goodIn_r _ [10] (by decide +kernel) (by decide +kernel)
set_option maxRecDepth 20000 in
theorem gX0_letThrough_X0_actorOf : GoodIn wsX0_letThrough (va_wsS RX0 91 yX0_actorOf wsX0_actorOf) := goodIn_app (goodIn_of _ (by decide +kernel)) ggX0_letThrough_X0_actorOf
set_option maxRecDepth 20000 in
theorem ggX0_letThrough_X0_removeWaiting : GoodIn wsX0_letThrough wsX0_removeWaiting := goodIn_r _ [14, 15, 16, 17, 18, 9, 19, 3, 20, 5, 21, 22, 23, 24, 25, 26, 27, 28, 29, 30] (by decide +kernel) (by decide +kernel)
set_option maxRecDepth 20000 in
theorem gX0_letThrough_X0_removeWaiting : GoodIn wsX0_letThrough (wsV RX0 120 RX0 yX0_removeWaiting wsX0_removeWaiting) := goodIn_app (goodIn_of _ (by decide +kernel)) ggX0_letThrough_X0_removeWaiting
theorem dX0_letThrough_0 : decode cX0_letThrough 0 = .ok (.aload_n 0, 1) := by decide +kernel
theorem dX0_letThrough_1 : decode cX0_letThrough 1 = .ok (.getfield 9, 3) := by decide +kernel
theorem dX0_letThrough_4 : decode cX0_letThrough 4 = .ok (.aload_n 0, 1) := by decide +kernel
theorem dX0_letThrough_5 : decode cX0_letThrough 5 = .ok (.getfield 26, 3) := by decide +kernel
theorem dX0_letThrough_8 : decode cX0_letThrough 8 = .ok (.aload_n 0, 1) := by decide +kernel
theorem dX0_letThrough_9 : decode cX0_letThrough 9 = .ok (.getfield 16, 3) := by decide +kernel
theorem dX0_letThrough_12 : decode cX0_letThrough 12 = .ok (.iload_n 1, 1) := by decide +kernel
theorem dX0_letThrough_13 : decode cX0_letThrough 13 = .ok (.iaload, 1) := by decide +kernel
theorem dX0_letThrough_14 : decode cX0_letThrough 14 = .ok (.iastore, 1) := by decide +kernel
theorem dX0_letThrough_15 : decode cX0_letThrough 15 = .ok (.aload_n 0, 1) := by decide +kernel
theorem dX0_letThrough_16 : decode cX0_letThrough 16 = .ok (.getfield 13, 3) := by decide +kernel
theorem dX0_letThrough_19 : decode cX0_letThrough 19 = .ok (.aload_n 0, 1) := by decide +kernel
theorem dX0_letThrough_20 : decode cX0_letThrough 20 = .ok (.getfield 26, 3) := by decide +kernel
theorem dX0_letThrough_23 : decode cX0_letThrough 23 = .ok (.aload_n 0, 1) := by decide +kernel
theorem dX0_letThrough_24 : decode cX0_letThrough 24 = .ok (.getfield 23, 3) := by decide +kernel
theorem dX0_letThrough_27 : decode cX0_letThrough 27 = .ok (.iload_n 1, 1) := by decide +kernel
theorem dX0_letThrough_28 : decode cX0_letThrough 28 = .ok (.iaload, 1) := by decide +kernel
theorem dX0_letThrough_29 : decode cX0_letThrough 29 = .ok (.iastore, 1) := by decide +kernel
theorem dX0_letThrough_30 : decode cX0_letThrough 30 = .ok (.aload_n 0, 1) := by decide +kernel
theorem dX0_letThrough_31 : decode cX0_letThrough 31 = .ok (.dup, 1) := by decide +kernel
theorem dX0_letThrough_32 : decode cX0_letThrough 32 = .ok (.getfield 26, 3) := by decide +kernel
theorem dX0_letThrough_35 : decode cX0_letThrough 35 = .ok (.iconst 1, 1) := by decide +kernel
theorem dX0_letThrough_36 : decode cX0_letThrough 36 = .ok (.iadd, 1) := by decide +kernel
theorem dX0_letThrough_37 : decode cX0_letThrough 37 = .ok (.putfield 26, 3) := by decide +kernel
theorem dX0_letThrough_40 : decode cX0_letThrough 40 = .ok (.aload_n 0, 1) := by decide +kernel
theorem dX0_letThrough_41 : decode cX0_letThrough 41 = .ok (.dup, 1) := by decide +kernel
theorem dX0_letThrough_42 : decode cX0_letThrough 42 = .ok (.getfield 33, 3) := by decide +kernel
theorem dX0_letThrough_45 : decode cX0_letThrough 45 = .ok (.lconst 1, 1) := by decide +kernel
theorem dX0_letThrough_46 : decode cX0_letThrough 46 = .ok (.bipush 8, 2) := by decide +kernel
theorem dX0_letThrough_48 : decode cX0_letThrough 48 = .ok (.aload_n 0, 1) := by decide +kernel
theorem dX0_letThrough_49 : decode cX0_letThrough 49 = .ok (.getfield 16, 3) := by decide +kernel
theorem dX0_letThrough_52 : decode cX0_letThrough 52 = .ok (.iload_n 1, 1) := by decide +kernel
theorem dX0_letThrough_53 : decode cX0_letThrough 53 = .ok (.iaload, 1) := by decide +kernel
theorem dX0_letThrough_54 : decode cX0_letThrough 54 = .ok (.invokestatic 91, 3) := by decide +kernel
theorem dX0_letThrough_57 : decode cX0_letThrough 57 = .ok (.imul, 1) := by decide +kernel
theorem dX0_letThrough_58 : decode cX0_letThrough 58 = .ok (.lshl, 1) := by decide +kernel
theorem dX0_letThrough_59 : decode cX0_letThrough 59 = .ok (.ladd, 1) := by decide +kernel
theorem dX0_letThrough_60 : decode cX0_letThrough 60 = .ok (.putfield 33, 3) := by decide +kernel
theorem dX0_letThrough_63 : decode cX0_letThrough 63 = .ok (.aload_n 0, 1) := by decide +kernel
theorem dX0_letThrough_64 : decode cX0_letThrough 64 = .ok (.iload_n 1, 1) := by decide +kernel
theorem dX0_letThrough_65 : decode cX0_letThrough 65 = .ok (.invokevirtual 120, 3) := by decide +kernel
theorem dX0_letThrough_68 : decode cX0_letThrough 68 = .ok (.return_, 1) := by decide +kernel
set_option maxRecDepth 20000 in
theorem ggX0_insertWaiting_X0_moveWaiting : GoodIn wsX0_insertWaiting wsX0_moveWaiting := goodIn_r _ [9, 2, 3, 4, 10, 11, 12, 13, 14, 15, 16, 17, 18, 19] (by decide +kernel) (by decide +kernel)
set_option maxRecDepth 20000 in
theorem gX0_insertWaiting_X0_moveWaiting : GoodIn wsX0_insertWaiting (wsV RX0 109 RX0 yX0_moveWaiting wsX0_moveWaiting) := goodIn_app (goodIn_of _ (by decide +kernel)) ggX0_insertWaiting_X0_moveWaiting
theorem dX0_insertWaiting_0 : decode cX0_insertWaiting 0 = .ok (.aload_n 0, 1) := by decide +kernel
theorem dX0_insertWaiting_1 : decode cX0_insertWaiting 1 = .ok (.getfield 30, 3) := by decide +kernel
theorem dX0_insertWaiting_4 : decode cX0_insertWaiting 4 = .ok (.istore 5, 2) := by decide +kernel
theorem dX0_insertWaiting_6 : decode cX0_insertWaiting 6 = .ok (.iload 5, 2) := by decide +kernel
theorem dX0_insertWaiting_8 : decode cX0_insertWaiting 8 = .ok (.ifCond .le 32, 3) := by decide +kernel
theorem dX0_insertWaiting_11 : decode cX0_insertWaiting 11 = .ok (.aload_n 0, 1) := by decide +kernel
theorem dX0_insertWaiting_12 : decode cX0_insertWaiting 12 = .ok (.getfield 16, 3) := by decide +kernel
theorem dX0_insertWaiting_15 : decode cX0_insertWaiting 15 = .ok (.iload 5, 2) := by decide +kernel
theorem dX0_insertWaiting_17 : decode cX0_insertWaiting 17 = .ok (.iconst 1, 1) := by decide +kernel
theorem dX0_insertWaiting_18 : decode cX0_insertWaiting 18 = .ok (.isub, 1) := by decide +kernel
theorem dX0_insertWaiting_19 : decode cX0_insertWaiting 19 = .ok (.iaload, 1) := by decide +kernel
theorem dX0_insertWaiting_20 : decode cX0_insertWaiting 20 = .ok (.iload_n 1, 1) := by decide +kernel
theorem dX0_insertWaiting_21 : decode cX0_insertWaiting 21 = .ok (.if_icmp .le 19, 3) := by decide +kernel
theorem dX0_insertWaiting_24 : decode cX0_insertWaiting 24 = .ok (.aload_n 0, 1) := by decide +kernel
theorem dX0_insertWaiting_25 : decode cX0_insertWaiting 25 = .ok (.iload 5, 2) := by decide +kernel
theorem dX0_insertWaiting_27 : decode cX0_insertWaiting 27 = .ok (.iconst 1, 1) := by decide +kernel
theorem dX0_insertWaiting_28 : decode cX0_insertWaiting 28 = .ok (.isub, 1) := by decide +kernel
theorem dX0_insertWaiting_29 : decode cX0_insertWaiting 29 = .ok (.iload 5, 2) := by decide +kernel
theorem dX0_insertWaiting_31 : decode cX0_insertWaiting 31 = .ok (.invokevirtual 109, 3) := by decide +kernel
theorem dX0_insertWaiting_34 : decode cX0_insertWaiting 34 = .ok (.iinc 5 (-1), 3) := by decide +kernel
theorem dX0_insertWaiting_37 : decode cX0_insertWaiting 37 = .ok (.goto (-31), 3) := by decide +kernel
theorem dX0_insertWaiting_40 : decode cX0_insertWaiting 40 = .ok (.aload_n 0, 1) := by decide +kernel
theorem dX0_insertWaiting_41 : decode cX0_insertWaiting 41 = .ok (.getfield 16, 3) := by decide +kernel
theorem dX0_insertWaiting_44 : decode cX0_insertWaiting 44 = .ok (.iload 5, 2) := by decide +kernel
theorem dX0_insertWaiting_46 : decode cX0_insertWaiting 46 = .ok (.iload_n 1, 1) := by decide +kernel
theorem dX0_insertWaiting_47 : decode cX0_insertWaiting 47 = .ok (.iastore, 1) := by decide +kernel
theorem dX0_insertWaiting_48 : decode cX0_insertWaiting 48 = .ok (.aload_n 0, 1) := by decide +kernel
theorem dX0_insertWaiting_49 : decode cX0_insertWaiting 49 = .ok (.getfield 19, 3) := by decide +kernel
theorem dX0_insertWaiting_52 : decode cX0_insertWaiting 52 = .ok (.iload 5, 2) := by decide +kernel
theorem dX0_insertWaiting_54 : decode cX0_insertWaiting 54 = .ok (.lload_n 2, 1) := by decide +kernel
theorem dX0_insertWaiting_55 : decode cX0_insertWaiting 55 = .ok (.lastore, 1) := by decide +kernel
theorem dX0_insertWaiting_56 : decode cX0_insertWaiting 56 = .ok (.aload_n 0, 1) := by decide +kernel
theorem dX0_insertWaiting_57 : decode cX0_insertWaiting 57 = .ok (.getfield 23, 3) := by decide +kernel
theorem dX0_insertWaiting_60 : decode cX0_insertWaiting 60 = .ok (.iload 5, 2) := by decide +kernel
theorem dX0_insertWaiting_62 : decode cX0_insertWaiting 62 = .ok (.iload 4, 2) := by decide +kernel
theorem dX0_insertWaiting_64 : decode cX0_insertWaiting 64 = .ok (.iastore, 1) := by decide +kernel
theorem dX0_insertWaiting_65 : decode cX0_insertWaiting 65 = .ok (.aload_n 0, 1) := by decide +kernel
theorem dX0_insertWaiting_66 : decode cX0_insertWaiting 66 = .ok (.dup, 1) := by decide +kernel
theorem dX0_insertWaiting_67 : decode cX0_insertWaiting 67 = .ok (.getfield 30, 3) := by decide +kernel
theorem dX0_insertWaiting_70 : decode cX0_insertWaiting 70 = .ok (.iconst 1, 1) := by decide +kernel
theorem dX0_insertWaiting_71 : decode cX0_insertWaiting 71 = .ok (.iadd, 1) := by decide +kernel
theorem dX0_insertWaiting_72 : decode cX0_insertWaiting 72 = .ok (.putfield 30, 3) := by decide +kernel
theorem dX0_insertWaiting_75 : decode cX0_insertWaiting 75 = .ok (.return_, 1) := by decide +kernel
set_option maxRecDepth 20000 in
theorem ggX0_removeWaiting_X0_moveWaiting : GoodIn wsX0_removeWaiting wsX0_moveWaiting := goodIn_r _ [6, 7, 8, 9, 10, 11, 12, 13, 14, 15, 16, 17, 18, 19] (by decide +kernel) (by decide +kernel)
set_option maxRecDepth 20000 in
theorem gX0_removeWaiting_X0_moveWaiting : GoodIn wsX0_removeWaiting (wsV RX0 109 RX0 yX0_moveWaiting wsX0_moveWaiting) := goodIn_app (goodIn_of _ (by decide +kernel)) ggX0_removeWaiting_X0_moveWaiting
theorem dX0_removeWaiting_0 : decode cX0_removeWaiting 0 = .ok (.iload_n 1, 1) := by decide +kernel
theorem dX0_removeWaiting_1 : decode cX0_removeWaiting 1 = .ok (.iconst 1, 1) := by decide +kernel
theorem dX0_removeWaiting_2 : decode cX0_removeWaiting 2 = .ok (.iadd, 1) := by decide +kernel
theorem dX0_removeWaiting_3 : decode cX0_removeWaiting 3 = .ok (.istore_n 2, 1) := by decide +kernel
theorem dX0_removeWaiting_4 : decode cX0_removeWaiting 4 = .ok (.iload_n 2, 1) := by decide +kernel
theorem dX0_removeWaiting_5 : decode cX0_removeWaiting 5 = .ok (.aload_n 0, 1) := by decide +kernel
theorem dX0_removeWaiting_6 : decode cX0_removeWaiting 6 = .ok (.getfield 30, 3) := by decide +kernel
theorem dX0_removeWaiting_9 : decode cX0_removeWaiting 9 = .ok (.if_icmp .ge 17, 3) := by decide +kernel
theorem dX0_removeWaiting_12 : decode cX0_removeWaiting 12 = .ok (.aload_n 0, 1) := by decide +kernel
theorem dX0_removeWaiting_13 : decode cX0_removeWaiting 13 = .ok (.iload_n 2, 1) := by decide +kernel
theorem dX0_removeWaiting_14 : decode cX0_removeWaiting 14 = .ok (.iload_n 2, 1) := by decide +kernel
theorem dX0_removeWaiting_15 : decode cX0_removeWaiting 15 = .ok (.iconst 1, 1) := by decide +kernel
theorem dX0_removeWaiting_16 : decode cX0_removeWaiting 16 = .ok (.isub, 1) := by decide +kernel
theorem dX0_removeWaiting_17 : decode cX0_removeWaiting 17 = .ok (.invokevirtual 109, 3) := by decide +kernel
theorem dX0_removeWaiting_20 : decode cX0_removeWaiting 20 = .ok (.iinc 2 1, 3) := by decide +kernel
theorem dX0_removeWaiting_23 : decode cX0_removeWaiting 23 = .ok (.goto (-19), 3) := by decide +kernel
theorem dX0_removeWaiting_26 : decode cX0_removeWaiting 26 = .ok (.aload_n 0, 1) := by decide +kernel
theorem dX0_removeWaiting_27 : decode cX0_removeWaiting 27 = .ok (.dup, 1) := by decide +kernel
theorem dX0_removeWaiting_28 : decode cX0_removeWaiting 28 = .ok (.getfield 30, 3) := by decide +kernel
theorem dX0_removeWaiting_31 : decode cX0_removeWaiting 31 = .ok (.iconst 1, 1) := by decide +kernel
theorem dX0_removeWaiting_32 : decode cX0_removeWaiting 32 = .ok (.isub, 1) := by decide +kernel
theorem dX0_removeWaiting_33 : decode cX0_removeWaiting 33 = .ok (.putfield 30, 3) := by decide +kernel
theorem dX0_removeWaiting_36 : decode cX0_removeWaiting 36 = .ok (.return_, 1) := by decide +kernel
theorem dX0_moveWaiting_0 : decode cX0_moveWaiting 0 = .ok (.aload_n 0, 1) := by decide +kernel
theorem dX0_moveWaiting_1 : decode cX0_moveWaiting 1 = .ok (.getfield 16, 3) := by decide +kernel
theorem dX0_moveWaiting_4 : decode cX0_moveWaiting 4 = .ok (.iload_n 2, 1) := by decide +kernel
theorem dX0_moveWaiting_5 : decode cX0_moveWaiting 5 = .ok (.aload_n 0, 1) := by decide +kernel
theorem dX0_moveWaiting_6 : decode cX0_moveWaiting 6 = .ok (.getfield 16, 3) := by decide +kernel
theorem dX0_moveWaiting_9 : decode cX0_moveWaiting 9 = .ok (.iload_n 1, 1) := by decide +kernel
theorem dX0_moveWaiting_10 : decode cX0_moveWaiting 10 = .ok (.iaload, 1) := by decide +kernel
theorem dX0_moveWaiting_11 : decode cX0_moveWaiting 11 = .ok (.iastore, 1) := by decide +kernel
theorem dX0_moveWaiting_12 : decode cX0_moveWaiting 12 = .ok (.aload_n 0, 1) := by decide +kernel
theorem dX0_moveWaiting_13 : decode cX0_moveWaiting 13 = .ok (.getfield 19, 3) := by decide +kernel
theorem dX0_moveWaiting_16 : decode cX0_moveWaiting 16 = .ok (.iload_n 2, 1) := by decide +kernel
theorem dX0_moveWaiting_17 : decode cX0_moveWaiting 17 = .ok (.aload_n 0, 1) := by decide +kernel
theorem dX0_moveWaiting_18 : decode cX0_moveWaiting 18 = .ok (.getfield 19, 3) := by decide +kernel
theorem dX0_moveWaiting_21 : decode cX0_moveWaiting 21 = .ok (.iload_n 1, 1) := by decide +kernel
theorem dX0_moveWaiting_22 : decode cX0_moveWaiting 22 = .ok (.laload, 1) := by decide +kernel
theorem dX0_moveWaiting_23 : decode cX0_moveWaiting 23 = .ok (.lastore, 1) := by decide +kernel
theorem dX0_moveWaiting_24 : decode cX0_moveWaiting 24 = .ok (.aload_n 0, 1) := by decide +kernel
theorem dX0_moveWaiting_25 : decode cX0_moveWaiting 25 = .ok (.getfield 23, 3) := by decide +kernel
theorem dX0_moveWaiting_28 : decode cX0_moveWaiting 28 = .ok (.iload_n 2, 1) := by decide +kernel
theorem dX0_moveWaiting_29 : decode cX0_moveWaiting 29 = .ok (.aload_n 0, 1) := by decide +kernel
theorem dX0_moveWaiting_30 : decode cX0_moveWaiting 30 = .ok (.getfield 23, 3) := by decide +kernel
theorem dX0_moveWaiting_33 : decode cX0_moveWaiting 33 = .ok (.iload_n 1, 1) := by decide +kernel
theorem dX0_moveWaiting_34 : decode cX0_moveWaiting 34 = .ok (.iaload, 1) := by decide +kernel
theorem dX0_moveWaiting_35 : decode cX0_moveWaiting 35 = .ok (.iastore, 1) := by decide +kernel
theorem dX0_moveWaiting_36 : decode cX0_moveWaiting 36 = .ok (.return_, 1) := by decide +kernel
set_option maxRecDepth 20000 in
theorem ggL_offer_X0_offer : GoodIn wsL_offer wsX0_offer := goodIn_ca (goodIn_ca (goodIn_r _ [7, 8, 9, 10, 11, 12, 13, 14, 15, 16, 17, 18, 19, 20, 6, 21, 22, 23, 24, 25, 26, 27, 28, 29, 30, 31, 32, 33, 34, 35, 36, 37, 38, 39, 40, 41, 42, 43, 44, 45, 46, 47, 48, 49, 50, 51, 52, 53, 54, 55, 56, 57, 58, 59, 60, 61, 62, 63, 64, 65, 66, 67, 68, 69, 70, 71, 72, 73, 74, 75, 76, 77, 78, 79, 80, 81, 82, 83, 84, 85, 86, 87, 88, 89, 90, 91, 92, 93] (by decide +kernel) (by decide +kernel)) (goodIn_sub (fun _ h => List.mem_cons_of_mem _ (List.mem_append_left _ (List.mem_append_right _ h))) (by decide +kernel))) (goodIn_sub (fun _ h => List.mem_cons_of_mem _ (List.mem_append_right _ h)) (by decide +kernel))
set_option maxRecDepth 20000 in
theorem gL_offer_X0_offer : GoodIn wsL_offer (wsV RL 7 RX0 yX0_offer wsX0_offer) := goodIn_app (goodIn_of _ (by decide +kernel)) ggL_offer_X0_offer
theorem dL_offer_0 : decode cL_offer 0 = .ok (.aload 6, 2) := by decide +kernel
theorem dL_offer_2 : decode cL_offer 2 = .ok (.iconst 0, 1) := by decide +kernel
theorem dL_offer_3 : decode cL_offer 3 = .ok (.aload_n 0, 1) := by decide +kernel
theorem dL_offer_4 : decode cL_offer 4 = .ok (.iload_n 1, 1) := by decide +kernel
theorem dL_offer_5 : decode cL_offer 5 = .ok (.iload_n 2, 1) := by decide +kernel
theorem dL_offer_6 : decode cL_offer 6 = .ok (.lload_n 3, 1) := by decide +kernel
theorem dL_offer_7 : decode cL_offer 7 = .ok (.iload 5, 2) := by decide +kernel
theorem dL_offer_9 : decode cL_offer 9 = .ok (.invokevirtual 7, 3) := by decide +kernel
theorem dL_offer_12 : decode cL_offer 12 = .ok (.i2l, 1) := by decide +kernel
theorem dL_offer_13 : decode cL_offer 13 = .ok (.lastore, 1) := by decide +kernel
theorem dL_offer_14 : decode cL_offer 14 = .ok (.goto 11, 3) := by decide +kernel
theorem dL_offer_17 : decode cL_offer 17 = .ok (.astore 7, 2) := by decide +kernel
theorem dL_offer_19 : decode cL_offer 19 = .ok (.iconst 1, 1) := by decide +kernel
theorem dL_offer_20 : decode cL_offer 20 = .ok (.ireturn, 1) := by decide +kernel
theorem dL_offer_21 : decode cL_offer 21 = .ok (.astore 7, 2) := by decide +kernel
theorem dL_offer_23 : decode cL_offer 23 = .ok (.iconst 2, 1) := by decide +kernel
theorem dL_offer_24 : decode cL_offer 24 = .ok (.ireturn, 1) := by decide +kernel
theorem dL_offer_25 : decode cL_offer 25 = .ok (.iconst 0, 1) := by decide +kernel
theorem dL_offer_26 : decode cL_offer 26 = .ok (.ireturn, 1) := by decide +kernel
end
section
theorem dL_law_0 : decode cL_law 0 = .ok (.new 8, 3) := by decide +kernel
theorem dL_law_3 : decode cL_law 3 = .ok (.dup, 1) := by decide +kernel
theorem dL_law_4 : decode cL_law 4 = .ok (.invokespecial 26, 3) := by decide +kernel
theorem dL_law_7 : decode cL_law 7 = .ok (.astore_n 1, 1) := by decide +kernel
theorem dL_law_8 : decode cL_law 8 = .ok (.new 27, 3) := by decide +kernel
theorem dL_law_11 : decode cL_law 11 = .ok (.dup, 1) := by decide +kernel
theorem dL_law_12 : decode cL_law 12 = .ok (.invokespecial 29, 3) := by decide +kernel
theorem dL_law_15 : decode cL_law 15 = .ok (.astore_n 2, 1) := by decide +kernel
theorem dL_law_16 : decode cL_law 16 = .ok (.iconst 1, 1) := by decide +kernel
theorem dL_law_17 : decode cL_law 17 = .ok (.newarray .long, 2) := by decide +kernel
theorem dL_law_19 : decode cL_law 19 = .ok (.astore_n 3, 1) := by decide +kernel
theorem dL_law_20 : decode cL_law 20 = .ok (.iconst 0, 1) := by decide +kernel
theorem dL_law_21 : decode cL_law 21 = .ok (.istore 4, 2) := by decide +kernel
theorem dL_law_23 : decode cL_law 23 = .ok (.iload 4, 2) := by decide +kernel
theorem dL_law_25 : decode cL_law 25 = .ok (.aload_n 0, 1) := by decide +kernel
theorem dL_law_26 : decode cL_law 26 = .ok (.arraylength, 1) := by decide +kernel
theorem dL_law_27 : decode cL_law 27 = .ok (.bipush 6, 2) := by decide +kernel
theorem dL_law_29 : decode cL_law 29 = .ok (.isub, 1) := by decide +kernel
theorem dL_law_30 : decode cL_law 30 = .ok (.if_icmp .gt 631, 3) := by decide +kernel
theorem dL_law_33 : decode cL_law 33 = .ok (.aload_n 0, 1) := by decide +kernel
theorem dL_law_34 : decode cL_law 34 = .ok (.iload 4, 2) := by decide +kernel
theorem dL_law_36 : decode cL_law 36 = .ok (.iaload, 1) := by decide +kernel
theorem dL_law_37 : decode cL_law 37 = .ok (.bipush 15, 2) := by decide +kernel
theorem dL_law_39 : decode cL_law 39 = .ok (.iand, 1) := by decide +kernel
theorem dL_law_40 : decode cL_law 40 = .ok (.tableswitch 615 0 10 #[60, 71, 195, 232, 246, 314, 382, 439, 508, 565, 590], 60) := by decide +kernel
theorem dL_law_100 : decode cL_law 100 = .ok (.aload_n 1, 1) := by decide +kernel
theorem dL_law_101 : decode cL_law 101 = .ok (.invokevirtual 30, 3) := by decide +kernel
theorem dL_law_104 : decode cL_law 104 = .ok (.aload_n 2, 1) := by decide +kernel
theorem dL_law_105 : decode cL_law 105 = .ok (.invokevirtual 33, 3) := by decide +kernel
theorem dL_law_108 : decode cL_law 108 = .ok (.goto 547, 3) := by decide +kernel
theorem dL_law_111 : decode cL_law 111 = .ok (.aload_n 1, 1) := by decide +kernel
theorem dL_law_112 : decode cL_law 112 = .ok (.aload_n 0, 1) := by decide +kernel
theorem dL_law_113 : decode cL_law 113 = .ok (.iload 4, 2) := by decide +kernel
theorem dL_law_115 : decode cL_law 115 = .ok (.iconst 1, 1) := by decide +kernel
theorem dL_law_116 : decode cL_law 116 = .ok (.iadd, 1) := by decide +kernel
theorem dL_law_117 : decode cL_law 117 = .ok (.iaload, 1) := by decide +kernel
theorem dL_law_118 : decode cL_law 118 = .ok (.aload_n 0, 1) := by decide +kernel
theorem dL_law_119 : decode cL_law 119 = .ok (.iload 4, 2) := by decide +kernel
theorem dL_law_121 : decode cL_law 121 = .ok (.iconst 2, 1) := by decide +kernel
theorem dL_law_122 : decode cL_law 122 = .ok (.iadd, 1) := by decide +kernel
theorem dL_law_123 : decode cL_law 123 = .ok (.iaload, 1) := by decide +kernel
theorem dL_law_124 : decode cL_law 124 = .ok (.aload_n 0, 1) := by decide +kernel
theorem dL_law_125 : decode cL_law 125 = .ok (.iload 4, 2) := by decide +kernel
theorem dL_law_127 : decode cL_law 127 = .ok (.iconst 3, 1) := by decide +kernel
theorem dL_law_128 : decode cL_law 128 = .ok (.iadd, 1) := by decide +kernel
theorem dL_law_129 : decode cL_law 129 = .ok (.iaload, 1) := by decide +kernel
theorem dL_law_130 : decode cL_law 130 = .ok (.i2l, 1) := by decide +kernel
theorem dL_law_131 : decode cL_law 131 = .ok (.bipush 32, 2) := by decide +kernel
theorem dL_law_133 : decode cL_law 133 = .ok (.lshl, 1) := by decide +kernel
theorem dL_law_134 : decode cL_law 134 = .ok (.aload_n 0, 1) := by decide +kernel
theorem dL_law_135 : decode cL_law 135 = .ok (.iload 4, 2) := by decide +kernel
theorem dL_law_137 : decode cL_law 137 = .ok (.iconst 4, 1) := by decide +kernel
theorem dL_law_138 : decode cL_law 138 = .ok (.iadd, 1) := by decide +kernel
theorem dL_law_139 : decode cL_law 139 = .ok (.iaload, 1) := by decide +kernel
theorem dL_law_140 : decode cL_law 140 = .ok (.i2l, 1) := by decide +kernel
theorem dL_law_141 : decode cL_law 141 = .ok (.ldc2_w 34, 3) := by decide +kernel
theorem dL_law_144 : decode cL_law 144 = .ok (.land, 1) := by decide +kernel
theorem dL_law_145 : decode cL_law 145 = .ok (.lor, 1) := by decide +kernel
theorem dL_law_146 : decode cL_law 146 = .ok (.aload_n 0, 1) := by decide +kernel
theorem dL_law_147 : decode cL_law 147 = .ok (.iload 4, 2) := by decide +kernel
end
section
theorem dL_law_149 : decode cL_law 149 = .ok (.iconst 5, 1) := by decide +kernel
theorem dL_law_150 : decode cL_law 150 = .ok (.iadd, 1) := by decide +kernel
theorem dL_law_151 : decode cL_law 151 = .ok (.iaload, 1) := by decide +kernel
theorem dL_law_152 : decode cL_law 152 = .ok (.aload_n 3, 1) := by decide +kernel
theorem dL_law_153 : decode cL_law 153 = .ok (.invokestatic 36, 3) := by decide +kernel
theorem dL_law_156 : decode cL_law 156 = .ok (.istore 5, 2) := by decide +kernel
theorem dL_law_158 : decode cL_law 158 = .ok (.aload_n 2, 1) := by decide +kernel
theorem dL_law_159 : decode cL_law 159 = .ok (.aload_n 0, 1) := by decide +kernel
theorem dL_law_160 : decode cL_law 160 = .ok (.iload 4, 2) := by decide +kernel
theorem dL_law_162 : decode cL_law 162 = .ok (.iconst 1, 1) := by decide +kernel
theorem dL_law_163 : decode cL_law 163 = .ok (.iadd, 1) := by decide +kernel
theorem dL_law_164 : decode cL_law 164 = .ok (.iaload, 1) := by decide +kernel
theorem dL_law_165 : decode cL_law 165 = .ok (.aload_n 0, 1) := by decide +kernel
theorem dL_law_166 : decode cL_law 166 = .ok (.iload 4, 2) := by decide +kernel
theorem dL_law_168 : decode cL_law 168 = .ok (.iconst 2, 1) := by decide +kernel
theorem dL_law_169 : decode cL_law 169 = .ok (.iadd, 1) := by decide +kernel
theorem dL_law_170 : decode cL_law 170 = .ok (.iaload, 1) := by decide +kernel
theorem dL_law_171 : decode cL_law 171 = .ok (.aload_n 0, 1) := by decide +kernel
theorem dL_law_172 : decode cL_law 172 = .ok (.iload 4, 2) := by decide +kernel
theorem dL_law_174 : decode cL_law 174 = .ok (.iconst 3, 1) := by decide +kernel
theorem dL_law_175 : decode cL_law 175 = .ok (.iadd, 1) := by decide +kernel
theorem dL_law_176 : decode cL_law 176 = .ok (.iaload, 1) := by decide +kernel
theorem dL_law_177 : decode cL_law 177 = .ok (.i2l, 1) := by decide +kernel
theorem dL_law_178 : decode cL_law 178 = .ok (.bipush 32, 2) := by decide +kernel
theorem dL_law_180 : decode cL_law 180 = .ok (.lshl, 1) := by decide +kernel
theorem dL_law_181 : decode cL_law 181 = .ok (.aload_n 0, 1) := by decide +kernel
theorem dL_law_182 : decode cL_law 182 = .ok (.iload 4, 2) := by decide +kernel
theorem dL_law_184 : decode cL_law 184 = .ok (.iconst 4, 1) := by decide +kernel
theorem dL_law_185 : decode cL_law 185 = .ok (.iadd, 1) := by decide +kernel
theorem dL_law_186 : decode cL_law 186 = .ok (.iaload, 1) := by decide +kernel
theorem dL_law_187 : decode cL_law 187 = .ok (.i2l, 1) := by decide +kernel
theorem dL_law_188 : decode cL_law 188 = .ok (.ldc2_w 34, 3) := by decide +kernel
theorem dL_law_191 : decode cL_law 191 = .ok (.land, 1) := by decide +kernel
theorem dL_law_192 : decode cL_law 192 = .ok (.lor, 1) := by decide +kernel
theorem dL_law_193 : decode cL_law 193 = .ok (.aload_n 0, 1) := by decide +kernel
theorem dL_law_194 : decode cL_law 194 = .ok (.iload 4, 2) := by decide +kernel
theorem dL_law_196 : decode cL_law 196 = .ok (.iconst 5, 1) := by decide +kernel
theorem dL_law_197 : decode cL_law 197 = .ok (.iadd, 1) := by decide +kernel
theorem dL_law_198 : decode cL_law 198 = .ok (.iaload, 1) := by decide +kernel
theorem dL_law_199 : decode cL_law 199 = .ok (.invokevirtual 41, 3) := by decide +kernel
theorem dL_law_202 : decode cL_law 202 = .ok (.istore 6, 2) := by decide +kernel
theorem dL_law_204 : decode cL_law 204 = .ok (.aload_n 2, 1) := by decide +kernel
theorem dL_law_205 : decode cL_law 205 = .ok (.invokevirtual 42, 3) := by decide +kernel
theorem dL_law_208 : decode cL_law 208 = .ok (.iload 5, 2) := by decide +kernel
theorem dL_law_210 : decode cL_law 210 = .ok (.if_icmp .eq 5, 3) := by decide +kernel
theorem dL_law_213 : decode cL_law 213 = .ok (.iconst 0, 1) := by decide +kernel
theorem dL_law_214 : decode cL_law 214 = .ok (.ireturn, 1) := by decide +kernel
theorem dL_law_215 : decode cL_law 215 = .ok (.iload 5, 2) := by decide +kernel
theorem dL_law_217 : decode cL_law 217 = .ok (.ifCond .ne 15, 3) := by decide +kernel
theorem dL_law_220 : decode cL_law 220 = .ok (.aload_n 3, 1) := by decide +kernel
theorem dL_law_221 : decode cL_law 221 = .ok (.iconst 0, 1) := by decide +kernel
theorem dL_law_222 : decode cL_law 222 = .ok (.laload, 1) := by decide +kernel
theorem dL_law_223 : decode cL_law 223 = .ok (.iload 6, 2) := by decide +kernel
theorem dL_law_225 : decode cL_law 225 = .ok (.i2l, 1) := by decide +kernel
theorem dL_law_226 : decode cL_law 226 = .ok (.lcmp, 1) := by decide +kernel
theorem dL_law_227 : decode cL_law 227 = .ok (.ifCond .eq 5, 3) := by decide +kernel
theorem dL_law_230 : decode cL_law 230 = .ok (.iconst 0, 1) := by decide +kernel
theorem dL_law_231 : decode cL_law 231 = .ok (.ireturn, 1) := by decide +kernel
theorem dL_law_232 : decode cL_law 232 = .ok (.goto 423, 3) := by decide +kernel
theorem dL_law_235 : decode cL_law 235 = .ok (.aload_n 1, 1) := by decide +kernel
end
section
theorem dL_law_236 : decode cL_law 236 = .ok (.aload_n 0, 1) := by decide +kernel
theorem dL_law_237 : decode cL_law 237 = .ok (.iload 4, 2) := by decide +kernel
theorem dL_law_239 : decode cL_law 239 = .ok (.iconst 1, 1) := by decide +kernel
theorem dL_law_240 : decode cL_law 240 = .ok (.iadd, 1) := by decide +kernel
theorem dL_law_241 : decode cL_law 241 = .ok (.iaload, 1) := by decide +kernel
theorem dL_law_242 : decode cL_law 242 = .ok (.aload_n 0, 1) := by decide +kernel
theorem dL_law_243 : decode cL_law 243 = .ok (.iload 4, 2) := by decide +kernel
theorem dL_law_245 : decode cL_law 245 = .ok (.iconst 2, 1) := by decide +kernel
theorem dL_law_246 : decode cL_law 246 = .ok (.iadd, 1) := by decide +kernel
theorem dL_law_247 : decode cL_law 247 = .ok (.iaload, 1) := by decide +kernel
theorem dL_law_248 : decode cL_law 248 = .ok (.invokevirtual 46, 3) := by decide +kernel
theorem dL_law_251 : decode cL_law 251 = .ok (.aload_n 2, 1) := by decide +kernel
theorem dL_law_252 : decode cL_law 252 = .ok (.aload_n 0, 1) := by decide +kernel
theorem dL_law_253 : decode cL_law 253 = .ok (.iload 4, 2) := by decide +kernel
theorem dL_law_255 : decode cL_law 255 = .ok (.iconst 1, 1) := by decide +kernel
theorem dL_law_256 : decode cL_law 256 = .ok (.iadd, 1) := by decide +kernel
theorem dL_law_257 : decode cL_law 257 = .ok (.iaload, 1) := by decide +kernel
theorem dL_law_258 : decode cL_law 258 = .ok (.aload_n 0, 1) := by decide +kernel
theorem dL_law_259 : decode cL_law 259 = .ok (.iload 4, 2) := by decide +kernel
theorem dL_law_261 : decode cL_law 261 = .ok (.iconst 2, 1) := by decide +kernel
theorem dL_law_262 : decode cL_law 262 = .ok (.iadd, 1) := by decide +kernel
theorem dL_law_263 : decode cL_law 263 = .ok (.iaload, 1) := by decide +kernel
theorem dL_law_264 : decode cL_law 264 = .ok (.invokevirtual 50, 3) := by decide +kernel
theorem dL_law_267 : decode cL_law 267 = .ok (.if_icmp .eq 388, 3) := by decide +kernel
theorem dL_law_270 : decode cL_law 270 = .ok (.iconst 0, 1) := by decide +kernel
theorem dL_law_271 : decode cL_law 271 = .ok (.ireturn, 1) := by decide +kernel
theorem dL_law_272 : decode cL_law 272 = .ok (.aload_n 1, 1) := by decide +kernel
theorem dL_law_273 : decode cL_law 273 = .ok (.invokevirtual 51, 3) := by decide +kernel
theorem dL_law_276 : decode cL_law 276 = .ok (.aload_n 2, 1) := by decide +kernel
theorem dL_law_277 : decode cL_law 277 = .ok (.invokevirtual 55, 3) := by decide +kernel
theorem dL_law_280 : decode cL_law 280 = .ok (.lcmp, 1) := by decide +kernel
theorem dL_law_281 : decode cL_law 281 = .ok (.ifCond .eq 374, 3) := by decide +kernel
theorem dL_law_284 : decode cL_law 284 = .ok (.iconst 0, 1) := by decide +kernel
theorem dL_law_285 : decode cL_law 285 = .ok (.ireturn, 1) := by decide +kernel
theorem dL_law_286 : decode cL_law 286 = .ok (.aload_n 1, 1) := by decide +kernel
theorem dL_law_287 : decode cL_law 287 = .ok (.aload_n 0, 1) := by decide +kernel
theorem dL_law_288 : decode cL_law 288 = .ok (.iload 4, 2) := by decide +kernel
theorem dL_law_290 : decode cL_law 290 = .ok (.iconst 1, 1) := by decide +kernel
theorem dL_law_291 : decode cL_law 291 = .ok (.iadd, 1) := by decide +kernel
theorem dL_law_292 : decode cL_law 292 = .ok (.iaload, 1) := by decide +kernel
theorem dL_law_293 : decode cL_law 293 = .ok (.aload_n 0, 1) := by decide +kernel
theorem dL_law_294 : decode cL_law 294 = .ok (.iload 4, 2) := by decide +kernel
theorem dL_law_296 : decode cL_law 296 = .ok (.iconst 2, 1) := by decide +kernel
theorem dL_law_297 : decode cL_law 297 = .ok (.iadd, 1) := by decide +kernel
theorem dL_law_298 : decode cL_law 298 = .ok (.iaload, 1) := by decide +kernel
theorem dL_law_299 : decode cL_law 299 = .ok (.aload_n 3, 1) := by decide +kernel
theorem dL_law_300 : decode cL_law 300 = .ok (.invokestatic 56, 3) := by decide +kernel
theorem dL_law_303 : decode cL_law 303 = .ok (.istore 5, 2) := by decide +kernel
theorem dL_law_305 : decode cL_law 305 = .ok (.aload_n 2, 1) := by decide +kernel
theorem dL_law_306 : decode cL_law 306 = .ok (.aload_n 0, 1) := by decide +kernel
theorem dL_law_307 : decode cL_law 307 = .ok (.iload 4, 2) := by decide +kernel
theorem dL_law_309 : decode cL_law 309 = .ok (.iconst 1, 1) := by decide +kernel
theorem dL_law_310 : decode cL_law 310 = .ok (.iadd, 1) := by decide +kernel
theorem dL_law_311 : decode cL_law 311 = .ok (.iaload, 1) := by decide +kernel
theorem dL_law_312 : decode cL_law 312 = .ok (.aload_n 0, 1) := by decide +kernel
theorem dL_law_313 : decode cL_law 313 = .ok (.iload 4, 2) := by decide +kernel
theorem dL_law_315 : decode cL_law 315 = .ok (.iconst 2, 1) := by decide +kernel
theorem dL_law_316 : decode cL_law 316 = .ok (.iadd, 1) := by decide +kernel
theorem dL_law_317 : decode cL_law 317 = .ok (.iaload, 1) := by decide +kernel
theorem dL_law_318 : decode cL_law 318 = .ok (.invokevirtual 59, 3) := by decide +kernel
end
section
theorem dL_law_321 : decode cL_law 321 = .ok (.istore 6, 2) := by decide +kernel
theorem dL_law_323 : decode cL_law 323 = .ok (.aload_n 2, 1) := by decide +kernel
theorem dL_law_324 : decode cL_law 324 = .ok (.invokevirtual 42, 3) := by decide +kernel
theorem dL_law_327 : decode cL_law 327 = .ok (.iload 5, 2) := by decide +kernel
theorem dL_law_329 : decode cL_law 329 = .ok (.if_icmp .eq 5, 3) := by decide +kernel
theorem dL_law_332 : decode cL_law 332 = .ok (.iconst 0, 1) := by decide +kernel
theorem dL_law_333 : decode cL_law 333 = .ok (.ireturn, 1) := by decide +kernel
theorem dL_law_334 : decode cL_law 334 = .ok (.iload 5, 2) := by decide +kernel
theorem dL_law_336 : decode cL_law 336 = .ok (.ifCond .ne 15, 3) := by decide +kernel
theorem dL_law_339 : decode cL_law 339 = .ok (.aload_n 3, 1) := by decide +kernel
theorem dL_law_340 : decode cL_law 340 = .ok (.iconst 0, 1) := by decide +kernel
theorem dL_law_341 : decode cL_law 341 = .ok (.laload, 1) := by decide +kernel
theorem dL_law_342 : decode cL_law 342 = .ok (.iload 6, 2) := by decide +kernel
theorem dL_law_344 : decode cL_law 344 = .ok (.i2l, 1) := by decide +kernel
theorem dL_law_345 : decode cL_law 345 = .ok (.lcmp, 1) := by decide +kernel
theorem dL_law_346 : decode cL_law 346 = .ok (.ifCond .eq 5, 3) := by decide +kernel
theorem dL_law_349 : decode cL_law 349 = .ok (.iconst 0, 1) := by decide +kernel
theorem dL_law_350 : decode cL_law 350 = .ok (.ireturn, 1) := by decide +kernel
theorem dL_law_351 : decode cL_law 351 = .ok (.goto 304, 3) := by decide +kernel
theorem dL_law_354 : decode cL_law 354 = .ok (.aload_n 1, 1) := by decide +kernel
theorem dL_law_355 : decode cL_law 355 = .ok (.aload_n 0, 1) := by decide +kernel
theorem dL_law_356 : decode cL_law 356 = .ok (.iload 4, 2) := by decide +kernel
theorem dL_law_358 : decode cL_law 358 = .ok (.iconst 1, 1) := by decide +kernel
theorem dL_law_359 : decode cL_law 359 = .ok (.iadd, 1) := by decide +kernel
theorem dL_law_360 : decode cL_law 360 = .ok (.iaload, 1) := by decide +kernel
theorem dL_law_361 : decode cL_law 361 = .ok (.aload_n 0, 1) := by decide +kernel
theorem dL_law_362 : decode cL_law 362 = .ok (.iload 4, 2) := by decide +kernel
theorem dL_law_364 : decode cL_law 364 = .ok (.iconst 2, 1) := by decide +kernel
theorem dL_law_365 : decode cL_law 365 = .ok (.iadd, 1) := by decide +kernel
theorem dL_law_366 : decode cL_law 366 = .ok (.iaload, 1) := by decide +kernel
theorem dL_law_367 : decode cL_law 367 = .ok (.aload_n 3, 1) := by decide +kernel
theorem dL_law_368 : decode cL_law 368 = .ok (.invokestatic 60, 3) := by decide +kernel
theorem dL_law_371 : decode cL_law 371 = .ok (.istore 5, 2) := by decide +kernel
theorem dL_law_373 : decode cL_law 373 = .ok (.aload_n 2, 1) := by decide +kernel
theorem dL_law_374 : decode cL_law 374 = .ok (.aload_n 0, 1) := by decide +kernel
theorem dL_law_375 : decode cL_law 375 = .ok (.iload 4, 2) := by decide +kernel
theorem dL_law_377 : decode cL_law 377 = .ok (.iconst 1, 1) := by decide +kernel
theorem dL_law_378 : decode cL_law 378 = .ok (.iadd, 1) := by decide +kernel
theorem dL_law_379 : decode cL_law 379 = .ok (.iaload, 1) := by decide +kernel
theorem dL_law_380 : decode cL_law 380 = .ok (.aload_n 0, 1) := by decide +kernel
theorem dL_law_381 : decode cL_law 381 = .ok (.iload 4, 2) := by decide +kernel
theorem dL_law_383 : decode cL_law 383 = .ok (.iconst 2, 1) := by decide +kernel
theorem dL_law_384 : decode cL_law 384 = .ok (.iadd, 1) := by decide +kernel
theorem dL_law_385 : decode cL_law 385 = .ok (.iaload, 1) := by decide +kernel
theorem dL_law_386 : decode cL_law 386 = .ok (.invokevirtual 62, 3) := by decide +kernel
theorem dL_law_389 : decode cL_law 389 = .ok (.istore 6, 2) := by decide +kernel
theorem dL_law_391 : decode cL_law 391 = .ok (.aload_n 2, 1) := by decide +kernel
theorem dL_law_392 : decode cL_law 392 = .ok (.invokevirtual 42, 3) := by decide +kernel
theorem dL_law_395 : decode cL_law 395 = .ok (.iload 5, 2) := by decide +kernel
theorem dL_law_397 : decode cL_law 397 = .ok (.if_icmp .eq 5, 3) := by decide +kernel
theorem dL_law_400 : decode cL_law 400 = .ok (.iconst 0, 1) := by decide +kernel
theorem dL_law_401 : decode cL_law 401 = .ok (.ireturn, 1) := by decide +kernel
theorem dL_law_402 : decode cL_law 402 = .ok (.iload 5, 2) := by decide +kernel
theorem dL_law_404 : decode cL_law 404 = .ok (.ifCond .ne 15, 3) := by decide +kernel
theorem dL_law_407 : decode cL_law 407 = .ok (.aload_n 3, 1) := by decide +kernel
theorem dL_law_408 : decode cL_law 408 = .ok (.iconst 0, 1) := by decide +kernel
theorem dL_law_409 : decode cL_law 409 = .ok (.laload, 1) := by decide +kernel
theorem dL_law_410 : decode cL_law 410 = .ok (.iload 6, 2) := by decide +kernel
theorem dL_law_412 : decode cL_law 412 = .ok (.i2l, 1) := by decide +kernel
theorem dL_law_413 : decode cL_law 413 = .ok (.lcmp, 1) := by decide +kernel
end
section
theorem dL_law_414 : decode cL_law 414 = .ok (.ifCond .eq 5, 3) := by decide +kernel
theorem dL_law_417 : decode cL_law 417 = .ok (.iconst 0, 1) := by decide +kernel
theorem dL_law_418 : decode cL_law 418 = .ok (.ireturn, 1) := by decide +kernel
theorem dL_law_419 : decode cL_law 419 = .ok (.goto 236, 3) := by decide +kernel
theorem dL_law_422 : decode cL_law 422 = .ok (.aload_n 1, 1) := by decide +kernel
theorem dL_law_423 : decode cL_law 423 = .ok (.aload_n 0, 1) := by decide +kernel
theorem dL_law_424 : decode cL_law 424 = .ok (.iload 4, 2) := by decide +kernel
theorem dL_law_426 : decode cL_law 426 = .ok (.iconst 1, 1) := by decide +kernel
theorem dL_law_427 : decode cL_law 427 = .ok (.iadd, 1) := by decide +kernel
theorem dL_law_428 : decode cL_law 428 = .ok (.iaload, 1) := by decide +kernel
theorem dL_law_429 : decode cL_law 429 = .ok (.i2l, 1) := by decide +kernel
theorem dL_law_430 : decode cL_law 430 = .ok (.bipush 32, 2) := by decide +kernel
theorem dL_law_432 : decode cL_law 432 = .ok (.lshl, 1) := by decide +kernel
theorem dL_law_433 : decode cL_law 433 = .ok (.aload_n 0, 1) := by decide +kernel
theorem dL_law_434 : decode cL_law 434 = .ok (.iload 4, 2) := by decide +kernel
theorem dL_law_436 : decode cL_law 436 = .ok (.iconst 2, 1) := by decide +kernel
theorem dL_law_437 : decode cL_law 437 = .ok (.iadd, 1) := by decide +kernel
theorem dL_law_438 : decode cL_law 438 = .ok (.iaload, 1) := by decide +kernel
theorem dL_law_439 : decode cL_law 439 = .ok (.i2l, 1) := by decide +kernel
theorem dL_law_440 : decode cL_law 440 = .ok (.ldc2_w 34, 3) := by decide +kernel
theorem dL_law_443 : decode cL_law 443 = .ok (.land, 1) := by decide +kernel
theorem dL_law_444 : decode cL_law 444 = .ok (.lor, 1) := by decide +kernel
theorem dL_law_445 : decode cL_law 445 = .ok (.invokevirtual 63, 3) := by decide +kernel
theorem dL_law_448 : decode cL_law 448 = .ok (.aload_n 2, 1) := by decide +kernel
theorem dL_law_449 : decode cL_law 449 = .ok (.aload_n 0, 1) := by decide +kernel
theorem dL_law_450 : decode cL_law 450 = .ok (.iload 4, 2) := by decide +kernel
theorem dL_law_452 : decode cL_law 452 = .ok (.iconst 1, 1) := by decide +kernel
theorem dL_law_453 : decode cL_law 453 = .ok (.iadd, 1) := by decide +kernel
theorem dL_law_454 : decode cL_law 454 = .ok (.iaload, 1) := by decide +kernel
theorem dL_law_455 : decode cL_law 455 = .ok (.i2l, 1) := by decide +kernel
theorem dL_law_456 : decode cL_law 456 = .ok (.bipush 32, 2) := by decide +kernel
theorem dL_law_458 : decode cL_law 458 = .ok (.lshl, 1) := by decide +kernel
theorem dL_law_459 : decode cL_law 459 = .ok (.aload_n 0, 1) := by decide +kernel
theorem dL_law_460 : decode cL_law 460 = .ok (.iload 4, 2) := by decide +kernel
theorem dL_law_462 : decode cL_law 462 = .ok (.iconst 2, 1) := by decide +kernel
theorem dL_law_463 : decode cL_law 463 = .ok (.iadd, 1) := by decide +kernel
theorem dL_law_464 : decode cL_law 464 = .ok (.iaload, 1) := by decide +kernel
theorem dL_law_465 : decode cL_law 465 = .ok (.i2l, 1) := by decide +kernel
theorem dL_law_466 : decode cL_law 466 = .ok (.ldc2_w 34, 3) := by decide +kernel
theorem dL_law_469 : decode cL_law 469 = .ok (.land, 1) := by decide +kernel
theorem dL_law_470 : decode cL_law 470 = .ok (.lor, 1) := by decide +kernel
theorem dL_law_471 : decode cL_law 471 = .ok (.invokevirtual 67, 3) := by decide +kernel
theorem dL_law_474 : decode cL_law 474 = .ok (.if_icmp .eq 181, 3) := by decide +kernel
theorem dL_law_477 : decode cL_law 477 = .ok (.iconst 0, 1) := by decide +kernel
theorem dL_law_478 : decode cL_law 478 = .ok (.ireturn, 1) := by decide +kernel
theorem dL_law_479 : decode cL_law 479 = .ok (.aload_n 1, 1) := by decide +kernel
theorem dL_law_480 : decode cL_law 480 = .ok (.aload_n 0, 1) := by decide +kernel
theorem dL_law_481 : decode cL_law 481 = .ok (.iload 4, 2) := by decide +kernel
theorem dL_law_483 : decode cL_law 483 = .ok (.iconst 1, 1) := by decide +kernel
theorem dL_law_484 : decode cL_law 484 = .ok (.iadd, 1) := by decide +kernel
theorem dL_law_485 : decode cL_law 485 = .ok (.iaload, 1) := by decide +kernel
theorem dL_law_486 : decode cL_law 486 = .ok (.i2l, 1) := by decide +kernel
theorem dL_law_487 : decode cL_law 487 = .ok (.bipush 32, 2) := by decide +kernel
theorem dL_law_489 : decode cL_law 489 = .ok (.lshl, 1) := by decide +kernel
theorem dL_law_490 : decode cL_law 490 = .ok (.aload_n 0, 1) := by decide +kernel
theorem dL_law_491 : decode cL_law 491 = .ok (.iload 4, 2) := by decide +kernel
theorem dL_law_493 : decode cL_law 493 = .ok (.iconst 2, 1) := by decide +kernel
theorem dL_law_494 : decode cL_law 494 = .ok (.iadd, 1) := by decide +kernel
theorem dL_law_495 : decode cL_law 495 = .ok (.iaload, 1) := by decide +kernel
theorem dL_law_496 : decode cL_law 496 = .ok (.i2l, 1) := by decide +kernel
end
section
theorem dL_law_497 : decode cL_law 497 = .ok (.ldc2_w 34, 3) := by decide +kernel
theorem dL_law_500 : decode cL_law 500 = .ok (.land, 1) := by decide +kernel
theorem dL_law_501 : decode cL_law 501 = .ok (.lor, 1) := by decide +kernel
theorem dL_law_502 : decode cL_law 502 = .ok (.aload_n 0, 1) := by decide +kernel
theorem dL_law_503 : decode cL_law 503 = .ok (.iload 4, 2) := by decide +kernel
theorem dL_law_505 : decode cL_law 505 = .ok (.iconst 3, 1) := by decide +kernel
theorem dL_law_506 : decode cL_law 506 = .ok (.iadd, 1) := by decide +kernel
theorem dL_law_507 : decode cL_law 507 = .ok (.iaload, 1) := by decide +kernel
theorem dL_law_508 : decode cL_law 508 = .ok (.invokevirtual 68, 3) := by decide +kernel
theorem dL_law_511 : decode cL_law 511 = .ok (.aload_n 2, 1) := by decide +kernel
theorem dL_law_512 : decode cL_law 512 = .ok (.aload_n 0, 1) := by decide +kernel
theorem dL_law_513 : decode cL_law 513 = .ok (.iload 4, 2) := by decide +kernel
theorem dL_law_515 : decode cL_law 515 = .ok (.iconst 1, 1) := by decide +kernel
theorem dL_law_516 : decode cL_law 516 = .ok (.iadd, 1) := by decide +kernel
theorem dL_law_517 : decode cL_law 517 = .ok (.iaload, 1) := by decide +kernel
theorem dL_law_518 : decode cL_law 518 = .ok (.i2l, 1) := by decide +kernel
theorem dL_law_519 : decode cL_law 519 = .ok (.bipush 32, 2) := by decide +kernel
theorem dL_law_521 : decode cL_law 521 = .ok (.lshl, 1) := by decide +kernel
theorem dL_law_522 : decode cL_law 522 = .ok (.aload_n 0, 1) := by decide +kernel
theorem dL_law_523 : decode cL_law 523 = .ok (.iload 4, 2) := by decide +kernel
theorem dL_law_525 : decode cL_law 525 = .ok (.iconst 2, 1) := by decide +kernel
theorem dL_law_526 : decode cL_law 526 = .ok (.iadd, 1) := by decide +kernel
theorem dL_law_527 : decode cL_law 527 = .ok (.iaload, 1) := by decide +kernel
theorem dL_law_528 : decode cL_law 528 = .ok (.i2l, 1) := by decide +kernel
theorem dL_law_529 : decode cL_law 529 = .ok (.ldc2_w 34, 3) := by decide +kernel
theorem dL_law_532 : decode cL_law 532 = .ok (.land, 1) := by decide +kernel
theorem dL_law_533 : decode cL_law 533 = .ok (.lor, 1) := by decide +kernel
theorem dL_law_534 : decode cL_law 534 = .ok (.aload_n 0, 1) := by decide +kernel
theorem dL_law_535 : decode cL_law 535 = .ok (.iload 4, 2) := by decide +kernel
theorem dL_law_537 : decode cL_law 537 = .ok (.iconst 3, 1) := by decide +kernel
theorem dL_law_538 : decode cL_law 538 = .ok (.iadd, 1) := by decide +kernel
theorem dL_law_539 : decode cL_law 539 = .ok (.iaload, 1) := by decide +kernel
theorem dL_law_540 : decode cL_law 540 = .ok (.invokevirtual 72, 3) := by decide +kernel
theorem dL_law_543 : decode cL_law 543 = .ok (.if_icmp .eq 112, 3) := by decide +kernel
theorem dL_law_546 : decode cL_law 546 = .ok (.iconst 0, 1) := by decide +kernel
theorem dL_law_547 : decode cL_law 547 = .ok (.ireturn, 1) := by decide +kernel
theorem dL_law_548 : decode cL_law 548 = .ok (.aload_n 1, 1) := by decide +kernel
theorem dL_law_549 : decode cL_law 549 = .ok (.aload_n 0, 1) := by decide +kernel
theorem dL_law_550 : decode cL_law 550 = .ok (.iload 4, 2) := by decide +kernel
theorem dL_law_552 : decode cL_law 552 = .ok (.iconst 1, 1) := by decide +kernel
theorem dL_law_553 : decode cL_law 553 = .ok (.iadd, 1) := by decide +kernel
theorem dL_law_554 : decode cL_law 554 = .ok (.iaload, 1) := by decide +kernel
theorem dL_law_555 : decode cL_law 555 = .ok (.i2l, 1) := by decide +kernel
theorem dL_law_556 : decode cL_law 556 = .ok (.bipush 32, 2) := by decide +kernel
theorem dL_law_558 : decode cL_law 558 = .ok (.lshl, 1) := by decide +kernel
theorem dL_law_559 : decode cL_law 559 = .ok (.aload_n 0, 1) := by decide +kernel
theorem dL_law_560 : decode cL_law 560 = .ok (.iload 4, 2) := by decide +kernel
theorem dL_law_562 : decode cL_law 562 = .ok (.iconst 2, 1) := by decide +kernel
theorem dL_law_563 : decode cL_law 563 = .ok (.iadd, 1) := by decide +kernel
theorem dL_law_564 : decode cL_law 564 = .ok (.iaload, 1) := by decide +kernel
theorem dL_law_565 : decode cL_law 565 = .ok (.i2l, 1) := by decide +kernel
theorem dL_law_566 : decode cL_law 566 = .ok (.ldc2_w 34, 3) := by decide +kernel
theorem dL_law_569 : decode cL_law 569 = .ok (.land, 1) := by decide +kernel
theorem dL_law_570 : decode cL_law 570 = .ok (.lor, 1) := by decide +kernel
theorem dL_law_571 : decode cL_law 571 = .ok (.invokevirtual 73, 3) := by decide +kernel
theorem dL_law_574 : decode cL_law 574 = .ok (.aload_n 2, 1) := by decide +kernel
theorem dL_law_575 : decode cL_law 575 = .ok (.aload_n 0, 1) := by decide +kernel
theorem dL_law_576 : decode cL_law 576 = .ok (.iload 4, 2) := by decide +kernel
theorem dL_law_578 : decode cL_law 578 = .ok (.iconst 1, 1) := by decide +kernel
theorem dL_law_579 : decode cL_law 579 = .ok (.iadd, 1) := by decide +kernel
end
section
theorem dL_law_580 : decode cL_law 580 = .ok (.iaload, 1) := by decide +kernel
theorem dL_law_581 : decode cL_law 581 = .ok (.i2l, 1) := by decide +kernel
theorem dL_law_582 : decode cL_law 582 = .ok (.bipush 32, 2) := by decide +kernel
theorem dL_law_584 : decode cL_law 584 = .ok (.lshl, 1) := by decide +kernel
theorem dL_law_585 : decode cL_law 585 = .ok (.aload_n 0, 1) := by decide +kernel
theorem dL_law_586 : decode cL_law 586 = .ok (.iload 4, 2) := by decide +kernel
theorem dL_law_588 : decode cL_law 588 = .ok (.iconst 2, 1) := by decide +kernel
theorem dL_law_589 : decode cL_law 589 = .ok (.iadd, 1) := by decide +kernel
theorem dL_law_590 : decode cL_law 590 = .ok (.iaload, 1) := by decide +kernel
theorem dL_law_591 : decode cL_law 591 = .ok (.i2l, 1) := by decide +kernel
theorem dL_law_592 : decode cL_law 592 = .ok (.ldc2_w 34, 3) := by decide +kernel
theorem dL_law_595 : decode cL_law 595 = .ok (.land, 1) := by decide +kernel
theorem dL_law_596 : decode cL_law 596 = .ok (.lor, 1) := by decide +kernel
theorem dL_law_597 : decode cL_law 597 = .ok (.invokevirtual 76, 3) := by decide +kernel
theorem dL_law_600 : decode cL_law 600 = .ok (.if_icmp .eq 55, 3) := by decide +kernel
theorem dL_law_603 : decode cL_law 603 = .ok (.iconst 0, 1) := by decide +kernel
theorem dL_law_604 : decode cL_law 604 = .ok (.ireturn, 1) := by decide +kernel
theorem dL_law_605 : decode cL_law 605 = .ok (.aload_n 1, 1) := by decide +kernel
theorem dL_law_606 : decode cL_law 606 = .ok (.aload_n 0, 1) := by decide +kernel
theorem dL_law_607 : decode cL_law 607 = .ok (.iload 4, 2) := by decide +kernel
theorem dL_law_609 : decode cL_law 609 = .ok (.iconst 1, 1) := by decide +kernel
theorem dL_law_610 : decode cL_law 610 = .ok (.iadd, 1) := by decide +kernel
theorem dL_law_611 : decode cL_law 611 = .ok (.iaload, 1) := by decide +kernel
theorem dL_law_612 : decode cL_law 612 = .ok (.invokevirtual 77, 3) := by decide +kernel
theorem dL_law_615 : decode cL_law 615 = .ok (.aload_n 2, 1) := by decide +kernel
theorem dL_law_616 : decode cL_law 616 = .ok (.aload_n 0, 1) := by decide +kernel
theorem dL_law_617 : decode cL_law 617 = .ok (.iload 4, 2) := by decide +kernel
theorem dL_law_619 : decode cL_law 619 = .ok (.iconst 1, 1) := by decide +kernel
theorem dL_law_620 : decode cL_law 620 = .ok (.iadd, 1) := by decide +kernel
theorem dL_law_621 : decode cL_law 621 = .ok (.iaload, 1) := by decide +kernel
theorem dL_law_622 : decode cL_law 622 = .ok (.invokevirtual 81, 3) := by decide +kernel
theorem dL_law_625 : decode cL_law 625 = .ok (.if_icmp .eq 30, 3) := by decide +kernel
theorem dL_law_628 : decode cL_law 628 = .ok (.iconst 0, 1) := by decide +kernel
theorem dL_law_629 : decode cL_law 629 = .ok (.ireturn, 1) := by decide +kernel
theorem dL_law_630 : decode cL_law 630 = .ok (.aload_n 1, 1) := by decide +kernel
theorem dL_law_631 : decode cL_law 631 = .ok (.aload_n 0, 1) := by decide +kernel
theorem dL_law_632 : decode cL_law 632 = .ok (.iload 4, 2) := by decide +kernel
theorem dL_law_634 : decode cL_law 634 = .ok (.iconst 1, 1) := by decide +kernel
theorem dL_law_635 : decode cL_law 635 = .ok (.iadd, 1) := by decide +kernel
theorem dL_law_636 : decode cL_law 636 = .ok (.iaload, 1) := by decide +kernel
theorem dL_law_637 : decode cL_law 637 = .ok (.invokevirtual 82, 3) := by decide +kernel
theorem dL_law_640 : decode cL_law 640 = .ok (.aload_n 2, 1) := by decide +kernel
theorem dL_law_641 : decode cL_law 641 = .ok (.aload_n 0, 1) := by decide +kernel
theorem dL_law_642 : decode cL_law 642 = .ok (.iload 4, 2) := by decide +kernel
theorem dL_law_644 : decode cL_law 644 = .ok (.iconst 1, 1) := by decide +kernel
theorem dL_law_645 : decode cL_law 645 = .ok (.iadd, 1) := by decide +kernel
theorem dL_law_646 : decode cL_law 646 = .ok (.iaload, 1) := by decide +kernel
theorem dL_law_647 : decode cL_law 647 = .ok (.invokevirtual 85, 3) := by decide +kernel
theorem dL_law_650 : decode cL_law 650 = .ok (.if_icmp .eq 5, 3) := by decide +kernel
theorem dL_law_653 : decode cL_law 653 = .ok (.iconst 0, 1) := by decide +kernel
theorem dL_law_654 : decode cL_law 654 = .ok (.ireturn, 1) := by decide +kernel
theorem dL_law_655 : decode cL_law 655 = .ok (.iinc 4 6, 3) := by decide +kernel
theorem dL_law_658 : decode cL_law 658 = .ok (.goto (-635), 3) := by decide +kernel
theorem dL_law_661 : decode cL_law 661 = .ok (.iconst 1, 1) := by decide +kernel
theorem dL_law_662 : decode cL_law 662 = .ok (.ireturn, 1) := by decide +kernel
end
section
abbrev cX0_through : ByteArray := prog_1_method_6_code
def yX0_through : MethodName := ⟨RX0, "through", "(II)I"⟩
abbrev cX0_waiting : ByteArray := prog_1_method_7_code
def yX0_waiting : MethodName := ⟨RX0, "waiting", "(II)I"⟩
def wsX0_through_r1 : List Cond := [Cond.fieldLink RX0 26 "CausalGate" "throughCount" "I", Cond.classLink RX0 86 "java/lang/IndexOutOfBoundsException", Cond.initialized "java/lang/IndexOutOfBoundsException", Cond.fieldLink RX0 9 "CausalGate" "throughKeys" "[I", Cond.fieldLink RX0 13 "CausalGate" "throughLabels" "[I", Cond.methodLink RX0 91 yX0_actorOf, Cond.static yX0_actorOf, Cond.initialized RX0, Cond.code yX0_actorOf cX0_actorOf 1 (some .int), Cond.methodLink RX0 95 yX0_seqOf, Cond.static yX0_seqOf, Cond.code yX0_seqOf cX0_seqOf 1 (some .int)]
def wsX0_through : List Cond := .code yX0_through cX0_through 3 (some .int) :: (wsX0_through_r1 ++ wsX00 ++ (vx_atS RX0 90 "java/lang/IndexOutOfBoundsException" ["java/lang/RuntimeException", "java/lang/Exception"]).filter goodWord)
def wsX0_waiting_r1 : List Cond := [Cond.fieldLink RX0 30 "CausalGate" "waitCount" "I", Cond.classLink RX0 86 "java/lang/IndexOutOfBoundsException", Cond.initialized "java/lang/IndexOutOfBoundsException", Cond.fieldLink RX0 16 "CausalGate" "waitKeys" "[I", Cond.fieldLink RX0 23 "CausalGate" "waitLabels" "[I", Cond.fieldLink RX0 19 "CausalGate" "waitClocks" "[J", Cond.methodLink RX0 91 yX0_actorOf, Cond.static yX0_actorOf, Cond.initialized RX0, Cond.code yX0_actorOf cX0_actorOf 1 (some .int), Cond.methodLink RX0 95 yX0_seqOf, Cond.static yX0_seqOf, Cond.code yX0_seqOf cX0_seqOf 1 (some .int), Cond.methodLink RX0 98 yX0_lackedActor, Cond.instanceMethod yX0_lackedActor, Cond.selects RX0 yX0_lackedActor yX0_lackedActor, Cond.code yX0_lackedActor cX0_lackedActor 6 (some .int), Cond.fieldLink RX0 33 "CausalGate" "gateClock" "J", Cond.methodLink RX0 102 yX0_nextSeq, Cond.instanceMethod yX0_nextSeq, Cond.selects RX0 yX0_nextSeq yX0_nextSeq, Cond.code yX0_nextSeq cX0_nextSeq 2 (some .int), Cond.methodLink RX0 105 yX0_byteOf, Cond.static yX0_byteOf]
def wsX0_waiting_r2 : List Cond := [Cond.code yX0_byteOf cX0_byteOf 3 (some .int)]
def wsX0_waiting : List Cond := .code yX0_waiting cX0_waiting 3 (some .int) :: ((wsX0_waiting_r1 ++ wsX0_waiting_r2) ++ wsX00 ++ (vx_atS RX0 90 "java/lang/IndexOutOfBoundsException" ["java/lang/RuntimeException", "java/lang/Exception"]).filter goodWord)
set_option maxRecDepth 20000 in
theorem ggX0_through_X0_actorOf : GoodIn wsX0_through wsX0_actorOf := goodIn_r _ [9] (by decide +kernel) (by decide +kernel)
set_option maxRecDepth 20000 in
theorem gX0_through_X0_actorOf : GoodIn wsX0_through (va_wsS RX0 91 yX0_actorOf wsX0_actorOf) := goodIn_app (goodIn_of _ (by decide +kernel)) ggX0_through_X0_actorOf
set_option maxRecDepth 20000 in
theorem ggX0_through_X0_seqOf : GoodIn wsX0_through wsX0_seqOf := goodIn_r _ [12] (by decide +kernel) (by decide +kernel)
set_option maxRecDepth 20000 in
theorem gX0_through_X0_seqOf : GoodIn wsX0_through (va_wsS RX0 95 yX0_seqOf wsX0_seqOf) := goodIn_app (goodIn_of _ (by decide +kernel)) ggX0_through_X0_seqOf
set_option maxRecDepth 20000 in
theorem ggX0_waiting_X0_actorOf : GoodIn wsX0_waiting wsX0_actorOf := goodIn_r _ [10] (by decide +kernel) (by decide +kernel)
set_option maxRecDepth 20000 in
theorem gX0_waiting_X0_actorOf : GoodIn wsX0_waiting (va_wsS RX0 91 yX0_actorOf wsX0_actorOf) := goodIn_app (goodIn_of _ (by decide +kernel)) ggX0_waiting_X0_actorOf
set_option maxRecDepth 20000 in
theorem ggX0_waiting_X0_seqOf : GoodIn wsX0_waiting wsX0_seqOf := goodIn_r _ [13] (by decide +kernel) (by decide +kernel)
set_option maxRecDepth 20000 in
theorem gX0_waiting_X0_seqOf : GoodIn wsX0_waiting (va_wsS RX0 95 yX0_seqOf wsX0_seqOf) := goodIn_app (goodIn_of _ (by decide +kernel)) ggX0_waiting_X0_seqOf
set_option maxRecDepth 20000 in
theorem ggX0_waiting_X0_lackedActor : GoodIn wsX0_waiting wsX0_lackedActor := goodIn_r _ [17, 18, 7, 8, 9, 10, 11, 12, 13, 19, 20, 21, 22, 23, 24, 25, 26, 27, 28, 29, 30, 31, 32, 33, 34, 35] (by decide +kernel) (by decide +kernel)
set_option maxRecDepth 20000 in
theorem gX0_waiting_X0_lackedActor : GoodIn wsX0_waiting (wsV RX0 98 RX0 yX0_lackedActor wsX0_lackedActor) := goodIn_app (goodIn_of _ (by decide +kernel)) ggX0_waiting_X0_lackedActor
set_option maxRecDepth 20000 in
theorem ggX0_waiting_X0_nextSeq : GoodIn wsX0_waiting wsX0_nextSeq := goodIn_r _ [22, 18, 23, 24, 9, 25, 26, 27, 28, 29, 30, 31, 32, 33, 34, 35] (by decide +kernel) (by decide +kernel)
set_option maxRecDepth 20000 in
theorem gX0_waiting_X0_nextSeq : GoodIn wsX0_waiting (wsV RX0 102 RX0 yX0_nextSeq wsX0_nextSeq) := goodIn_app (goodIn_of _ (by decide +kernel)) ggX0_waiting_X0_nextSeq
theorem dX0_through_0 : decode cX0_through 0 = .ok (.iload_n 1, 1) := by decide +kernel
theorem dX0_through_1 : decode cX0_through 1 = .ok (.ifCond .lt 20, 3) := by decide +kernel
theorem dX0_through_4 : decode cX0_through 4 = .ok (.iload_n 1, 1) := by decide +kernel
theorem dX0_through_5 : decode cX0_through 5 = .ok (.aload_n 0, 1) := by decide +kernel
theorem dX0_through_6 : decode cX0_through 6 = .ok (.getfield 26, 3) := by decide +kernel
theorem dX0_through_9 : decode cX0_through 9 = .ok (.if_icmp .ge 12, 3) := by decide +kernel
theorem dX0_through_12 : decode cX0_through 12 = .ok (.iload_n 2, 1) := by decide +kernel
theorem dX0_through_13 : decode cX0_through 13 = .ok (.ifCond .lt 8, 3) := by decide +kernel
theorem dX0_through_16 : decode cX0_through 16 = .ok (.iload_n 2, 1) := by decide +kernel
theorem dX0_through_17 : decode cX0_through 17 = .ok (.iconst 2, 1) := by decide +kernel
theorem dX0_through_18 : decode cX0_through 18 = .ok (.if_icmp .le 13, 3) := by decide +kernel
theorem dX0_through_21 : decode cX0_through 21 = .ok (.new 86, 3) := by decide +kernel
theorem dX0_through_24 : decode cX0_through 24 = .ok (.dup, 1) := by decide +kernel
theorem dX0_through_25 : decode cX0_through 25 = .ok (.ldc 88, 2) := by decide +kernel
theorem dX0_through_27 : decode cX0_through 27 = .ok (.invokespecial 90, 3) := by decide +kernel
theorem dX0_through_30 : decode cX0_through 30 = .ok (.athrow, 1) := by decide +kernel
theorem dX0_through_31 : decode cX0_through 31 = .ok (.iload_n 2, 1) := by decide +kernel
theorem dX0_through_32 : decode cX0_through 32 = .ok (.lookupswitch 48 #[(0, 28), (1, 38)], 28) := by decide +kernel
theorem dX0_through_60 : decode cX0_through 60 = .ok (.aload_n 0, 1) := by decide +kernel
theorem dX0_through_61 : decode cX0_through 61 = .ok (.getfield 9, 3) := by decide +kernel
theorem dX0_through_64 : decode cX0_through 64 = .ok (.iload_n 1, 1) := by decide +kernel
theorem dX0_through_65 : decode cX0_through 65 = .ok (.iaload, 1) := by decide +kernel
theorem dX0_through_66 : decode cX0_through 66 = .ok (.invokestatic 91, 3) := by decide +kernel
theorem dX0_through_69 : decode cX0_through 69 = .ok (.ireturn, 1) := by decide +kernel
theorem dX0_through_70 : decode cX0_through 70 = .ok (.aload_n 0, 1) := by decide +kernel
theorem dX0_through_71 : decode cX0_through 71 = .ok (.getfield 9, 3) := by decide +kernel
theorem dX0_through_74 : decode cX0_through 74 = .ok (.iload_n 1, 1) := by decide +kernel
theorem dX0_through_75 : decode cX0_through 75 = .ok (.iaload, 1) := by decide +kernel
theorem dX0_through_76 : decode cX0_through 76 = .ok (.invokestatic 95, 3) := by decide +kernel
theorem dX0_through_79 : decode cX0_through 79 = .ok (.ireturn, 1) := by decide +kernel
theorem dX0_through_80 : decode cX0_through 80 = .ok (.aload_n 0, 1) := by decide +kernel
theorem dX0_through_81 : decode cX0_through 81 = .ok (.getfield 13, 3) := by decide +kernel
theorem dX0_through_84 : decode cX0_through 84 = .ok (.iload_n 1, 1) := by decide +kernel
theorem dX0_through_85 : decode cX0_through 85 = .ok (.iaload, 1) := by decide +kernel
theorem dX0_through_86 : decode cX0_through 86 = .ok (.ireturn, 1) := by decide +kernel
theorem dX0_waiting_0 : decode cX0_waiting 0 = .ok (.iload_n 1, 1) := by decide +kernel
theorem dX0_waiting_1 : decode cX0_waiting 1 = .ok (.ifCond .lt 20, 3) := by decide +kernel
theorem dX0_waiting_4 : decode cX0_waiting 4 = .ok (.iload_n 1, 1) := by decide +kernel
theorem dX0_waiting_5 : decode cX0_waiting 5 = .ok (.aload_n 0, 1) := by decide +kernel
theorem dX0_waiting_6 : decode cX0_waiting 6 = .ok (.getfield 30, 3) := by decide +kernel
theorem dX0_waiting_9 : decode cX0_waiting 9 = .ok (.if_icmp .ge 12, 3) := by decide +kernel
theorem dX0_waiting_12 : decode cX0_waiting 12 = .ok (.iload_n 2, 1) := by decide +kernel
theorem dX0_waiting_13 : decode cX0_waiting 13 = .ok (.ifCond .lt 8, 3) := by decide +kernel
theorem dX0_waiting_16 : decode cX0_waiting 16 = .ok (.iload_n 2, 1) := by decide +kernel
theorem dX0_waiting_17 : decode cX0_waiting 17 = .ok (.iconst 4, 1) := by decide +kernel
theorem dX0_waiting_18 : decode cX0_waiting 18 = .ok (.if_icmp .le 13, 3) := by decide +kernel
theorem dX0_waiting_21 : decode cX0_waiting 21 = .ok (.new 86, 3) := by decide +kernel
theorem dX0_waiting_24 : decode cX0_waiting 24 = .ok (.dup, 1) := by decide +kernel
theorem dX0_waiting_25 : decode cX0_waiting 25 = .ok (.ldc 88, 2) := by decide +kernel
theorem dX0_waiting_27 : decode cX0_waiting 27 = .ok (.invokespecial 90, 3) := by decide +kernel
theorem dX0_waiting_30 : decode cX0_waiting 30 = .ok (.athrow, 1) := by decide +kernel
theorem dX0_waiting_31 : decode cX0_waiting 31 = .ok (.iload_n 2, 1) := by decide +kernel
theorem dX0_waiting_32 : decode cX0_waiting 32 = .ok (.tableswitch 76 0 3 #[32, 42, 52, 59], 32) := by decide +kernel
theorem dX0_waiting_64 : decode cX0_waiting 64 = .ok (.aload_n 0, 1) := by decide +kernel
theorem dX0_waiting_65 : decode cX0_waiting 65 = .ok (.getfield 16, 3) := by decide +kernel
theorem dX0_waiting_68 : decode cX0_waiting 68 = .ok (.iload_n 1, 1) := by decide +kernel
theorem dX0_waiting_69 : decode cX0_waiting 69 = .ok (.iaload, 1) := by decide +kernel
theorem dX0_waiting_70 : decode cX0_waiting 70 = .ok (.invokestatic 91, 3) := by decide +kernel
theorem dX0_waiting_73 : decode cX0_waiting 73 = .ok (.ireturn, 1) := by decide +kernel
theorem dX0_waiting_74 : decode cX0_waiting 74 = .ok (.aload_n 0, 1) := by decide +kernel
theorem dX0_waiting_75 : decode cX0_waiting 75 = .ok (.getfield 16, 3) := by decide +kernel
theorem dX0_waiting_78 : decode cX0_waiting 78 = .ok (.iload_n 1, 1) := by decide +kernel
theorem dX0_waiting_79 : decode cX0_waiting 79 = .ok (.iaload, 1) := by decide +kernel
theorem dX0_waiting_80 : decode cX0_waiting 80 = .ok (.invokestatic 95, 3) := by decide +kernel
theorem dX0_waiting_83 : decode cX0_waiting 83 = .ok (.ireturn, 1) := by decide +kernel
theorem dX0_waiting_84 : decode cX0_waiting 84 = .ok (.aload_n 0, 1) := by decide +kernel
theorem dX0_waiting_85 : decode cX0_waiting 85 = .ok (.getfield 23, 3) := by decide +kernel
theorem dX0_waiting_88 : decode cX0_waiting 88 = .ok (.iload_n 1, 1) := by decide +kernel
theorem dX0_waiting_89 : decode cX0_waiting 89 = .ok (.iaload, 1) := by decide +kernel
theorem dX0_waiting_90 : decode cX0_waiting 90 = .ok (.ireturn, 1) := by decide +kernel
theorem dX0_waiting_91 : decode cX0_waiting 91 = .ok (.aload_n 0, 1) := by decide +kernel
theorem dX0_waiting_92 : decode cX0_waiting 92 = .ok (.aload_n 0, 1) := by decide +kernel
theorem dX0_waiting_93 : decode cX0_waiting 93 = .ok (.getfield 16, 3) := by decide +kernel
theorem dX0_waiting_96 : decode cX0_waiting 96 = .ok (.iload_n 1, 1) := by decide +kernel
theorem dX0_waiting_97 : decode cX0_waiting 97 = .ok (.iaload, 1) := by decide +kernel
theorem dX0_waiting_98 : decode cX0_waiting 98 = .ok (.aload_n 0, 1) := by decide +kernel
theorem dX0_waiting_99 : decode cX0_waiting 99 = .ok (.getfield 19, 3) := by decide +kernel
theorem dX0_waiting_102 : decode cX0_waiting 102 = .ok (.iload_n 1, 1) := by decide +kernel
theorem dX0_waiting_103 : decode cX0_waiting 103 = .ok (.laload, 1) := by decide +kernel
theorem dX0_waiting_104 : decode cX0_waiting 104 = .ok (.invokevirtual 98, 3) := by decide +kernel
theorem dX0_waiting_107 : decode cX0_waiting 107 = .ok (.ireturn, 1) := by decide +kernel
theorem dX0_waiting_108 : decode cX0_waiting 108 = .ok (.aload_n 0, 1) := by decide +kernel
theorem dX0_waiting_109 : decode cX0_waiting 109 = .ok (.aload_n 0, 1) := by decide +kernel
theorem dX0_waiting_110 : decode cX0_waiting 110 = .ok (.aload_n 0, 1) := by decide +kernel
theorem dX0_waiting_111 : decode cX0_waiting 111 = .ok (.getfield 16, 3) := by decide +kernel
theorem dX0_waiting_114 : decode cX0_waiting 114 = .ok (.iload_n 1, 1) := by decide +kernel
theorem dX0_waiting_115 : decode cX0_waiting 115 = .ok (.iaload, 1) := by decide +kernel
theorem dX0_waiting_116 : decode cX0_waiting 116 = .ok (.aload_n 0, 1) := by decide +kernel
theorem dX0_waiting_117 : decode cX0_waiting 117 = .ok (.getfield 19, 3) := by decide +kernel
theorem dX0_waiting_120 : decode cX0_waiting 120 = .ok (.iload_n 1, 1) := by decide +kernel
theorem dX0_waiting_121 : decode cX0_waiting 121 = .ok (.laload, 1) := by decide +kernel
theorem dX0_waiting_122 : decode cX0_waiting 122 = .ok (.invokevirtual 98, 3) := by decide +kernel
theorem dX0_waiting_125 : decode cX0_waiting 125 = .ok (.invokevirtual 102, 3) := by decide +kernel
theorem dX0_waiting_128 : decode cX0_waiting 128 = .ok (.ireturn, 1) := by decide +kernel
abbrev cL_through : ByteArray := method_4_code
def yL_through : MethodName := ⟨RL, "through", "(LCausalGate;II[J)I"⟩
abbrev cL_waiting : ByteArray := method_5_code
def yL_waiting : MethodName := ⟨RL, "waiting", "(LCausalGate;II[J)I"⟩
def wsL_through_r1 : List Cond := [Cond.classLink RL 21 "java/lang/IndexOutOfBoundsException", Cond.methodLink RL 17 yX0_through, Cond.instanceMethod yX0_through, Cond.selects RX0 yX0_through yX0_through, Cond.initialized RX0, Cond.code yX0_through cX0_through 3 (some .int), Cond.fieldLink RX0 26 "CausalGate" "throughCount" "I", Cond.classLink RX0 86 "java/lang/IndexOutOfBoundsException", Cond.initialized "java/lang/IndexOutOfBoundsException", Cond.fieldLink RX0 9 "CausalGate" "throughKeys" "[I", Cond.fieldLink RX0 13 "CausalGate" "throughLabels" "[I", Cond.methodLink RX0 91 yX0_actorOf, Cond.static yX0_actorOf, Cond.code yX0_actorOf cX0_actorOf 1 (some .int), Cond.methodLink RX0 95 yX0_seqOf, Cond.static yX0_seqOf, Cond.code yX0_seqOf cX0_seqOf 1 (some .int)]
def wsL_through : List Cond := .codeWith yL_through cL_through 5 (some .int) [(0, 10, 13, 21)] :: (wsL_through_r1 ++ wsX00 ++ (vx_atS RX0 90 "java/lang/IndexOutOfBoundsException" ["java/lang/RuntimeException", "java/lang/Exception"]).filter goodWord)
def wsL_waiting_r1 : List Cond := [Cond.classLink RL 21 "java/lang/IndexOutOfBoundsException", Cond.methodLink RL 23 yX0_waiting, Cond.instanceMethod yX0_waiting, Cond.selects RX0 yX0_waiting yX0_waiting, Cond.initialized RX0, Cond.code yX0_waiting cX0_waiting 3 (some .int), Cond.fieldLink RX0 30 "CausalGate" "waitCount" "I", Cond.classLink RX0 86 "java/lang/IndexOutOfBoundsException", Cond.initialized "java/lang/IndexOutOfBoundsException", Cond.fieldLink RX0 16 "CausalGate" "waitKeys" "[I", Cond.fieldLink RX0 23 "CausalGate" "waitLabels" "[I", Cond.fieldLink RX0 19 "CausalGate" "waitClocks" "[J", Cond.methodLink RX0 91 yX0_actorOf, Cond.static yX0_actorOf, Cond.code yX0_actorOf cX0_actorOf 1 (some .int), Cond.methodLink RX0 95 yX0_seqOf, Cond.static yX0_seqOf, Cond.code yX0_seqOf cX0_seqOf 1 (some .int), Cond.methodLink RX0 98 yX0_lackedActor, Cond.instanceMethod yX0_lackedActor, Cond.selects RX0 yX0_lackedActor yX0_lackedActor, Cond.code yX0_lackedActor cX0_lackedActor 6 (some .int), Cond.fieldLink RX0 33 "CausalGate" "gateClock" "J", Cond.methodLink RX0 102 yX0_nextSeq]
def wsL_waiting_r2 : List Cond := [Cond.instanceMethod yX0_nextSeq, Cond.selects RX0 yX0_nextSeq yX0_nextSeq, Cond.code yX0_nextSeq cX0_nextSeq 2 (some .int), Cond.methodLink RX0 105 yX0_byteOf, Cond.static yX0_byteOf, Cond.code yX0_byteOf cX0_byteOf 3 (some .int)]
def wsL_waiting : List Cond := .codeWith yL_waiting cL_waiting 5 (some .int) [(0, 10, 13, 21)] :: ((wsL_waiting_r1 ++ wsL_waiting_r2) ++ wsX00 ++ (vx_atS RX0 90 "java/lang/IndexOutOfBoundsException" ["java/lang/RuntimeException", "java/lang/Exception"]).filter goodWord)
set_option maxRecDepth 20000 in
theorem ggL_through_X0_through : GoodIn wsL_through wsX0_through := goodIn_ca (goodIn_r _ [6, 7, 8, 9, 10, 11, 12, 13, 5, 14, 15, 16, 17, 18, 19, 20, 21, 22, 23, 24, 25, 26, 27] (by decide +kernel) (by decide +kernel)) (goodIn_sub (fun _ h => List.mem_cons_of_mem _ (List.mem_append_right _ h)) (by decide +kernel))
set_option maxRecDepth 20000 in
theorem gL_through_X0_through : GoodIn wsL_through (wsV RL 17 RX0 yX0_through wsX0_through) := goodIn_app (goodIn_of _ (by decide +kernel)) ggL_through_X0_through
set_option maxRecDepth 20000 in
theorem ggL_waiting_X0_waiting : GoodIn wsL_waiting wsX0_waiting := goodIn_ca (goodIn_r _ [6, 7, 8, 9, 10, 11, 12, 13, 14, 5, 15, 16, 17, 18, 19, 20, 21, 22, 23, 24, 25, 26, 27, 28, 29, 30, 31, 32, 33, 34, 35, 36, 37, 38, 39, 40] (by decide +kernel) (by decide +kernel)) (goodIn_sub (fun _ h => List.mem_cons_of_mem _ (List.mem_append_right _ h)) (by decide +kernel))
set_option maxRecDepth 20000 in
theorem gL_waiting_X0_waiting : GoodIn wsL_waiting (wsV RL 23 RX0 yX0_waiting wsX0_waiting) := goodIn_app (goodIn_of _ (by decide +kernel)) ggL_waiting_X0_waiting
theorem dL_through_0 : decode cL_through 0 = .ok (.aload_n 3, 1) := by decide +kernel
theorem dL_through_1 : decode cL_through 1 = .ok (.iconst 0, 1) := by decide +kernel
theorem dL_through_2 : decode cL_through 2 = .ok (.aload_n 0, 1) := by decide +kernel
theorem dL_through_3 : decode cL_through 3 = .ok (.iload_n 1, 1) := by decide +kernel
theorem dL_through_4 : decode cL_through 4 = .ok (.iload_n 2, 1) := by decide +kernel
theorem dL_through_5 : decode cL_through 5 = .ok (.invokevirtual 17, 3) := by decide +kernel
theorem dL_through_8 : decode cL_through 8 = .ok (.i2l, 1) := by decide +kernel
theorem dL_through_9 : decode cL_through 9 = .ok (.lastore, 1) := by decide +kernel
theorem dL_through_10 : decode cL_through 10 = .ok (.goto 7, 3) := by decide +kernel
theorem dL_through_13 : decode cL_through 13 = .ok (.astore 4, 2) := by decide +kernel
theorem dL_through_15 : decode cL_through 15 = .ok (.iconst 1, 1) := by decide +kernel
theorem dL_through_16 : decode cL_through 16 = .ok (.ireturn, 1) := by decide +kernel
theorem dL_through_17 : decode cL_through 17 = .ok (.iconst 0, 1) := by decide +kernel
theorem dL_through_18 : decode cL_through 18 = .ok (.ireturn, 1) := by decide +kernel
theorem dL_waiting_0 : decode cL_waiting 0 = .ok (.aload_n 3, 1) := by decide +kernel
theorem dL_waiting_1 : decode cL_waiting 1 = .ok (.iconst 0, 1) := by decide +kernel
theorem dL_waiting_2 : decode cL_waiting 2 = .ok (.aload_n 0, 1) := by decide +kernel
theorem dL_waiting_3 : decode cL_waiting 3 = .ok (.iload_n 1, 1) := by decide +kernel
theorem dL_waiting_4 : decode cL_waiting 4 = .ok (.iload_n 2, 1) := by decide +kernel
theorem dL_waiting_5 : decode cL_waiting 5 = .ok (.invokevirtual 23, 3) := by decide +kernel
theorem dL_waiting_8 : decode cL_waiting 8 = .ok (.i2l, 1) := by decide +kernel
theorem dL_waiting_9 : decode cL_waiting 9 = .ok (.lastore, 1) := by decide +kernel
theorem dL_waiting_10 : decode cL_waiting 10 = .ok (.goto 7, 3) := by decide +kernel
theorem dL_waiting_13 : decode cL_waiting 13 = .ok (.astore 4, 2) := by decide +kernel
theorem dL_waiting_15 : decode cL_waiting 15 = .ok (.iconst 1, 1) := by decide +kernel
theorem dL_waiting_16 : decode cL_waiting 16 = .ok (.ireturn, 1) := by decide +kernel
theorem dL_waiting_17 : decode cL_waiting 17 = .ok (.iconst 0, 1) := by decide +kernel
theorem dL_waiting_18 : decode cL_waiting 18 = .ok (.ireturn, 1) := by decide +kernel
end
section
def RY : String := "CausalGateModel"
def TY : u_T := fun k => match k with
  | 0 => ("CausalGateModel", "thrown", "I", false)
  | 1 => ("CausalGateModel", "clock", "[I", true)
  | 2 => ("CausalGateModel", "through", "I", false)
  | 3 => ("CausalGateModel", "actors", "[I", true)
  | 4 => ("CausalGateModel", "seqs", "[I", true)
  | 5 => ("CausalGateModel", "labels", "[I", true)
  | 6 => ("CausalGateModel", "waiting", "I", false)
  | 7 => ("CausalGateModel", "wActors", "[I", true)
  | 8 => ("CausalGateModel", "wSeqs", "[I", true)
  | 9 => ("CausalGateModel", "wClocks", "[J", true)
  | 10 => ("CausalGateModel", "wLabels", "[I", true)
  | 11 => ("CausalGateModel", "knownOffers", "I", false)
  | _ => ("CausalGateModel", "most", "I", false)
def tyY : Nat → FieldType := fun k => match k with
  | 0 => .int
  | 1 => .array .int
  | 2 => .int
  | 3 => .array .int
  | 4 => .array .int
  | 5 => .array .int
  | 6 => .int
  | 7 => .array .int
  | 8 => .array .int
  | 9 => .array .long
  | 10 => .array .int
  | 11 => .int
  | _ => .int
abbrev wsY0 : List Cond := u_ws RY TY 13
theorem nmY : ∀ a, a < 13 → ∀ b, b < 13 → a ≠ b → (TY a).2.1 ≠ (TY b).2.1 := by decide +kernel
theorem tyY_ok : ∀ k, k < 13 → parseFieldDescriptor (TY k).2.2.1 = some (tyY k) := by decide +kernel
theorem inY : ∀ w ∈ wsY0, w ∈ lw_tbl := by decide +kernel
theorem inX0 : ∀ w ∈ wsX00, w ∈ lw_tbl := by decide +kernel
abbrev clS : List vw_C := [(RX0, TX0, 10), (RY, TY, 13)]
abbrev cY_init : ByteArray := prog_3_method_1_code
def yY_init : MethodName := ⟨RY, "<init>", "()V"⟩
abbrev cY_thrown : ByteArray := prog_3_method_2_code
def yY_thrown : MethodName := ⟨RY, "thrown", "()I"⟩
abbrev cY_part : ByteArray := prog_3_method_3_code
def yY_part : MethodName := ⟨RY, "part", "(JI)I"⟩
abbrev cY_lacking : ByteArray := prog_3_method_4_code
def yY_lacking : MethodName := ⟨RY, "lacking", "(IJ)I"⟩
abbrev cY_canCome : ByteArray := prog_3_method_5_code
def yY_canCome : MethodName := ⟨RY, "canCome", "(IIJ)Z"⟩
abbrev cY_isKnown : ByteArray := prog_3_method_6_code
def yY_isKnown : MethodName := ⟨RY, "isKnown", "(II)Z"⟩
abbrev cY_comes : ByteArray := prog_3_method_7_code
def yY_comes : MethodName := ⟨RY, "comes", "(III)V"⟩
abbrev cY_drop : ByteArray := prog_3_method_8_code
def yY_drop : MethodName := ⟨RY, "drop", "(I)V"⟩
abbrev cY_keep : ByteArray := prog_3_method_9_code
def yY_keep : MethodName := ⟨RY, "keep", "(IIJI)V"⟩
abbrev cY_ready : ByteArray := prog_3_method_10_code
def yY_ready : MethodName := ⟨RY, "ready", "()I"⟩
abbrev cY_clear : ByteArray := prog_3_method_11_code
def yY_clear : MethodName := ⟨RY, "clear", "()V"⟩
abbrev cY_offer : ByteArray := prog_3_method_12_code
def yY_offer : MethodName := ⟨RY, "offer", "(IIJI)I"⟩
abbrev cY_known : ByteArray := prog_3_method_13_code
def yY_known : MethodName := ⟨RY, "known", "(II)Z"⟩
abbrev cY_clock : ByteArray := prog_3_method_14_code
def yY_clock : MethodName := ⟨RY, "clock", "()J"⟩
abbrev cY_through : ByteArray := prog_3_method_15_code
def yY_through : MethodName := ⟨RY, "through", "(II)I"⟩
abbrev cY_waiting : ByteArray := prog_3_method_16_code
def yY_waiting : MethodName := ⟨RY, "waiting", "(II)I"⟩
abbrev cY_lacks : ByteArray := prog_3_method_17_code
def yY_lacks : MethodName := ⟨RY, "lacks", "(JI)Z"⟩
abbrev cY_ahead : ByteArray := prog_3_method_18_code
def yY_ahead : MethodName := ⟨RY, "ahead", "(J)I"⟩
abbrev cY_next : ByteArray := prog_3_method_19_code
def yY_next : MethodName := ⟨RY, "next", "(JI)I"⟩
abbrev cY_compare : ByteArray := prog_3_method_20_code
def yY_compare : MethodName := ⟨RY, "compare", "(J)I"⟩
abbrev cY_forget : ByteArray := prog_3_method_21_code
def yY_forget : MethodName := ⟨RY, "forget", "(I)I"⟩
abbrev cY_look : ByteArray := prog_3_method_22_code
def yY_look : MethodName := ⟨RY, "look", "(I)I"⟩
def wsY_init_r1 : List Cond := [Cond.arrayClass .int, Cond.fieldLink RY 7 "CausalGateModel" "clock" "[I", Cond.fieldLink RY 13 "CausalGateModel" "actors" "[I", Cond.fieldLink RY 16 "CausalGateModel" "seqs" "[I", Cond.fieldLink RY 19 "CausalGateModel" "labels" "[I", Cond.fieldLink RY 22 "CausalGateModel" "wActors" "[I", Cond.fieldLink RY 25 "CausalGateModel" "wSeqs" "[I", Cond.arrayClass .long, Cond.fieldLink RY 28 "CausalGateModel" "wClocks" "[J", Cond.fieldLink RY 32 "CausalGateModel" "wLabels" "[I", Cond.methodLink RY 1 objectInit, Cond.instanceMethod objectInit, Cond.code objectInit ⟨#[0xb1]⟩ 1 none]
def wsY_init : List Cond := .code yY_init cY_init 1 none :: (wsY_init_r1 ++ wsY0)
def wsY_thrown_r1 : List Cond := [Cond.fieldLink RY 35 "CausalGateModel" "thrown" "I"]
def wsY_thrown : List Cond := .code yY_thrown cY_thrown 1 (some .int) :: (wsY_thrown_r1 ++ wsY0)
def wsY_part_r1 : List Cond := [Cond.constantLong RY 39 255]
def wsY_part : List Cond := .code yY_part cY_part 3 (some .int) :: (wsY_part_r1 ++ wsY0)
def wsY_lacking_r1 : List Cond := [Cond.fieldLink RY 7 "CausalGateModel" "clock" "[I", Cond.methodLink RY 41 yY_part, Cond.static yY_part, Cond.initialized RY, Cond.code yY_part cY_part 3 (some .int), Cond.constantLong RY 39 255]
def wsY_lacking : List Cond := .code yY_lacking cY_lacking 6 (some .int) :: (wsY_lacking_r1 ++ wsY0)
def wsY_canCome_r1 : List Cond := [Cond.fieldLink RY 7 "CausalGateModel" "clock" "[I", Cond.methodLink RY 45 yY_lacking, Cond.instanceMethod yY_lacking, Cond.selects RY yY_lacking yY_lacking, Cond.initialized RY, Cond.code yY_lacking cY_lacking 6 (some .int), Cond.methodLink RY 41 yY_part, Cond.static yY_part, Cond.code yY_part cY_part 3 (some .int), Cond.constantLong RY 39 255]
def wsY_canCome : List Cond := .code yY_canCome cY_canCome 5 (some .boolean) :: (wsY_canCome_r1 ++ wsY0)
def wsY_isKnown_r1 : List Cond := [Cond.fieldLink RY 7 "CausalGateModel" "clock" "[I", Cond.fieldLink RY 49 "CausalGateModel" "waiting" "I", Cond.fieldLink RY 22 "CausalGateModel" "wActors" "[I", Cond.fieldLink RY 25 "CausalGateModel" "wSeqs" "[I"]
def wsY_isKnown : List Cond := .code yY_isKnown cY_isKnown 5 (some .boolean) :: (wsY_isKnown_r1 ++ wsY0)
def wsY_comes_r1 : List Cond := [Cond.fieldLink RY 13 "CausalGateModel" "actors" "[I", Cond.fieldLink RY 52 "CausalGateModel" "through" "I", Cond.fieldLink RY 16 "CausalGateModel" "seqs" "[I", Cond.fieldLink RY 19 "CausalGateModel" "labels" "[I", Cond.fieldLink RY 7 "CausalGateModel" "clock" "[I"]
def wsY_comes : List Cond := .code yY_comes cY_comes 4 none :: (wsY_comes_r1 ++ wsY0)
def wsY_drop_r1 : List Cond := [Cond.fieldLink RY 49 "CausalGateModel" "waiting" "I", Cond.fieldLink RY 22 "CausalGateModel" "wActors" "[I", Cond.fieldLink RY 25 "CausalGateModel" "wSeqs" "[I", Cond.fieldLink RY 28 "CausalGateModel" "wClocks" "[J", Cond.fieldLink RY 32 "CausalGateModel" "wLabels" "[I"]
def wsY_drop : List Cond := .code yY_drop cY_drop 3 none :: (wsY_drop_r1 ++ wsY0)
def wsY_keep_r1 : List Cond := [Cond.fieldLink RY 49 "CausalGateModel" "waiting" "I", Cond.fieldLink RY 22 "CausalGateModel" "wActors" "[I", Cond.fieldLink RY 25 "CausalGateModel" "wSeqs" "[I", Cond.fieldLink RY 28 "CausalGateModel" "wClocks" "[J", Cond.fieldLink RY 32 "CausalGateModel" "wLabels" "[I"]
def wsY_keep : List Cond := .code yY_keep cY_keep 7 none :: (wsY_keep_r1 ++ wsY0)
def wsY_ready_r1 : List Cond := [Cond.fieldLink RY 49 "CausalGateModel" "waiting" "I", Cond.fieldLink RY 22 "CausalGateModel" "wActors" "[I", Cond.fieldLink RY 25 "CausalGateModel" "wSeqs" "[I", Cond.fieldLink RY 28 "CausalGateModel" "wClocks" "[J", Cond.methodLink RY 55 yY_canCome, Cond.instanceMethod yY_canCome, Cond.selects RY yY_canCome yY_canCome, Cond.initialized RY, Cond.code yY_canCome cY_canCome 5 (some .boolean), Cond.fieldLink RY 7 "CausalGateModel" "clock" "[I", Cond.methodLink RY 45 yY_lacking, Cond.instanceMethod yY_lacking, Cond.selects RY yY_lacking yY_lacking, Cond.code yY_lacking cY_lacking 6 (some .int), Cond.methodLink RY 41 yY_part, Cond.static yY_part, Cond.code yY_part cY_part 3 (some .int), Cond.constantLong RY 39 255]
def wsY_ready : List Cond := .code yY_ready cY_ready 3 (some .int) :: (wsY_ready_r1 ++ wsY0)
def wsY_clear_r1 : List Cond := [Cond.fieldLink RY 35 "CausalGateModel" "thrown" "I", Cond.fieldLink RY 7 "CausalGateModel" "clock" "[I", Cond.fieldLink RY 52 "CausalGateModel" "through" "I", Cond.fieldLink RY 49 "CausalGateModel" "waiting" "I", Cond.fieldLink RY 59 "CausalGateModel" "knownOffers" "I", Cond.fieldLink RY 62 "CausalGateModel" "most" "I"]
def wsY_clear : List Cond := .code yY_clear cY_clear 2 none :: (wsY_clear_r1 ++ wsY0)
def wsY_offer_r1 : List Cond := [Cond.fieldLink RY 35 "CausalGateModel" "thrown" "I", Cond.fieldLink RY 59 "CausalGateModel" "knownOffers" "I", Cond.fieldLink RY 49 "CausalGateModel" "waiting" "I", Cond.fieldLink RY 52 "CausalGateModel" "through" "I", Cond.fieldLink RY 22 "CausalGateModel" "wActors" "[I", Cond.fieldLink RY 25 "CausalGateModel" "wSeqs" "[I", Cond.fieldLink RY 32 "CausalGateModel" "wLabels" "[I", Cond.fieldLink RY 62 "CausalGateModel" "most" "I", Cond.methodLink RY 65 yY_isKnown, Cond.instanceMethod yY_isKnown, Cond.selects RY yY_isKnown yY_isKnown, Cond.initialized RY, Cond.code yY_isKnown cY_isKnown 5 (some .boolean), Cond.fieldLink RY 7 "CausalGateModel" "clock" "[I", Cond.methodLink RY 55 yY_canCome, Cond.instanceMethod yY_canCome, Cond.selects RY yY_canCome yY_canCome, Cond.code yY_canCome cY_canCome 5 (some .boolean), Cond.methodLink RY 45 yY_lacking, Cond.instanceMethod yY_lacking, Cond.selects RY yY_lacking yY_lacking, Cond.code yY_lacking cY_lacking 6 (some .int), Cond.methodLink RY 41 yY_part, Cond.static yY_part]
def wsY_offer_r2 : List Cond := [Cond.code yY_part cY_part 3 (some .int), Cond.constantLong RY 39 255, Cond.methodLink RY 69 yY_keep, Cond.instanceMethod yY_keep, Cond.selects RY yY_keep yY_keep, Cond.code yY_keep cY_keep 7 none, Cond.fieldLink RY 28 "CausalGateModel" "wClocks" "[J", Cond.methodLink RY 73 yY_ready, Cond.instanceMethod yY_ready, Cond.selects RY yY_ready yY_ready, Cond.code yY_ready cY_ready 3 (some .int), Cond.methodLink RY 77 yY_comes, Cond.instanceMethod yY_comes, Cond.selects RY yY_comes yY_comes, Cond.code yY_comes cY_comes 4 none, Cond.fieldLink RY 13 "CausalGateModel" "actors" "[I", Cond.fieldLink RY 16 "CausalGateModel" "seqs" "[I", Cond.fieldLink RY 19 "CausalGateModel" "labels" "[I", Cond.methodLink RY 81 yY_drop, Cond.instanceMethod yY_drop, Cond.selects RY yY_drop yY_drop, Cond.code yY_drop cY_drop 3 none]
def wsY_offer : List Cond := .code yY_offer cY_offer 8 (some .int) :: ((wsY_offer_r1 ++ wsY_offer_r2) ++ wsY0)
def wsY_known_r1 : List Cond := [Cond.fieldLink RY 35 "CausalGateModel" "thrown" "I", Cond.methodLink RY 65 yY_isKnown, Cond.instanceMethod yY_isKnown, Cond.selects RY yY_isKnown yY_isKnown, Cond.initialized RY, Cond.code yY_isKnown cY_isKnown 5 (some .boolean), Cond.fieldLink RY 7 "CausalGateModel" "clock" "[I", Cond.fieldLink RY 49 "CausalGateModel" "waiting" "I", Cond.fieldLink RY 22 "CausalGateModel" "wActors" "[I", Cond.fieldLink RY 25 "CausalGateModel" "wSeqs" "[I"]
def wsY_known : List Cond := .code yY_known cY_known 3 (some .boolean) :: (wsY_known_r1 ++ wsY0)
def wsY_clock_r1 : List Cond := [Cond.fieldLink RY 35 "CausalGateModel" "thrown" "I", Cond.fieldLink RY 7 "CausalGateModel" "clock" "[I"]
def wsY_clock : List Cond := .code yY_clock cY_clock 4 (some .long) :: (wsY_clock_r1 ++ wsY0)
def wsY_through_r1 : List Cond := [Cond.fieldLink RY 52 "CausalGateModel" "through" "I", Cond.fieldLink RY 35 "CausalGateModel" "thrown" "I", Cond.fieldLink RY 13 "CausalGateModel" "actors" "[I", Cond.fieldLink RY 16 "CausalGateModel" "seqs" "[I", Cond.fieldLink RY 19 "CausalGateModel" "labels" "[I"]
def wsY_through : List Cond := .code yY_through cY_through 3 (some .int) :: (wsY_through_r1 ++ wsY0)
def wsY_waiting_r1 : List Cond := [Cond.fieldLink RY 49 "CausalGateModel" "waiting" "I", Cond.fieldLink RY 35 "CausalGateModel" "thrown" "I", Cond.fieldLink RY 22 "CausalGateModel" "wActors" "[I", Cond.fieldLink RY 25 "CausalGateModel" "wSeqs" "[I", Cond.fieldLink RY 7 "CausalGateModel" "clock" "[I", Cond.fieldLink RY 28 "CausalGateModel" "wClocks" "[J", Cond.fieldLink RY 32 "CausalGateModel" "wLabels" "[I", Cond.methodLink RY 45 yY_lacking, Cond.instanceMethod yY_lacking, Cond.selects RY yY_lacking yY_lacking, Cond.initialized RY, Cond.code yY_lacking cY_lacking 6 (some .int), Cond.methodLink RY 41 yY_part, Cond.static yY_part, Cond.code yY_part cY_part 3 (some .int), Cond.constantLong RY 39 255]
def wsY_waiting : List Cond := .code yY_waiting cY_waiting 6 (some .int) :: (wsY_waiting_r1 ++ wsY0)
def wsY_lacks_r1 : List Cond := [Cond.fieldLink RY 16 "CausalGateModel" "seqs" "[I", Cond.fieldLink RY 13 "CausalGateModel" "actors" "[I", Cond.methodLink RY 41 yY_part, Cond.static yY_part, Cond.initialized RY, Cond.code yY_part cY_part 3 (some .int), Cond.constantLong RY 39 255]
def wsY_lacks : List Cond := .code yY_lacks cY_lacks 4 (some .boolean) :: (wsY_lacks_r1 ++ wsY0)
def wsY_ahead_r1 : List Cond := [Cond.fieldLink RY 35 "CausalGateModel" "thrown" "I", Cond.fieldLink RY 52 "CausalGateModel" "through" "I", Cond.methodLink RY 85 yY_lacks, Cond.instanceMethod yY_lacks, Cond.selects RY yY_lacks yY_lacks, Cond.initialized RY, Cond.code yY_lacks cY_lacks 4 (some .boolean), Cond.fieldLink RY 16 "CausalGateModel" "seqs" "[I", Cond.fieldLink RY 13 "CausalGateModel" "actors" "[I", Cond.methodLink RY 41 yY_part, Cond.static yY_part, Cond.code yY_part cY_part 3 (some .int), Cond.constantLong RY 39 255]
def wsY_ahead : List Cond := .code yY_ahead cY_ahead 5 (some .int) :: (wsY_ahead_r1 ++ wsY0)
def wsY_next_r1 : List Cond := [Cond.fieldLink RY 35 "CausalGateModel" "thrown" "I", Cond.fieldLink RY 52 "CausalGateModel" "through" "I", Cond.methodLink RY 85 yY_lacks, Cond.instanceMethod yY_lacks, Cond.selects RY yY_lacks yY_lacks, Cond.initialized RY, Cond.code yY_lacks cY_lacks 4 (some .boolean), Cond.fieldLink RY 16 "CausalGateModel" "seqs" "[I", Cond.fieldLink RY 13 "CausalGateModel" "actors" "[I", Cond.methodLink RY 41 yY_part, Cond.static yY_part, Cond.code yY_part cY_part 3 (some .int), Cond.constantLong RY 39 255]
def wsY_next : List Cond := .code yY_next cY_next 5 (some .int) :: (wsY_next_r1 ++ wsY0)
def wsY_compare_r1 : List Cond := [Cond.fieldLink RY 35 "CausalGateModel" "thrown" "I", Cond.fieldLink RY 7 "CausalGateModel" "clock" "[I", Cond.methodLink RY 41 yY_part, Cond.static yY_part, Cond.initialized RY, Cond.code yY_part cY_part 3 (some .int), Cond.constantLong RY 39 255]
def wsY_compare : List Cond := .code yY_compare cY_compare 6 (some .int) :: (wsY_compare_r1 ++ wsY0)
def wsY_forget_r1 : List Cond := [Cond.fieldLink RY 35 "CausalGateModel" "thrown" "I", Cond.fieldLink RY 49 "CausalGateModel" "waiting" "I", Cond.fieldLink RY 22 "CausalGateModel" "wActors" "[I", Cond.methodLink RY 81 yY_drop, Cond.instanceMethod yY_drop, Cond.selects RY yY_drop yY_drop, Cond.initialized RY, Cond.code yY_drop cY_drop 3 none, Cond.fieldLink RY 25 "CausalGateModel" "wSeqs" "[I", Cond.fieldLink RY 28 "CausalGateModel" "wClocks" "[J", Cond.fieldLink RY 32 "CausalGateModel" "wLabels" "[I"]
def wsY_forget : List Cond := .code yY_forget cY_forget 4 (some .int) :: (wsY_forget_r1 ++ wsY0)
def wsY_look_r1 : List Cond := [Cond.fieldLink RY 35 "CausalGateModel" "thrown" "I", Cond.fieldLink RY 52 "CausalGateModel" "through" "I", Cond.fieldLink RY 49 "CausalGateModel" "waiting" "I", Cond.fieldLink RY 59 "CausalGateModel" "knownOffers" "I", Cond.fieldLink RY 62 "CausalGateModel" "most" "I"]
def wsY_look : List Cond := .code yY_look cY_look 2 (some .int) :: (wsY_look_r1 ++ wsY0)
set_option maxRecDepth 20000 in
theorem ggY_lacking_Y_part : GoodIn wsY_lacking wsY_part := goodIn_r _ [5, 6, 7, 8, 9, 10, 11, 12, 13, 14, 15, 16, 17, 18, 19] (by decide +kernel) (by decide +kernel)
set_option maxRecDepth 20000 in
theorem gY_lacking_Y_part : GoodIn wsY_lacking (va_wsS RY 41 yY_part wsY_part) := goodIn_app (goodIn_of _ (by decide +kernel)) ggY_lacking_Y_part
set_option maxRecDepth 20000 in
theorem ggY_canCome_Y_lacking : GoodIn wsY_canCome wsY_lacking := goodIn_r _ [6, 1, 7, 8, 5, 9, 10, 11, 12, 13, 14, 15, 16, 17, 18, 19, 20, 21, 22, 23] (by decide +kernel) (by decide +kernel)
set_option maxRecDepth 20000 in
theorem gY_canCome_Y_lacking : GoodIn wsY_canCome (wsV RY 45 RY yY_lacking wsY_lacking) := goodIn_app (goodIn_of _ (by decide +kernel)) ggY_canCome_Y_lacking
set_option maxRecDepth 20000 in
theorem ggY_ready_Y_canCome : GoodIn wsY_ready wsY_canCome := goodIn_r _ [9, 10, 11, 12, 13, 8, 14, 15, 16, 17, 18, 19, 20, 21, 22, 23, 24, 25, 26, 27, 28, 29, 30, 31] (by decide +kernel) (by decide +kernel)
set_option maxRecDepth 20000 in
theorem gY_ready_Y_canCome : GoodIn wsY_ready (wsV RY 55 RY yY_canCome wsY_canCome) := goodIn_app (goodIn_of _ (by decide +kernel)) ggY_ready_Y_canCome
set_option maxRecDepth 20000 in
theorem ggY_offer_Y_isKnown : GoodIn wsY_offer wsY_isKnown := goodIn_r _ [13, 14, 3, 5, 6, 47, 48, 49, 50, 51, 52, 53, 54, 55, 56, 57, 58, 59] (by decide +kernel) (by decide +kernel)
set_option maxRecDepth 20000 in
theorem gY_offer_Y_isKnown : GoodIn wsY_offer (wsV RY 65 RY yY_isKnown wsY_isKnown) := goodIn_app (goodIn_of _ (by decide +kernel)) ggY_offer_Y_isKnown
set_option maxRecDepth 20000 in
theorem ggY_offer_Y_canCome : GoodIn wsY_offer wsY_canCome := goodIn_r _ [18, 14, 19, 20, 21, 12, 22, 23, 24, 25, 26, 47, 48, 49, 50, 51, 52, 53, 54, 55, 56, 57, 58, 59] (by decide +kernel) (by decide +kernel)
set_option maxRecDepth 20000 in
theorem gY_offer_Y_canCome : GoodIn wsY_offer (wsV RY 55 RY yY_canCome wsY_canCome) := goodIn_app (goodIn_of _ (by decide +kernel)) ggY_offer_Y_canCome
set_option maxRecDepth 20000 in
theorem ggY_offer_Y_keep : GoodIn wsY_offer wsY_keep := goodIn_r _ [30, 3, 5, 6, 31, 7, 47, 48, 49, 50, 51, 52, 53, 54, 55, 56, 57, 58, 59] (by decide +kernel) (by decide +kernel)
set_option maxRecDepth 20000 in
theorem gY_offer_Y_keep : GoodIn wsY_offer (wsV RY 69 RY yY_keep wsY_keep) := goodIn_app (goodIn_of _ (by decide +kernel)) ggY_offer_Y_keep
set_option maxRecDepth 20000 in
theorem ggY_offer_Y_ready : GoodIn wsY_offer wsY_ready := goodIn_r _ [35, 3, 5, 6, 31, 15, 16, 17, 12, 18, 14, 19, 20, 21, 22, 23, 24, 25, 26, 47, 48, 49, 50, 51, 52, 53, 54, 55, 56, 57, 58, 59] (by decide +kernel) (by decide +kernel)
set_option maxRecDepth 20000 in
theorem gY_offer_Y_ready : GoodIn wsY_offer (wsV RY 73 RY yY_ready wsY_ready) := goodIn_app (goodIn_of _ (by decide +kernel)) ggY_offer_Y_ready
set_option maxRecDepth 20000 in
theorem ggY_offer_Y_comes : GoodIn wsY_offer wsY_comes := goodIn_r _ [39, 40, 4, 41, 42, 14, 47, 48, 49, 50, 51, 52, 53, 54, 55, 56, 57, 58, 59] (by decide +kernel) (by decide +kernel)
set_option maxRecDepth 20000 in
theorem gY_offer_Y_comes : GoodIn wsY_offer (wsV RY 77 RY yY_comes wsY_comes) := goodIn_app (goodIn_of _ (by decide +kernel)) ggY_offer_Y_comes
set_option maxRecDepth 20000 in
theorem ggY_offer_Y_drop : GoodIn wsY_offer wsY_drop := goodIn_r _ [46, 3, 5, 6, 31, 7, 47, 48, 49, 50, 51, 52, 53, 54, 55, 56, 57, 58, 59] (by decide +kernel) (by decide +kernel)
set_option maxRecDepth 20000 in
theorem gY_offer_Y_drop : GoodIn wsY_offer (wsV RY 81 RY yY_drop wsY_drop) := goodIn_app (goodIn_of _ (by decide +kernel)) ggY_offer_Y_drop
set_option maxRecDepth 20000 in
theorem ggY_known_Y_isKnown : GoodIn wsY_known wsY_isKnown := goodIn_r _ [6, 7, 8, 9, 10, 11, 12, 13, 14, 15, 16, 17, 18, 19, 20, 21, 22, 23] (by decide +kernel) (by decide +kernel)
set_option maxRecDepth 20000 in
theorem gY_known_Y_isKnown : GoodIn wsY_known (wsV RY 65 RY yY_isKnown wsY_isKnown) := goodIn_app (goodIn_of _ (by decide +kernel)) ggY_known_Y_isKnown
set_option maxRecDepth 20000 in
theorem ggY_waiting_Y_lacking : GoodIn wsY_waiting wsY_lacking := goodIn_r _ [12, 5, 13, 14, 11, 15, 16, 17, 18, 19, 20, 21, 22, 23, 24, 25, 26, 27, 28, 29] (by decide +kernel) (by decide +kernel)
set_option maxRecDepth 20000 in
theorem gY_waiting_Y_lacking : GoodIn wsY_waiting (wsV RY 45 RY yY_lacking wsY_lacking) := goodIn_app (goodIn_of _ (by decide +kernel)) ggY_waiting_Y_lacking
set_option maxRecDepth 20000 in
theorem ggY_lacks_Y_part : GoodIn wsY_lacks wsY_part := goodIn_r _ [6, 7, 8, 9, 10, 11, 12, 13, 14, 15, 16, 17, 18, 19, 20] (by decide +kernel) (by decide +kernel)
set_option maxRecDepth 20000 in
theorem gY_lacks_Y_part : GoodIn wsY_lacks (va_wsS RY 41 yY_part wsY_part) := goodIn_app (goodIn_of _ (by decide +kernel)) ggY_lacks_Y_part
set_option maxRecDepth 20000 in
theorem ggY_ahead_Y_lacks : GoodIn wsY_ahead wsY_lacks := goodIn_r _ [7, 8, 9, 10, 11, 6, 12, 13, 14, 15, 16, 17, 18, 19, 20, 21, 22, 23, 24, 25, 26] (by decide +kernel) (by decide +kernel)
set_option maxRecDepth 20000 in
theorem gY_ahead_Y_lacks : GoodIn wsY_ahead (wsV RY 85 RY yY_lacks wsY_lacks) := goodIn_app (goodIn_of _ (by decide +kernel)) ggY_ahead_Y_lacks
set_option maxRecDepth 20000 in
theorem ggY_next_Y_lacks : GoodIn wsY_next wsY_lacks := goodIn_r _ [7, 8, 9, 10, 11, 6, 12, 13, 14, 15, 16, 17, 18, 19, 20, 21, 22, 23, 24, 25, 26] (by decide +kernel) (by decide +kernel)
set_option maxRecDepth 20000 in
theorem gY_next_Y_lacks : GoodIn wsY_next (wsV RY 85 RY yY_lacks wsY_lacks) := goodIn_app (goodIn_of _ (by decide +kernel)) ggY_next_Y_lacks
set_option maxRecDepth 20000 in
theorem ggY_compare_Y_part : GoodIn wsY_compare wsY_part := goodIn_r _ [6, 7, 8, 9, 10, 11, 12, 13, 14, 15, 16, 17, 18, 19, 20] (by decide +kernel) (by decide +kernel)
set_option maxRecDepth 20000 in
theorem gY_compare_Y_part : GoodIn wsY_compare (va_wsS RY 41 yY_part wsY_part) := goodIn_app (goodIn_of _ (by decide +kernel)) ggY_compare_Y_part
set_option maxRecDepth 20000 in
theorem ggY_forget_Y_drop : GoodIn wsY_forget wsY_drop := goodIn_r _ [8, 2, 3, 9, 10, 11, 12, 13, 14, 15, 16, 17, 18, 19, 20, 21, 22, 23, 24] (by decide +kernel) (by decide +kernel)
set_option maxRecDepth 20000 in
theorem gY_forget_Y_drop : GoodIn wsY_forget (wsV RY 81 RY yY_drop wsY_drop) := goodIn_app (goodIn_of _ (by decide +kernel)) ggY_forget_Y_drop
end
section
theorem dY_init_0 : decode cY_init 0 = .ok (.aload_n 0, 1) := by decide +kernel
theorem dY_init_1 : decode cY_init 1 = .ok (.invokespecial 1, 3) := by decide +kernel
theorem dY_init_4 : decode cY_init 4 = .ok (.aload_n 0, 1) := by decide +kernel
theorem dY_init_5 : decode cY_init 5 = .ok (.bipush 8, 2) := by decide +kernel
theorem dY_init_7 : decode cY_init 7 = .ok (.newarray .int, 2) := by decide +kernel
theorem dY_init_9 : decode cY_init 9 = .ok (.putfield 7, 3) := by decide +kernel
theorem dY_init_12 : decode cY_init 12 = .ok (.aload_n 0, 1) := by decide +kernel
theorem dY_init_13 : decode cY_init 13 = .ok (.sipush 2040, 3) := by decide +kernel
theorem dY_init_16 : decode cY_init 16 = .ok (.newarray .int, 2) := by decide +kernel
theorem dY_init_18 : decode cY_init 18 = .ok (.putfield 13, 3) := by decide +kernel
theorem dY_init_21 : decode cY_init 21 = .ok (.aload_n 0, 1) := by decide +kernel
theorem dY_init_22 : decode cY_init 22 = .ok (.sipush 2040, 3) := by decide +kernel
theorem dY_init_25 : decode cY_init 25 = .ok (.newarray .int, 2) := by decide +kernel
theorem dY_init_27 : decode cY_init 27 = .ok (.putfield 16, 3) := by decide +kernel
theorem dY_init_30 : decode cY_init 30 = .ok (.aload_n 0, 1) := by decide +kernel
theorem dY_init_31 : decode cY_init 31 = .ok (.sipush 2040, 3) := by decide +kernel
theorem dY_init_34 : decode cY_init 34 = .ok (.newarray .int, 2) := by decide +kernel
theorem dY_init_36 : decode cY_init 36 = .ok (.putfield 19, 3) := by decide +kernel
theorem dY_init_39 : decode cY_init 39 = .ok (.aload_n 0, 1) := by decide +kernel
theorem dY_init_40 : decode cY_init 40 = .ok (.bipush 65, 2) := by decide +kernel
theorem dY_init_42 : decode cY_init 42 = .ok (.newarray .int, 2) := by decide +kernel
theorem dY_init_44 : decode cY_init 44 = .ok (.putfield 22, 3) := by decide +kernel
theorem dY_init_47 : decode cY_init 47 = .ok (.aload_n 0, 1) := by decide +kernel
theorem dY_init_48 : decode cY_init 48 = .ok (.bipush 65, 2) := by decide +kernel
theorem dY_init_50 : decode cY_init 50 = .ok (.newarray .int, 2) := by decide +kernel
theorem dY_init_52 : decode cY_init 52 = .ok (.putfield 25, 3) := by decide +kernel
theorem dY_init_55 : decode cY_init 55 = .ok (.aload_n 0, 1) := by decide +kernel
theorem dY_init_56 : decode cY_init 56 = .ok (.bipush 65, 2) := by decide +kernel
theorem dY_init_58 : decode cY_init 58 = .ok (.newarray .long, 2) := by decide +kernel
theorem dY_init_60 : decode cY_init 60 = .ok (.putfield 28, 3) := by decide +kernel
theorem dY_init_63 : decode cY_init 63 = .ok (.aload_n 0, 1) := by decide +kernel
theorem dY_init_64 : decode cY_init 64 = .ok (.bipush 65, 2) := by decide +kernel
theorem dY_init_66 : decode cY_init 66 = .ok (.newarray .int, 2) := by decide +kernel
theorem dY_init_68 : decode cY_init 68 = .ok (.putfield 32, 3) := by decide +kernel
theorem dY_init_71 : decode cY_init 71 = .ok (.return_, 1) := by decide +kernel
theorem dY_thrown_0 : decode cY_thrown 0 = .ok (.aload_n 0, 1) := by decide +kernel
theorem dY_thrown_1 : decode cY_thrown 1 = .ok (.getfield 35, 3) := by decide +kernel
theorem dY_thrown_4 : decode cY_thrown 4 = .ok (.ireturn, 1) := by decide +kernel
theorem dY_part_0 : decode cY_part 0 = .ok (.lload_n 0, 1) := by decide +kernel
theorem dY_part_1 : decode cY_part 1 = .ok (.bipush 8, 2) := by decide +kernel
theorem dY_part_3 : decode cY_part 3 = .ok (.iload_n 2, 1) := by decide +kernel
theorem dY_part_4 : decode cY_part 4 = .ok (.imul, 1) := by decide +kernel
theorem dY_part_5 : decode cY_part 5 = .ok (.lshr, 1) := by decide +kernel
theorem dY_part_6 : decode cY_part 6 = .ok (.ldc2_w 39, 3) := by decide +kernel
theorem dY_part_9 : decode cY_part 9 = .ok (.land, 1) := by decide +kernel
theorem dY_part_10 : decode cY_part 10 = .ok (.l2i, 1) := by decide +kernel
theorem dY_part_11 : decode cY_part 11 = .ok (.ireturn, 1) := by decide +kernel
theorem dY_lacking_0 : decode cY_lacking 0 = .ok (.iconst (-1), 1) := by decide +kernel
theorem dY_lacking_1 : decode cY_lacking 1 = .ok (.istore 4, 2) := by decide +kernel
theorem dY_lacking_3 : decode cY_lacking 3 = .ok (.bipush 7, 2) := by decide +kernel
theorem dY_lacking_5 : decode cY_lacking 5 = .ok (.istore 5, 2) := by decide +kernel
theorem dY_lacking_7 : decode cY_lacking 7 = .ok (.iload 5, 2) := by decide +kernel
theorem dY_lacking_9 : decode cY_lacking 9 = .ok (.ifCond .lt 40, 3) := by decide +kernel
theorem dY_lacking_12 : decode cY_lacking 12 = .ok (.iload 5, 2) := by decide +kernel
theorem dY_lacking_14 : decode cY_lacking 14 = .ok (.iload_n 1, 1) := by decide +kernel
theorem dY_lacking_15 : decode cY_lacking 15 = .ok (.if_icmp .eq 24, 3) := by decide +kernel
theorem dY_lacking_18 : decode cY_lacking 18 = .ok (.lload_n 2, 1) := by decide +kernel
theorem dY_lacking_19 : decode cY_lacking 19 = .ok (.iload 5, 2) := by decide +kernel
theorem dY_lacking_21 : decode cY_lacking 21 = .ok (.invokestatic 41, 3) := by decide +kernel
theorem dY_lacking_24 : decode cY_lacking 24 = .ok (.aload_n 0, 1) := by decide +kernel
theorem dY_lacking_25 : decode cY_lacking 25 = .ok (.getfield 7, 3) := by decide +kernel
theorem dY_lacking_28 : decode cY_lacking 28 = .ok (.iload 5, 2) := by decide +kernel
theorem dY_lacking_30 : decode cY_lacking 30 = .ok (.iaload, 1) := by decide +kernel
theorem dY_lacking_31 : decode cY_lacking 31 = .ok (.if_icmp .le 8, 3) := by decide +kernel
theorem dY_lacking_34 : decode cY_lacking 34 = .ok (.iload 5, 2) := by decide +kernel
theorem dY_lacking_36 : decode cY_lacking 36 = .ok (.goto 5, 3) := by decide +kernel
theorem dY_lacking_39 : decode cY_lacking 39 = .ok (.iload 4, 2) := by decide +kernel
theorem dY_lacking_41 : decode cY_lacking 41 = .ok (.istore 4, 2) := by decide +kernel
theorem dY_lacking_43 : decode cY_lacking 43 = .ok (.iinc 5 (-1), 3) := by decide +kernel
theorem dY_lacking_46 : decode cY_lacking 46 = .ok (.goto (-39), 3) := by decide +kernel
theorem dY_lacking_49 : decode cY_lacking 49 = .ok (.iload 4, 2) := by decide +kernel
theorem dY_lacking_51 : decode cY_lacking 51 = .ok (.ireturn, 1) := by decide +kernel
theorem dY_canCome_0 : decode cY_canCome 0 = .ok (.iload_n 2, 1) := by decide +kernel
theorem dY_canCome_1 : decode cY_canCome 1 = .ok (.aload_n 0, 1) := by decide +kernel
theorem dY_canCome_2 : decode cY_canCome 2 = .ok (.getfield 7, 3) := by decide +kernel
theorem dY_canCome_5 : decode cY_canCome 5 = .ok (.iload_n 1, 1) := by decide +kernel
theorem dY_canCome_6 : decode cY_canCome 6 = .ok (.iaload, 1) := by decide +kernel
theorem dY_canCome_7 : decode cY_canCome 7 = .ok (.iconst 1, 1) := by decide +kernel
theorem dY_canCome_8 : decode cY_canCome 8 = .ok (.iadd, 1) := by decide +kernel
theorem dY_canCome_9 : decode cY_canCome 9 = .ok (.if_icmp .ne 16, 3) := by decide +kernel
theorem dY_canCome_12 : decode cY_canCome 12 = .ok (.aload_n 0, 1) := by decide +kernel
theorem dY_canCome_13 : decode cY_canCome 13 = .ok (.iload_n 1, 1) := by decide +kernel
theorem dY_canCome_14 : decode cY_canCome 14 = .ok (.lload_n 3, 1) := by decide +kernel
theorem dY_canCome_15 : decode cY_canCome 15 = .ok (.invokevirtual 45, 3) := by decide +kernel
theorem dY_canCome_18 : decode cY_canCome 18 = .ok (.ifCond .ge 7, 3) := by decide +kernel
theorem dY_canCome_21 : decode cY_canCome 21 = .ok (.iconst 1, 1) := by decide +kernel
theorem dY_canCome_22 : decode cY_canCome 22 = .ok (.goto 4, 3) := by decide +kernel
theorem dY_canCome_25 : decode cY_canCome 25 = .ok (.iconst 0, 1) := by decide +kernel
theorem dY_canCome_26 : decode cY_canCome 26 = .ok (.ireturn, 1) := by decide +kernel
theorem dY_isKnown_0 : decode cY_isKnown 0 = .ok (.iload_n 2, 1) := by decide +kernel
theorem dY_isKnown_1 : decode cY_isKnown 1 = .ok (.aload_n 0, 1) := by decide +kernel
theorem dY_isKnown_2 : decode cY_isKnown 2 = .ok (.getfield 7, 3) := by decide +kernel
theorem dY_isKnown_5 : decode cY_isKnown 5 = .ok (.iload_n 1, 1) := by decide +kernel
theorem dY_isKnown_6 : decode cY_isKnown 6 = .ok (.iaload, 1) := by decide +kernel
theorem dY_isKnown_7 : decode cY_isKnown 7 = .ok (.if_icmp .gt 7, 3) := by decide +kernel
theorem dY_isKnown_10 : decode cY_isKnown 10 = .ok (.iconst 1, 1) := by decide +kernel
theorem dY_isKnown_11 : decode cY_isKnown 11 = .ok (.goto 4, 3) := by decide +kernel
theorem dY_isKnown_14 : decode cY_isKnown 14 = .ok (.iconst 0, 1) := by decide +kernel
theorem dY_isKnown_15 : decode cY_isKnown 15 = .ok (.istore_n 3, 1) := by decide +kernel
theorem dY_isKnown_16 : decode cY_isKnown 16 = .ok (.iconst 0, 1) := by decide +kernel
theorem dY_isKnown_17 : decode cY_isKnown 17 = .ok (.istore 4, 2) := by decide +kernel
theorem dY_isKnown_19 : decode cY_isKnown 19 = .ok (.iload 4, 2) := by decide +kernel
theorem dY_isKnown_21 : decode cY_isKnown 21 = .ok (.aload_n 0, 1) := by decide +kernel
theorem dY_isKnown_22 : decode cY_isKnown 22 = .ok (.getfield 49, 3) := by decide +kernel
theorem dY_isKnown_25 : decode cY_isKnown 25 = .ok (.if_icmp .ge 41, 3) := by decide +kernel
theorem dY_isKnown_28 : decode cY_isKnown 28 = .ok (.iload_n 3, 1) := by decide +kernel
theorem dY_isKnown_29 : decode cY_isKnown 29 = .ok (.ifCond .ne 25, 3) := by decide +kernel
theorem dY_isKnown_32 : decode cY_isKnown 32 = .ok (.aload_n 0, 1) := by decide +kernel
theorem dY_isKnown_33 : decode cY_isKnown 33 = .ok (.getfield 22, 3) := by decide +kernel
theorem dY_isKnown_36 : decode cY_isKnown 36 = .ok (.iload 4, 2) := by decide +kernel
theorem dY_isKnown_38 : decode cY_isKnown 38 = .ok (.iaload, 1) := by decide +kernel
theorem dY_isKnown_39 : decode cY_isKnown 39 = .ok (.iload_n 1, 1) := by decide +kernel
theorem dY_isKnown_40 : decode cY_isKnown 40 = .ok (.if_icmp .ne 18, 3) := by decide +kernel
theorem dY_isKnown_43 : decode cY_isKnown 43 = .ok (.aload_n 0, 1) := by decide +kernel
theorem dY_isKnown_44 : decode cY_isKnown 44 = .ok (.getfield 25, 3) := by decide +kernel
theorem dY_isKnown_47 : decode cY_isKnown 47 = .ok (.iload 4, 2) := by decide +kernel
theorem dY_isKnown_49 : decode cY_isKnown 49 = .ok (.iaload, 1) := by decide +kernel
theorem dY_isKnown_50 : decode cY_isKnown 50 = .ok (.iload_n 2, 1) := by decide +kernel
theorem dY_isKnown_51 : decode cY_isKnown 51 = .ok (.if_icmp .ne 7, 3) := by decide +kernel
theorem dY_isKnown_54 : decode cY_isKnown 54 = .ok (.iconst 1, 1) := by decide +kernel
theorem dY_isKnown_55 : decode cY_isKnown 55 = .ok (.goto 4, 3) := by decide +kernel
theorem dY_isKnown_58 : decode cY_isKnown 58 = .ok (.iconst 0, 1) := by decide +kernel
theorem dY_isKnown_59 : decode cY_isKnown 59 = .ok (.istore_n 3, 1) := by decide +kernel
theorem dY_isKnown_60 : decode cY_isKnown 60 = .ok (.iinc 4 1, 3) := by decide +kernel
theorem dY_isKnown_63 : decode cY_isKnown 63 = .ok (.goto (-44), 3) := by decide +kernel
theorem dY_isKnown_66 : decode cY_isKnown 66 = .ok (.iload_n 3, 1) := by decide +kernel
theorem dY_isKnown_67 : decode cY_isKnown 67 = .ok (.ireturn, 1) := by decide +kernel
theorem dY_comes_0 : decode cY_comes 0 = .ok (.aload_n 0, 1) := by decide +kernel
theorem dY_comes_1 : decode cY_comes 1 = .ok (.getfield 13, 3) := by decide +kernel
theorem dY_comes_4 : decode cY_comes 4 = .ok (.aload_n 0, 1) := by decide +kernel
theorem dY_comes_5 : decode cY_comes 5 = .ok (.getfield 52, 3) := by decide +kernel
theorem dY_comes_8 : decode cY_comes 8 = .ok (.iload_n 1, 1) := by decide +kernel
theorem dY_comes_9 : decode cY_comes 9 = .ok (.iastore, 1) := by decide +kernel
theorem dY_comes_10 : decode cY_comes 10 = .ok (.aload_n 0, 1) := by decide +kernel
theorem dY_comes_11 : decode cY_comes 11 = .ok (.getfield 16, 3) := by decide +kernel
theorem dY_comes_14 : decode cY_comes 14 = .ok (.aload_n 0, 1) := by decide +kernel
theorem dY_comes_15 : decode cY_comes 15 = .ok (.getfield 52, 3) := by decide +kernel
theorem dY_comes_18 : decode cY_comes 18 = .ok (.iload_n 2, 1) := by decide +kernel
theorem dY_comes_19 : decode cY_comes 19 = .ok (.iastore, 1) := by decide +kernel
theorem dY_comes_20 : decode cY_comes 20 = .ok (.aload_n 0, 1) := by decide +kernel
theorem dY_comes_21 : decode cY_comes 21 = .ok (.getfield 19, 3) := by decide +kernel
theorem dY_comes_24 : decode cY_comes 24 = .ok (.aload_n 0, 1) := by decide +kernel
theorem dY_comes_25 : decode cY_comes 25 = .ok (.getfield 52, 3) := by decide +kernel
theorem dY_comes_28 : decode cY_comes 28 = .ok (.iload_n 3, 1) := by decide +kernel
theorem dY_comes_29 : decode cY_comes 29 = .ok (.iastore, 1) := by decide +kernel
theorem dY_comes_30 : decode cY_comes 30 = .ok (.aload_n 0, 1) := by decide +kernel
theorem dY_comes_31 : decode cY_comes 31 = .ok (.dup, 1) := by decide +kernel
theorem dY_comes_32 : decode cY_comes 32 = .ok (.getfield 52, 3) := by decide +kernel
theorem dY_comes_35 : decode cY_comes 35 = .ok (.iconst 1, 1) := by decide +kernel
theorem dY_comes_36 : decode cY_comes 36 = .ok (.iadd, 1) := by decide +kernel
theorem dY_comes_37 : decode cY_comes 37 = .ok (.putfield 52, 3) := by decide +kernel
theorem dY_comes_40 : decode cY_comes 40 = .ok (.aload_n 0, 1) := by decide +kernel
theorem dY_comes_41 : decode cY_comes 41 = .ok (.getfield 7, 3) := by decide +kernel
theorem dY_comes_44 : decode cY_comes 44 = .ok (.iload_n 1, 1) := by decide +kernel
theorem dY_comes_45 : decode cY_comes 45 = .ok (.iload_n 2, 1) := by decide +kernel
theorem dY_comes_46 : decode cY_comes 46 = .ok (.iastore, 1) := by decide +kernel
theorem dY_comes_47 : decode cY_comes 47 = .ok (.return_, 1) := by decide +kernel
theorem dY_drop_0 : decode cY_drop 0 = .ok (.aload_n 0, 1) := by decide +kernel
theorem dY_drop_1 : decode cY_drop 1 = .ok (.dup, 1) := by decide +kernel
theorem dY_drop_2 : decode cY_drop 2 = .ok (.getfield 49, 3) := by decide +kernel
theorem dY_drop_5 : decode cY_drop 5 = .ok (.iconst 1, 1) := by decide +kernel
theorem dY_drop_6 : decode cY_drop 6 = .ok (.isub, 1) := by decide +kernel
theorem dY_drop_7 : decode cY_drop 7 = .ok (.putfield 49, 3) := by decide +kernel
theorem dY_drop_10 : decode cY_drop 10 = .ok (.iload_n 1, 1) := by decide +kernel
theorem dY_drop_11 : decode cY_drop 11 = .ok (.istore_n 2, 1) := by decide +kernel
theorem dY_drop_12 : decode cY_drop 12 = .ok (.iload_n 2, 1) := by decide +kernel
theorem dY_drop_13 : decode cY_drop 13 = .ok (.aload_n 0, 1) := by decide +kernel
theorem dY_drop_14 : decode cY_drop 14 = .ok (.getfield 49, 3) := by decide +kernel
theorem dY_drop_17 : decode cY_drop 17 = .ok (.if_icmp .ge 65, 3) := by decide +kernel
theorem dY_drop_20 : decode cY_drop 20 = .ok (.aload_n 0, 1) := by decide +kernel
theorem dY_drop_21 : decode cY_drop 21 = .ok (.getfield 22, 3) := by decide +kernel
theorem dY_drop_24 : decode cY_drop 24 = .ok (.iload_n 2, 1) := by decide +kernel
theorem dY_drop_25 : decode cY_drop 25 = .ok (.aload_n 0, 1) := by decide +kernel
theorem dY_drop_26 : decode cY_drop 26 = .ok (.getfield 22, 3) := by decide +kernel
theorem dY_drop_29 : decode cY_drop 29 = .ok (.iload_n 2, 1) := by decide +kernel
theorem dY_drop_30 : decode cY_drop 30 = .ok (.iconst 1, 1) := by decide +kernel
theorem dY_drop_31 : decode cY_drop 31 = .ok (.iadd, 1) := by decide +kernel
theorem dY_drop_32 : decode cY_drop 32 = .ok (.iaload, 1) := by decide +kernel
theorem dY_drop_33 : decode cY_drop 33 = .ok (.iastore, 1) := by decide +kernel
theorem dY_drop_34 : decode cY_drop 34 = .ok (.aload_n 0, 1) := by decide +kernel
theorem dY_drop_35 : decode cY_drop 35 = .ok (.getfield 25, 3) := by decide +kernel
theorem dY_drop_38 : decode cY_drop 38 = .ok (.iload_n 2, 1) := by decide +kernel
theorem dY_drop_39 : decode cY_drop 39 = .ok (.aload_n 0, 1) := by decide +kernel
theorem dY_drop_40 : decode cY_drop 40 = .ok (.getfield 25, 3) := by decide +kernel
theorem dY_drop_43 : decode cY_drop 43 = .ok (.iload_n 2, 1) := by decide +kernel
theorem dY_drop_44 : decode cY_drop 44 = .ok (.iconst 1, 1) := by decide +kernel
theorem dY_drop_45 : decode cY_drop 45 = .ok (.iadd, 1) := by decide +kernel
theorem dY_drop_46 : decode cY_drop 46 = .ok (.iaload, 1) := by decide +kernel
theorem dY_drop_47 : decode cY_drop 47 = .ok (.iastore, 1) := by decide +kernel
theorem dY_drop_48 : decode cY_drop 48 = .ok (.aload_n 0, 1) := by decide +kernel
theorem dY_drop_49 : decode cY_drop 49 = .ok (.getfield 28, 3) := by decide +kernel
theorem dY_drop_52 : decode cY_drop 52 = .ok (.iload_n 2, 1) := by decide +kernel
theorem dY_drop_53 : decode cY_drop 53 = .ok (.aload_n 0, 1) := by decide +kernel
theorem dY_drop_54 : decode cY_drop 54 = .ok (.getfield 28, 3) := by decide +kernel
theorem dY_drop_57 : decode cY_drop 57 = .ok (.iload_n 2, 1) := by decide +kernel
theorem dY_drop_58 : decode cY_drop 58 = .ok (.iconst 1, 1) := by decide +kernel
theorem dY_drop_59 : decode cY_drop 59 = .ok (.iadd, 1) := by decide +kernel
theorem dY_drop_60 : decode cY_drop 60 = .ok (.laload, 1) := by decide +kernel
theorem dY_drop_61 : decode cY_drop 61 = .ok (.lastore, 1) := by decide +kernel
theorem dY_drop_62 : decode cY_drop 62 = .ok (.aload_n 0, 1) := by decide +kernel
theorem dY_drop_63 : decode cY_drop 63 = .ok (.getfield 32, 3) := by decide +kernel
theorem dY_drop_66 : decode cY_drop 66 = .ok (.iload_n 2, 1) := by decide +kernel
theorem dY_drop_67 : decode cY_drop 67 = .ok (.aload_n 0, 1) := by decide +kernel
theorem dY_drop_68 : decode cY_drop 68 = .ok (.getfield 32, 3) := by decide +kernel
theorem dY_drop_71 : decode cY_drop 71 = .ok (.iload_n 2, 1) := by decide +kernel
theorem dY_drop_72 : decode cY_drop 72 = .ok (.iconst 1, 1) := by decide +kernel
theorem dY_drop_73 : decode cY_drop 73 = .ok (.iadd, 1) := by decide +kernel
theorem dY_drop_74 : decode cY_drop 74 = .ok (.iaload, 1) := by decide +kernel
theorem dY_drop_75 : decode cY_drop 75 = .ok (.iastore, 1) := by decide +kernel
theorem dY_drop_76 : decode cY_drop 76 = .ok (.iinc 2 1, 3) := by decide +kernel
theorem dY_drop_79 : decode cY_drop 79 = .ok (.goto (-67), 3) := by decide +kernel
theorem dY_drop_82 : decode cY_drop 82 = .ok (.return_, 1) := by decide +kernel
theorem dY_keep_0 : decode cY_keep 0 = .ok (.aload_n 0, 1) := by decide +kernel
theorem dY_keep_1 : decode cY_keep 1 = .ok (.getfield 49, 3) := by decide +kernel
theorem dY_keep_4 : decode cY_keep 4 = .ok (.istore 6, 2) := by decide +kernel
theorem dY_keep_6 : decode cY_keep 6 = .ok (.iload 6, 2) := by decide +kernel
theorem dY_keep_8 : decode cY_keep 8 = .ok (.ifCond .le 112, 3) := by decide +kernel
theorem dY_keep_11 : decode cY_keep 11 = .ok (.aload_n 0, 1) := by decide +kernel
theorem dY_keep_12 : decode cY_keep 12 = .ok (.getfield 22, 3) := by decide +kernel
theorem dY_keep_15 : decode cY_keep 15 = .ok (.iload 6, 2) := by decide +kernel
end
section
theorem dY_keep_17 : decode cY_keep 17 = .ok (.iconst 1, 1) := by decide +kernel
theorem dY_keep_18 : decode cY_keep 18 = .ok (.isub, 1) := by decide +kernel
theorem dY_keep_19 : decode cY_keep 19 = .ok (.iaload, 1) := by decide +kernel
theorem dY_keep_20 : decode cY_keep 20 = .ok (.iload_n 1, 1) := by decide +kernel
theorem dY_keep_21 : decode cY_keep 21 = .ok (.if_icmp .gt 29, 3) := by decide +kernel
theorem dY_keep_24 : decode cY_keep 24 = .ok (.aload_n 0, 1) := by decide +kernel
theorem dY_keep_25 : decode cY_keep 25 = .ok (.getfield 22, 3) := by decide +kernel
theorem dY_keep_28 : decode cY_keep 28 = .ok (.iload 6, 2) := by decide +kernel
theorem dY_keep_30 : decode cY_keep 30 = .ok (.iconst 1, 1) := by decide +kernel
theorem dY_keep_31 : decode cY_keep 31 = .ok (.isub, 1) := by decide +kernel
theorem dY_keep_32 : decode cY_keep 32 = .ok (.iaload, 1) := by decide +kernel
theorem dY_keep_33 : decode cY_keep 33 = .ok (.iload_n 1, 1) := by decide +kernel
theorem dY_keep_34 : decode cY_keep 34 = .ok (.if_icmp .ne 86, 3) := by decide +kernel
theorem dY_keep_37 : decode cY_keep 37 = .ok (.aload_n 0, 1) := by decide +kernel
theorem dY_keep_38 : decode cY_keep 38 = .ok (.getfield 25, 3) := by decide +kernel
theorem dY_keep_41 : decode cY_keep 41 = .ok (.iload 6, 2) := by decide +kernel
theorem dY_keep_43 : decode cY_keep 43 = .ok (.iconst 1, 1) := by decide +kernel
theorem dY_keep_44 : decode cY_keep 44 = .ok (.isub, 1) := by decide +kernel
theorem dY_keep_45 : decode cY_keep 45 = .ok (.iaload, 1) := by decide +kernel
theorem dY_keep_46 : decode cY_keep 46 = .ok (.iload_n 2, 1) := by decide +kernel
theorem dY_keep_47 : decode cY_keep 47 = .ok (.if_icmp .le 73, 3) := by decide +kernel
theorem dY_keep_50 : decode cY_keep 50 = .ok (.aload_n 0, 1) := by decide +kernel
theorem dY_keep_51 : decode cY_keep 51 = .ok (.getfield 22, 3) := by decide +kernel
theorem dY_keep_54 : decode cY_keep 54 = .ok (.iload 6, 2) := by decide +kernel
theorem dY_keep_56 : decode cY_keep 56 = .ok (.aload_n 0, 1) := by decide +kernel
theorem dY_keep_57 : decode cY_keep 57 = .ok (.getfield 22, 3) := by decide +kernel
theorem dY_keep_60 : decode cY_keep 60 = .ok (.iload 6, 2) := by decide +kernel
theorem dY_keep_62 : decode cY_keep 62 = .ok (.iconst 1, 1) := by decide +kernel
theorem dY_keep_63 : decode cY_keep 63 = .ok (.isub, 1) := by decide +kernel
theorem dY_keep_64 : decode cY_keep 64 = .ok (.iaload, 1) := by decide +kernel
theorem dY_keep_65 : decode cY_keep 65 = .ok (.iastore, 1) := by decide +kernel
theorem dY_keep_66 : decode cY_keep 66 = .ok (.aload_n 0, 1) := by decide +kernel
theorem dY_keep_67 : decode cY_keep 67 = .ok (.getfield 25, 3) := by decide +kernel
theorem dY_keep_70 : decode cY_keep 70 = .ok (.iload 6, 2) := by decide +kernel
theorem dY_keep_72 : decode cY_keep 72 = .ok (.aload_n 0, 1) := by decide +kernel
theorem dY_keep_73 : decode cY_keep 73 = .ok (.getfield 25, 3) := by decide +kernel
theorem dY_keep_76 : decode cY_keep 76 = .ok (.iload 6, 2) := by decide +kernel
theorem dY_keep_78 : decode cY_keep 78 = .ok (.iconst 1, 1) := by decide +kernel
theorem dY_keep_79 : decode cY_keep 79 = .ok (.isub, 1) := by decide +kernel
theorem dY_keep_80 : decode cY_keep 80 = .ok (.iaload, 1) := by decide +kernel
theorem dY_keep_81 : decode cY_keep 81 = .ok (.iastore, 1) := by decide +kernel
theorem dY_keep_82 : decode cY_keep 82 = .ok (.aload_n 0, 1) := by decide +kernel
theorem dY_keep_83 : decode cY_keep 83 = .ok (.getfield 28, 3) := by decide +kernel
theorem dY_keep_86 : decode cY_keep 86 = .ok (.iload 6, 2) := by decide +kernel
theorem dY_keep_88 : decode cY_keep 88 = .ok (.aload_n 0, 1) := by decide +kernel
theorem dY_keep_89 : decode cY_keep 89 = .ok (.getfield 28, 3) := by decide +kernel
theorem dY_keep_92 : decode cY_keep 92 = .ok (.iload 6, 2) := by decide +kernel
theorem dY_keep_94 : decode cY_keep 94 = .ok (.iconst 1, 1) := by decide +kernel
theorem dY_keep_95 : decode cY_keep 95 = .ok (.isub, 1) := by decide +kernel
theorem dY_keep_96 : decode cY_keep 96 = .ok (.laload, 1) := by decide +kernel
theorem dY_keep_97 : decode cY_keep 97 = .ok (.lastore, 1) := by decide +kernel
theorem dY_keep_98 : decode cY_keep 98 = .ok (.aload_n 0, 1) := by decide +kernel
theorem dY_keep_99 : decode cY_keep 99 = .ok (.getfield 32, 3) := by decide +kernel
theorem dY_keep_102 : decode cY_keep 102 = .ok (.iload 6, 2) := by decide +kernel
theorem dY_keep_104 : decode cY_keep 104 = .ok (.aload_n 0, 1) := by decide +kernel
theorem dY_keep_105 : decode cY_keep 105 = .ok (.getfield 32, 3) := by decide +kernel
theorem dY_keep_108 : decode cY_keep 108 = .ok (.iload 6, 2) := by decide +kernel
theorem dY_keep_110 : decode cY_keep 110 = .ok (.iconst 1, 1) := by decide +kernel
theorem dY_keep_111 : decode cY_keep 111 = .ok (.isub, 1) := by decide +kernel
theorem dY_keep_112 : decode cY_keep 112 = .ok (.iaload, 1) := by decide +kernel
theorem dY_keep_113 : decode cY_keep 113 = .ok (.iastore, 1) := by decide +kernel
theorem dY_keep_114 : decode cY_keep 114 = .ok (.iinc 6 (-1), 3) := by decide +kernel
theorem dY_keep_117 : decode cY_keep 117 = .ok (.goto (-111), 3) := by decide +kernel
theorem dY_keep_120 : decode cY_keep 120 = .ok (.aload_n 0, 1) := by decide +kernel
theorem dY_keep_121 : decode cY_keep 121 = .ok (.getfield 22, 3) := by decide +kernel
theorem dY_keep_124 : decode cY_keep 124 = .ok (.iload 6, 2) := by decide +kernel
theorem dY_keep_126 : decode cY_keep 126 = .ok (.iload_n 1, 1) := by decide +kernel
theorem dY_keep_127 : decode cY_keep 127 = .ok (.iastore, 1) := by decide +kernel
theorem dY_keep_128 : decode cY_keep 128 = .ok (.aload_n 0, 1) := by decide +kernel
theorem dY_keep_129 : decode cY_keep 129 = .ok (.getfield 25, 3) := by decide +kernel
theorem dY_keep_132 : decode cY_keep 132 = .ok (.iload 6, 2) := by decide +kernel
theorem dY_keep_134 : decode cY_keep 134 = .ok (.iload_n 2, 1) := by decide +kernel
theorem dY_keep_135 : decode cY_keep 135 = .ok (.iastore, 1) := by decide +kernel
theorem dY_keep_136 : decode cY_keep 136 = .ok (.aload_n 0, 1) := by decide +kernel
theorem dY_keep_137 : decode cY_keep 137 = .ok (.getfield 28, 3) := by decide +kernel
theorem dY_keep_140 : decode cY_keep 140 = .ok (.iload 6, 2) := by decide +kernel
theorem dY_keep_142 : decode cY_keep 142 = .ok (.lload_n 3, 1) := by decide +kernel
theorem dY_keep_143 : decode cY_keep 143 = .ok (.lastore, 1) := by decide +kernel
theorem dY_keep_144 : decode cY_keep 144 = .ok (.aload_n 0, 1) := by decide +kernel
theorem dY_keep_145 : decode cY_keep 145 = .ok (.getfield 32, 3) := by decide +kernel
theorem dY_keep_148 : decode cY_keep 148 = .ok (.iload 6, 2) := by decide +kernel
theorem dY_keep_150 : decode cY_keep 150 = .ok (.iload 5, 2) := by decide +kernel
theorem dY_keep_152 : decode cY_keep 152 = .ok (.iastore, 1) := by decide +kernel
theorem dY_keep_153 : decode cY_keep 153 = .ok (.aload_n 0, 1) := by decide +kernel
theorem dY_keep_154 : decode cY_keep 154 = .ok (.dup, 1) := by decide +kernel
theorem dY_keep_155 : decode cY_keep 155 = .ok (.getfield 49, 3) := by decide +kernel
theorem dY_keep_158 : decode cY_keep 158 = .ok (.iconst 1, 1) := by decide +kernel
theorem dY_keep_159 : decode cY_keep 159 = .ok (.iadd, 1) := by decide +kernel
theorem dY_keep_160 : decode cY_keep 160 = .ok (.putfield 49, 3) := by decide +kernel
theorem dY_keep_163 : decode cY_keep 163 = .ok (.return_, 1) := by decide +kernel
theorem dY_ready_0 : decode cY_ready 0 = .ok (.iconst (-1), 1) := by decide +kernel
theorem dY_ready_1 : decode cY_ready 1 = .ok (.istore_n 1, 1) := by decide +kernel
theorem dY_ready_2 : decode cY_ready 2 = .ok (.aload_n 0, 1) := by decide +kernel
theorem dY_ready_3 : decode cY_ready 3 = .ok (.getfield 49, 3) := by decide +kernel
theorem dY_ready_6 : decode cY_ready 6 = .ok (.iconst 1, 1) := by decide +kernel
theorem dY_ready_7 : decode cY_ready 7 = .ok (.isub, 1) := by decide +kernel
theorem dY_ready_8 : decode cY_ready 8 = .ok (.istore_n 2, 1) := by decide +kernel
theorem dY_ready_9 : decode cY_ready 9 = .ok (.iload_n 2, 1) := by decide +kernel
theorem dY_ready_10 : decode cY_ready 10 = .ok (.ifCond .lt 40, 3) := by decide +kernel
theorem dY_ready_13 : decode cY_ready 13 = .ok (.aload_n 0, 1) := by decide +kernel
theorem dY_ready_14 : decode cY_ready 14 = .ok (.aload_n 0, 1) := by decide +kernel
theorem dY_ready_15 : decode cY_ready 15 = .ok (.getfield 22, 3) := by decide +kernel
theorem dY_ready_18 : decode cY_ready 18 = .ok (.iload_n 2, 1) := by decide +kernel
theorem dY_ready_19 : decode cY_ready 19 = .ok (.iaload, 1) := by decide +kernel
theorem dY_ready_20 : decode cY_ready 20 = .ok (.aload_n 0, 1) := by decide +kernel
theorem dY_ready_21 : decode cY_ready 21 = .ok (.getfield 25, 3) := by decide +kernel
theorem dY_ready_24 : decode cY_ready 24 = .ok (.iload_n 2, 1) := by decide +kernel
theorem dY_ready_25 : decode cY_ready 25 = .ok (.iaload, 1) := by decide +kernel
theorem dY_ready_26 : decode cY_ready 26 = .ok (.aload_n 0, 1) := by decide +kernel
theorem dY_ready_27 : decode cY_ready 27 = .ok (.getfield 28, 3) := by decide +kernel
theorem dY_ready_30 : decode cY_ready 30 = .ok (.iload_n 2, 1) := by decide +kernel
theorem dY_ready_31 : decode cY_ready 31 = .ok (.laload, 1) := by decide +kernel
theorem dY_ready_32 : decode cY_ready 32 = .ok (.invokevirtual 55, 3) := by decide +kernel
theorem dY_ready_35 : decode cY_ready 35 = .ok (.ifCond .eq 7, 3) := by decide +kernel
theorem dY_ready_38 : decode cY_ready 38 = .ok (.iload_n 2, 1) := by decide +kernel
theorem dY_ready_39 : decode cY_ready 39 = .ok (.goto 4, 3) := by decide +kernel
theorem dY_ready_42 : decode cY_ready 42 = .ok (.iload_n 1, 1) := by decide +kernel
theorem dY_ready_43 : decode cY_ready 43 = .ok (.istore_n 1, 1) := by decide +kernel
theorem dY_ready_44 : decode cY_ready 44 = .ok (.iinc 2 (-1), 3) := by decide +kernel
theorem dY_ready_47 : decode cY_ready 47 = .ok (.goto (-38), 3) := by decide +kernel
theorem dY_ready_50 : decode cY_ready 50 = .ok (.iload_n 1, 1) := by decide +kernel
theorem dY_ready_51 : decode cY_ready 51 = .ok (.ireturn, 1) := by decide +kernel
theorem dY_clear_0 : decode cY_clear 0 = .ok (.aload_n 0, 1) := by decide +kernel
theorem dY_clear_1 : decode cY_clear 1 = .ok (.iconst 0, 1) := by decide +kernel
theorem dY_clear_2 : decode cY_clear 2 = .ok (.putfield 35, 3) := by decide +kernel
theorem dY_clear_5 : decode cY_clear 5 = .ok (.iconst 0, 1) := by decide +kernel
theorem dY_clear_6 : decode cY_clear 6 = .ok (.istore_n 1, 1) := by decide +kernel
theorem dY_clear_7 : decode cY_clear 7 = .ok (.iload_n 1, 1) := by decide +kernel
theorem dY_clear_8 : decode cY_clear 8 = .ok (.bipush 8, 2) := by decide +kernel
theorem dY_clear_10 : decode cY_clear 10 = .ok (.if_icmp .ge 16, 3) := by decide +kernel
theorem dY_clear_13 : decode cY_clear 13 = .ok (.aload_n 0, 1) := by decide +kernel
theorem dY_clear_14 : decode cY_clear 14 = .ok (.getfield 7, 3) := by decide +kernel
theorem dY_clear_17 : decode cY_clear 17 = .ok (.iload_n 1, 1) := by decide +kernel
theorem dY_clear_18 : decode cY_clear 18 = .ok (.iconst 0, 1) := by decide +kernel
theorem dY_clear_19 : decode cY_clear 19 = .ok (.iastore, 1) := by decide +kernel
theorem dY_clear_20 : decode cY_clear 20 = .ok (.iinc 1 1, 3) := by decide +kernel
theorem dY_clear_23 : decode cY_clear 23 = .ok (.goto (-16), 3) := by decide +kernel
theorem dY_clear_26 : decode cY_clear 26 = .ok (.aload_n 0, 1) := by decide +kernel
theorem dY_clear_27 : decode cY_clear 27 = .ok (.iconst 0, 1) := by decide +kernel
theorem dY_clear_28 : decode cY_clear 28 = .ok (.putfield 52, 3) := by decide +kernel
theorem dY_clear_31 : decode cY_clear 31 = .ok (.aload_n 0, 1) := by decide +kernel
theorem dY_clear_32 : decode cY_clear 32 = .ok (.iconst 0, 1) := by decide +kernel
theorem dY_clear_33 : decode cY_clear 33 = .ok (.putfield 49, 3) := by decide +kernel
theorem dY_clear_36 : decode cY_clear 36 = .ok (.aload_n 0, 1) := by decide +kernel
theorem dY_clear_37 : decode cY_clear 37 = .ok (.iconst 0, 1) := by decide +kernel
theorem dY_clear_38 : decode cY_clear 38 = .ok (.putfield 59, 3) := by decide +kernel
theorem dY_clear_41 : decode cY_clear 41 = .ok (.aload_n 0, 1) := by decide +kernel
theorem dY_clear_42 : decode cY_clear 42 = .ok (.iconst 0, 1) := by decide +kernel
theorem dY_clear_43 : decode cY_clear 43 = .ok (.putfield 62, 3) := by decide +kernel
theorem dY_clear_46 : decode cY_clear 46 = .ok (.return_, 1) := by decide +kernel
theorem dY_offer_0 : decode cY_offer 0 = .ok (.aload_n 0, 1) := by decide +kernel
theorem dY_offer_1 : decode cY_offer 1 = .ok (.iload_n 1, 1) := by decide +kernel
theorem dY_offer_2 : decode cY_offer 2 = .ok (.ifCond .lt 21, 3) := by decide +kernel
theorem dY_offer_5 : decode cY_offer 5 = .ok (.iload_n 1, 1) := by decide +kernel
theorem dY_offer_6 : decode cY_offer 6 = .ok (.bipush 7, 2) := by decide +kernel
theorem dY_offer_8 : decode cY_offer 8 = .ok (.if_icmp .gt 15, 3) := by decide +kernel
theorem dY_offer_11 : decode cY_offer 11 = .ok (.iload_n 2, 1) := by decide +kernel
theorem dY_offer_12 : decode cY_offer 12 = .ok (.iconst 1, 1) := by decide +kernel
theorem dY_offer_13 : decode cY_offer 13 = .ok (.if_icmp .lt 10, 3) := by decide +kernel
theorem dY_offer_16 : decode cY_offer 16 = .ok (.iload_n 2, 1) := by decide +kernel
theorem dY_offer_17 : decode cY_offer 17 = .ok (.sipush 255, 3) := by decide +kernel
theorem dY_offer_20 : decode cY_offer 20 = .ok (.if_icmp .le 7, 3) := by decide +kernel
theorem dY_offer_23 : decode cY_offer 23 = .ok (.iconst 1, 1) := by decide +kernel
theorem dY_offer_24 : decode cY_offer 24 = .ok (.goto 4, 3) := by decide +kernel
theorem dY_offer_27 : decode cY_offer 27 = .ok (.iconst 0, 1) := by decide +kernel
theorem dY_offer_28 : decode cY_offer 28 = .ok (.putfield 35, 3) := by decide +kernel
theorem dY_offer_31 : decode cY_offer 31 = .ok (.aload_n 0, 1) := by decide +kernel
theorem dY_offer_32 : decode cY_offer 32 = .ok (.getfield 35, 3) := by decide +kernel
theorem dY_offer_35 : decode cY_offer 35 = .ok (.ifCond .le 5, 3) := by decide +kernel
theorem dY_offer_38 : decode cY_offer 38 = .ok (.iconst 0, 1) := by decide +kernel
theorem dY_offer_39 : decode cY_offer 39 = .ok (.ireturn, 1) := by decide +kernel
theorem dY_offer_40 : decode cY_offer 40 = .ok (.aload_n 0, 1) := by decide +kernel
theorem dY_offer_41 : decode cY_offer 41 = .ok (.iload_n 1, 1) := by decide +kernel
theorem dY_offer_42 : decode cY_offer 42 = .ok (.iload_n 2, 1) := by decide +kernel
theorem dY_offer_43 : decode cY_offer 43 = .ok (.invokevirtual 65, 3) := by decide +kernel
theorem dY_offer_46 : decode cY_offer 46 = .ok (.ifCond .eq 15, 3) := by decide +kernel
theorem dY_offer_49 : decode cY_offer 49 = .ok (.aload_n 0, 1) := by decide +kernel
theorem dY_offer_50 : decode cY_offer 50 = .ok (.dup, 1) := by decide +kernel
theorem dY_offer_51 : decode cY_offer 51 = .ok (.getfield 59, 3) := by decide +kernel
theorem dY_offer_54 : decode cY_offer 54 = .ok (.iconst 1, 1) := by decide +kernel
theorem dY_offer_55 : decode cY_offer 55 = .ok (.iadd, 1) := by decide +kernel
theorem dY_offer_56 : decode cY_offer 56 = .ok (.putfield 59, 3) := by decide +kernel
theorem dY_offer_59 : decode cY_offer 59 = .ok (.iconst 0, 1) := by decide +kernel
theorem dY_offer_60 : decode cY_offer 60 = .ok (.ireturn, 1) := by decide +kernel
theorem dY_offer_61 : decode cY_offer 61 = .ok (.aload_n 0, 1) := by decide +kernel
theorem dY_offer_62 : decode cY_offer 62 = .ok (.aload_n 0, 1) := by decide +kernel
theorem dY_offer_63 : decode cY_offer 63 = .ok (.iload_n 1, 1) := by decide +kernel
theorem dY_offer_64 : decode cY_offer 64 = .ok (.iload_n 2, 1) := by decide +kernel
theorem dY_offer_65 : decode cY_offer 65 = .ok (.lload_n 3, 1) := by decide +kernel
theorem dY_offer_66 : decode cY_offer 66 = .ok (.invokevirtual 55, 3) := by decide +kernel
theorem dY_offer_69 : decode cY_offer 69 = .ok (.ifCond .ne 16, 3) := by decide +kernel
theorem dY_offer_72 : decode cY_offer 72 = .ok (.aload_n 0, 1) := by decide +kernel
theorem dY_offer_73 : decode cY_offer 73 = .ok (.getfield 49, 3) := by decide +kernel
theorem dY_offer_76 : decode cY_offer 76 = .ok (.bipush 64, 2) := by decide +kernel
theorem dY_offer_78 : decode cY_offer 78 = .ok (.if_icmp .ne 7, 3) := by decide +kernel
theorem dY_offer_81 : decode cY_offer 81 = .ok (.iconst 2, 1) := by decide +kernel
theorem dY_offer_82 : decode cY_offer 82 = .ok (.goto 4, 3) := by decide +kernel
theorem dY_offer_85 : decode cY_offer 85 = .ok (.iconst 0, 1) := by decide +kernel
theorem dY_offer_86 : decode cY_offer 86 = .ok (.putfield 35, 3) := by decide +kernel
theorem dY_offer_89 : decode cY_offer 89 = .ok (.aload_n 0, 1) := by decide +kernel
theorem dY_offer_90 : decode cY_offer 90 = .ok (.getfield 35, 3) := by decide +kernel
theorem dY_offer_93 : decode cY_offer 93 = .ok (.ifCond .le 5, 3) := by decide +kernel
theorem dY_offer_96 : decode cY_offer 96 = .ok (.iconst 0, 1) := by decide +kernel
theorem dY_offer_97 : decode cY_offer 97 = .ok (.ireturn, 1) := by decide +kernel
theorem dY_offer_98 : decode cY_offer 98 = .ok (.aload_n 0, 1) := by decide +kernel
theorem dY_offer_99 : decode cY_offer 99 = .ok (.iload_n 1, 1) := by decide +kernel
theorem dY_offer_100 : decode cY_offer 100 = .ok (.iload_n 2, 1) := by decide +kernel
theorem dY_offer_101 : decode cY_offer 101 = .ok (.lload_n 3, 1) := by decide +kernel
theorem dY_offer_102 : decode cY_offer 102 = .ok (.iload 5, 2) := by decide +kernel
theorem dY_offer_104 : decode cY_offer 104 = .ok (.invokevirtual 69, 3) := by decide +kernel
theorem dY_offer_107 : decode cY_offer 107 = .ok (.aload_n 0, 1) := by decide +kernel
theorem dY_offer_108 : decode cY_offer 108 = .ok (.getfield 52, 3) := by decide +kernel
theorem dY_offer_111 : decode cY_offer 111 = .ok (.istore 6, 2) := by decide +kernel
theorem dY_offer_113 : decode cY_offer 113 = .ok (.aload_n 0, 1) := by decide +kernel
theorem dY_offer_114 : decode cY_offer 114 = .ok (.invokevirtual 73, 3) := by decide +kernel
theorem dY_offer_117 : decode cY_offer 117 = .ok (.istore 7, 2) := by decide +kernel
theorem dY_offer_119 : decode cY_offer 119 = .ok (.iload 7, 2) := by decide +kernel
theorem dY_offer_121 : decode cY_offer 121 = .ok (.ifCond .lt 43, 3) := by decide +kernel
theorem dY_offer_124 : decode cY_offer 124 = .ok (.aload_n 0, 1) := by decide +kernel
theorem dY_offer_125 : decode cY_offer 125 = .ok (.aload_n 0, 1) := by decide +kernel
end
section
theorem dY_offer_126 : decode cY_offer 126 = .ok (.getfield 22, 3) := by decide +kernel
theorem dY_offer_129 : decode cY_offer 129 = .ok (.iload 7, 2) := by decide +kernel
theorem dY_offer_131 : decode cY_offer 131 = .ok (.iaload, 1) := by decide +kernel
theorem dY_offer_132 : decode cY_offer 132 = .ok (.aload_n 0, 1) := by decide +kernel
theorem dY_offer_133 : decode cY_offer 133 = .ok (.getfield 25, 3) := by decide +kernel
theorem dY_offer_136 : decode cY_offer 136 = .ok (.iload 7, 2) := by decide +kernel
theorem dY_offer_138 : decode cY_offer 138 = .ok (.iaload, 1) := by decide +kernel
theorem dY_offer_139 : decode cY_offer 139 = .ok (.aload_n 0, 1) := by decide +kernel
theorem dY_offer_140 : decode cY_offer 140 = .ok (.getfield 32, 3) := by decide +kernel
theorem dY_offer_143 : decode cY_offer 143 = .ok (.iload 7, 2) := by decide +kernel
theorem dY_offer_145 : decode cY_offer 145 = .ok (.iaload, 1) := by decide +kernel
theorem dY_offer_146 : decode cY_offer 146 = .ok (.invokevirtual 77, 3) := by decide +kernel
theorem dY_offer_149 : decode cY_offer 149 = .ok (.aload_n 0, 1) := by decide +kernel
theorem dY_offer_150 : decode cY_offer 150 = .ok (.iload 7, 2) := by decide +kernel
theorem dY_offer_152 : decode cY_offer 152 = .ok (.invokevirtual 81, 3) := by decide +kernel
theorem dY_offer_155 : decode cY_offer 155 = .ok (.aload_n 0, 1) := by decide +kernel
theorem dY_offer_156 : decode cY_offer 156 = .ok (.invokevirtual 73, 3) := by decide +kernel
theorem dY_offer_159 : decode cY_offer 159 = .ok (.istore 7, 2) := by decide +kernel
theorem dY_offer_161 : decode cY_offer 161 = .ok (.goto (-42), 3) := by decide +kernel
theorem dY_offer_164 : decode cY_offer 164 = .ok (.aload_n 0, 1) := by decide +kernel
theorem dY_offer_165 : decode cY_offer 165 = .ok (.aload_n 0, 1) := by decide +kernel
theorem dY_offer_166 : decode cY_offer 166 = .ok (.getfield 49, 3) := by decide +kernel
theorem dY_offer_169 : decode cY_offer 169 = .ok (.aload_n 0, 1) := by decide +kernel
theorem dY_offer_170 : decode cY_offer 170 = .ok (.getfield 62, 3) := by decide +kernel
theorem dY_offer_173 : decode cY_offer 173 = .ok (.if_icmp .le 10, 3) := by decide +kernel
theorem dY_offer_176 : decode cY_offer 176 = .ok (.aload_n 0, 1) := by decide +kernel
theorem dY_offer_177 : decode cY_offer 177 = .ok (.getfield 49, 3) := by decide +kernel
theorem dY_offer_180 : decode cY_offer 180 = .ok (.goto 7, 3) := by decide +kernel
theorem dY_offer_183 : decode cY_offer 183 = .ok (.aload_n 0, 1) := by decide +kernel
theorem dY_offer_184 : decode cY_offer 184 = .ok (.getfield 62, 3) := by decide +kernel
theorem dY_offer_187 : decode cY_offer 187 = .ok (.putfield 62, 3) := by decide +kernel
theorem dY_offer_190 : decode cY_offer 190 = .ok (.aload_n 0, 1) := by decide +kernel
theorem dY_offer_191 : decode cY_offer 191 = .ok (.getfield 52, 3) := by decide +kernel
theorem dY_offer_194 : decode cY_offer 194 = .ok (.iload 6, 2) := by decide +kernel
theorem dY_offer_196 : decode cY_offer 196 = .ok (.isub, 1) := by decide +kernel
theorem dY_offer_197 : decode cY_offer 197 = .ok (.ireturn, 1) := by decide +kernel
theorem dY_known_0 : decode cY_known 0 = .ok (.aload_n 0, 1) := by decide +kernel
theorem dY_known_1 : decode cY_known 1 = .ok (.iconst 0, 1) := by decide +kernel
theorem dY_known_2 : decode cY_known 2 = .ok (.putfield 35, 3) := by decide +kernel
theorem dY_known_5 : decode cY_known 5 = .ok (.iload_n 1, 1) := by decide +kernel
theorem dY_known_6 : decode cY_known 6 = .ok (.ifCond .lt 33, 3) := by decide +kernel
theorem dY_known_9 : decode cY_known 9 = .ok (.iload_n 1, 1) := by decide +kernel
theorem dY_known_10 : decode cY_known 10 = .ok (.bipush 8, 2) := by decide +kernel
theorem dY_known_12 : decode cY_known 12 = .ok (.if_icmp .ge 27, 3) := by decide +kernel
theorem dY_known_15 : decode cY_known 15 = .ok (.iload_n 2, 1) := by decide +kernel
theorem dY_known_16 : decode cY_known 16 = .ok (.ifCond .le 23, 3) := by decide +kernel
theorem dY_known_19 : decode cY_known 19 = .ok (.iload_n 2, 1) := by decide +kernel
theorem dY_known_20 : decode cY_known 20 = .ok (.sipush 256, 3) := by decide +kernel
theorem dY_known_23 : decode cY_known 23 = .ok (.if_icmp .ge 16, 3) := by decide +kernel
theorem dY_known_26 : decode cY_known 26 = .ok (.aload_n 0, 1) := by decide +kernel
theorem dY_known_27 : decode cY_known 27 = .ok (.iload_n 1, 1) := by decide +kernel
theorem dY_known_28 : decode cY_known 28 = .ok (.iload_n 2, 1) := by decide +kernel
theorem dY_known_29 : decode cY_known 29 = .ok (.invokevirtual 65, 3) := by decide +kernel
theorem dY_known_32 : decode cY_known 32 = .ok (.ifCond .eq 7, 3) := by decide +kernel
theorem dY_known_35 : decode cY_known 35 = .ok (.iconst 1, 1) := by decide +kernel
theorem dY_known_36 : decode cY_known 36 = .ok (.goto 4, 3) := by decide +kernel
theorem dY_known_39 : decode cY_known 39 = .ok (.iconst 0, 1) := by decide +kernel
theorem dY_known_40 : decode cY_known 40 = .ok (.ireturn, 1) := by decide +kernel
theorem dY_clock_0 : decode cY_clock 0 = .ok (.aload_n 0, 1) := by decide +kernel
theorem dY_clock_1 : decode cY_clock 1 = .ok (.iconst 0, 1) := by decide +kernel
theorem dY_clock_2 : decode cY_clock 2 = .ok (.putfield 35, 3) := by decide +kernel
theorem dY_clock_5 : decode cY_clock 5 = .ok (.lconst 0, 1) := by decide +kernel
theorem dY_clock_6 : decode cY_clock 6 = .ok (.lstore_n 1, 1) := by decide +kernel
theorem dY_clock_7 : decode cY_clock 7 = .ok (.bipush 7, 2) := by decide +kernel
theorem dY_clock_9 : decode cY_clock 9 = .ok (.istore_n 3, 1) := by decide +kernel
theorem dY_clock_10 : decode cY_clock 10 = .ok (.iload_n 3, 1) := by decide +kernel
theorem dY_clock_11 : decode cY_clock 11 = .ok (.ifCond .lt 22, 3) := by decide +kernel
theorem dY_clock_14 : decode cY_clock 14 = .ok (.lload_n 1, 1) := by decide +kernel
theorem dY_clock_15 : decode cY_clock 15 = .ok (.bipush 8, 2) := by decide +kernel
theorem dY_clock_17 : decode cY_clock 17 = .ok (.lshl, 1) := by decide +kernel
theorem dY_clock_18 : decode cY_clock 18 = .ok (.aload_n 0, 1) := by decide +kernel
theorem dY_clock_19 : decode cY_clock 19 = .ok (.getfield 7, 3) := by decide +kernel
theorem dY_clock_22 : decode cY_clock 22 = .ok (.iload_n 3, 1) := by decide +kernel
theorem dY_clock_23 : decode cY_clock 23 = .ok (.iaload, 1) := by decide +kernel
theorem dY_clock_24 : decode cY_clock 24 = .ok (.i2l, 1) := by decide +kernel
theorem dY_clock_25 : decode cY_clock 25 = .ok (.lor, 1) := by decide +kernel
theorem dY_clock_26 : decode cY_clock 26 = .ok (.lstore_n 1, 1) := by decide +kernel
theorem dY_clock_27 : decode cY_clock 27 = .ok (.iinc 3 (-1), 3) := by decide +kernel
theorem dY_clock_30 : decode cY_clock 30 = .ok (.goto (-20), 3) := by decide +kernel
theorem dY_clock_33 : decode cY_clock 33 = .ok (.lload_n 1, 1) := by decide +kernel
theorem dY_clock_34 : decode cY_clock 34 = .ok (.lreturn, 1) := by decide +kernel
theorem dY_through_0 : decode cY_through 0 = .ok (.aload_n 0, 1) := by decide +kernel
theorem dY_through_1 : decode cY_through 1 = .ok (.iload_n 1, 1) := by decide +kernel
theorem dY_through_2 : decode cY_through 2 = .ok (.ifCond .lt 20, 3) := by decide +kernel
theorem dY_through_5 : decode cY_through 5 = .ok (.iload_n 1, 1) := by decide +kernel
theorem dY_through_6 : decode cY_through 6 = .ok (.aload_n 0, 1) := by decide +kernel
theorem dY_through_7 : decode cY_through 7 = .ok (.getfield 52, 3) := by decide +kernel
theorem dY_through_10 : decode cY_through 10 = .ok (.if_icmp .ge 12, 3) := by decide +kernel
theorem dY_through_13 : decode cY_through 13 = .ok (.iload_n 2, 1) := by decide +kernel
theorem dY_through_14 : decode cY_through 14 = .ok (.ifCond .lt 8, 3) := by decide +kernel
theorem dY_through_17 : decode cY_through 17 = .ok (.iload_n 2, 1) := by decide +kernel
theorem dY_through_18 : decode cY_through 18 = .ok (.iconst 2, 1) := by decide +kernel
theorem dY_through_19 : decode cY_through 19 = .ok (.if_icmp .le 7, 3) := by decide +kernel
theorem dY_through_22 : decode cY_through 22 = .ok (.iconst 1, 1) := by decide +kernel
theorem dY_through_23 : decode cY_through 23 = .ok (.goto 4, 3) := by decide +kernel
theorem dY_through_26 : decode cY_through 26 = .ok (.iconst 0, 1) := by decide +kernel
theorem dY_through_27 : decode cY_through 27 = .ok (.putfield 35, 3) := by decide +kernel
theorem dY_through_30 : decode cY_through 30 = .ok (.aload_n 0, 1) := by decide +kernel
theorem dY_through_31 : decode cY_through 31 = .ok (.getfield 35, 3) := by decide +kernel
theorem dY_through_34 : decode cY_through 34 = .ok (.ifCond .le 7, 3) := by decide +kernel
theorem dY_through_37 : decode cY_through 37 = .ok (.iconst 0, 1) := by decide +kernel
theorem dY_through_38 : decode cY_through 38 = .ok (.goto 36, 3) := by decide +kernel
theorem dY_through_41 : decode cY_through 41 = .ok (.iload_n 2, 1) := by decide +kernel
theorem dY_through_42 : decode cY_through 42 = .ok (.ifCond .ne 12, 3) := by decide +kernel
theorem dY_through_45 : decode cY_through 45 = .ok (.aload_n 0, 1) := by decide +kernel
theorem dY_through_46 : decode cY_through 46 = .ok (.getfield 13, 3) := by decide +kernel
theorem dY_through_49 : decode cY_through 49 = .ok (.iload_n 1, 1) := by decide +kernel
theorem dY_through_50 : decode cY_through 50 = .ok (.iaload, 1) := by decide +kernel
theorem dY_through_51 : decode cY_through 51 = .ok (.goto 23, 3) := by decide +kernel
theorem dY_through_54 : decode cY_through 54 = .ok (.iload_n 2, 1) := by decide +kernel
theorem dY_through_55 : decode cY_through 55 = .ok (.iconst 1, 1) := by decide +kernel
theorem dY_through_56 : decode cY_through 56 = .ok (.if_icmp .ne 12, 3) := by decide +kernel
theorem dY_through_59 : decode cY_through 59 = .ok (.aload_n 0, 1) := by decide +kernel
theorem dY_through_60 : decode cY_through 60 = .ok (.getfield 16, 3) := by decide +kernel
theorem dY_through_63 : decode cY_through 63 = .ok (.iload_n 1, 1) := by decide +kernel
theorem dY_through_64 : decode cY_through 64 = .ok (.iaload, 1) := by decide +kernel
theorem dY_through_65 : decode cY_through 65 = .ok (.goto 9, 3) := by decide +kernel
theorem dY_through_68 : decode cY_through 68 = .ok (.aload_n 0, 1) := by decide +kernel
theorem dY_through_69 : decode cY_through 69 = .ok (.getfield 19, 3) := by decide +kernel
theorem dY_through_72 : decode cY_through 72 = .ok (.iload_n 1, 1) := by decide +kernel
theorem dY_through_73 : decode cY_through 73 = .ok (.iaload, 1) := by decide +kernel
theorem dY_through_74 : decode cY_through 74 = .ok (.ireturn, 1) := by decide +kernel
theorem dY_waiting_0 : decode cY_waiting 0 = .ok (.aload_n 0, 1) := by decide +kernel
theorem dY_waiting_1 : decode cY_waiting 1 = .ok (.iload_n 1, 1) := by decide +kernel
theorem dY_waiting_2 : decode cY_waiting 2 = .ok (.ifCond .lt 20, 3) := by decide +kernel
theorem dY_waiting_5 : decode cY_waiting 5 = .ok (.iload_n 1, 1) := by decide +kernel
theorem dY_waiting_6 : decode cY_waiting 6 = .ok (.aload_n 0, 1) := by decide +kernel
theorem dY_waiting_7 : decode cY_waiting 7 = .ok (.getfield 49, 3) := by decide +kernel
theorem dY_waiting_10 : decode cY_waiting 10 = .ok (.if_icmp .ge 12, 3) := by decide +kernel
theorem dY_waiting_13 : decode cY_waiting 13 = .ok (.iload_n 2, 1) := by decide +kernel
theorem dY_waiting_14 : decode cY_waiting 14 = .ok (.ifCond .lt 8, 3) := by decide +kernel
theorem dY_waiting_17 : decode cY_waiting 17 = .ok (.iload_n 2, 1) := by decide +kernel
theorem dY_waiting_18 : decode cY_waiting 18 = .ok (.iconst 4, 1) := by decide +kernel
theorem dY_waiting_19 : decode cY_waiting 19 = .ok (.if_icmp .le 7, 3) := by decide +kernel
theorem dY_waiting_22 : decode cY_waiting 22 = .ok (.iconst 1, 1) := by decide +kernel
theorem dY_waiting_23 : decode cY_waiting 23 = .ok (.goto 4, 3) := by decide +kernel
theorem dY_waiting_26 : decode cY_waiting 26 = .ok (.iconst 0, 1) := by decide +kernel
theorem dY_waiting_27 : decode cY_waiting 27 = .ok (.putfield 35, 3) := by decide +kernel
theorem dY_waiting_30 : decode cY_waiting 30 = .ok (.aload_n 0, 1) := by decide +kernel
theorem dY_waiting_31 : decode cY_waiting 31 = .ok (.getfield 35, 3) := by decide +kernel
theorem dY_waiting_34 : decode cY_waiting 34 = .ok (.ifCond .le 5, 3) := by decide +kernel
theorem dY_waiting_37 : decode cY_waiting 37 = .ok (.iconst 0, 1) := by decide +kernel
theorem dY_waiting_38 : decode cY_waiting 38 = .ok (.ireturn, 1) := by decide +kernel
theorem dY_waiting_39 : decode cY_waiting 39 = .ok (.aload_n 0, 1) := by decide +kernel
theorem dY_waiting_40 : decode cY_waiting 40 = .ok (.getfield 22, 3) := by decide +kernel
theorem dY_waiting_43 : decode cY_waiting 43 = .ok (.iload_n 1, 1) := by decide +kernel
theorem dY_waiting_44 : decode cY_waiting 44 = .ok (.iaload, 1) := by decide +kernel
theorem dY_waiting_45 : decode cY_waiting 45 = .ok (.istore_n 3, 1) := by decide +kernel
theorem dY_waiting_46 : decode cY_waiting 46 = .ok (.aload_n 0, 1) := by decide +kernel
theorem dY_waiting_47 : decode cY_waiting 47 = .ok (.getfield 25, 3) := by decide +kernel
theorem dY_waiting_50 : decode cY_waiting 50 = .ok (.iload_n 1, 1) := by decide +kernel
theorem dY_waiting_51 : decode cY_waiting 51 = .ok (.iaload, 1) := by decide +kernel
theorem dY_waiting_52 : decode cY_waiting 52 = .ok (.aload_n 0, 1) := by decide +kernel
theorem dY_waiting_53 : decode cY_waiting 53 = .ok (.getfield 7, 3) := by decide +kernel
theorem dY_waiting_56 : decode cY_waiting 56 = .ok (.iload_n 3, 1) := by decide +kernel
theorem dY_waiting_57 : decode cY_waiting 57 = .ok (.iaload, 1) := by decide +kernel
theorem dY_waiting_58 : decode cY_waiting 58 = .ok (.iconst 1, 1) := by decide +kernel
theorem dY_waiting_59 : decode cY_waiting 59 = .ok (.iadd, 1) := by decide +kernel
theorem dY_waiting_60 : decode cY_waiting 60 = .ok (.if_icmp .le 7, 3) := by decide +kernel
theorem dY_waiting_63 : decode cY_waiting 63 = .ok (.iconst 1, 1) := by decide +kernel
theorem dY_waiting_64 : decode cY_waiting 64 = .ok (.goto 4, 3) := by decide +kernel
theorem dY_waiting_67 : decode cY_waiting 67 = .ok (.iconst 0, 1) := by decide +kernel
theorem dY_waiting_68 : decode cY_waiting 68 = .ok (.istore 4, 2) := by decide +kernel
theorem dY_waiting_70 : decode cY_waiting 70 = .ok (.iload 4, 2) := by decide +kernel
theorem dY_waiting_72 : decode cY_waiting 72 = .ok (.ifCond .eq 7, 3) := by decide +kernel
theorem dY_waiting_75 : decode cY_waiting 75 = .ok (.iload_n 3, 1) := by decide +kernel
theorem dY_waiting_76 : decode cY_waiting 76 = .ok (.goto 14, 3) := by decide +kernel
theorem dY_waiting_79 : decode cY_waiting 79 = .ok (.aload_n 0, 1) := by decide +kernel
theorem dY_waiting_80 : decode cY_waiting 80 = .ok (.iload_n 3, 1) := by decide +kernel
theorem dY_waiting_81 : decode cY_waiting 81 = .ok (.aload_n 0, 1) := by decide +kernel
theorem dY_waiting_82 : decode cY_waiting 82 = .ok (.getfield 28, 3) := by decide +kernel
theorem dY_waiting_85 : decode cY_waiting 85 = .ok (.iload_n 1, 1) := by decide +kernel
theorem dY_waiting_86 : decode cY_waiting 86 = .ok (.laload, 1) := by decide +kernel
theorem dY_waiting_87 : decode cY_waiting 87 = .ok (.invokevirtual 45, 3) := by decide +kernel
theorem dY_waiting_90 : decode cY_waiting 90 = .ok (.istore 5, 2) := by decide +kernel
theorem dY_waiting_92 : decode cY_waiting 92 = .ok (.iload_n 2, 1) := by decide +kernel
theorem dY_waiting_93 : decode cY_waiting 93 = .ok (.ifCond .ne 7, 3) := by decide +kernel
theorem dY_waiting_96 : decode cY_waiting 96 = .ok (.iload_n 3, 1) := by decide +kernel
theorem dY_waiting_97 : decode cY_waiting 97 = .ok (.goto 59, 3) := by decide +kernel
theorem dY_waiting_100 : decode cY_waiting 100 = .ok (.iload_n 2, 1) := by decide +kernel
theorem dY_waiting_101 : decode cY_waiting 101 = .ok (.iconst 1, 1) := by decide +kernel
theorem dY_waiting_102 : decode cY_waiting 102 = .ok (.if_icmp .ne 12, 3) := by decide +kernel
theorem dY_waiting_105 : decode cY_waiting 105 = .ok (.aload_n 0, 1) := by decide +kernel
theorem dY_waiting_106 : decode cY_waiting 106 = .ok (.getfield 25, 3) := by decide +kernel
theorem dY_waiting_109 : decode cY_waiting 109 = .ok (.iload_n 1, 1) := by decide +kernel
theorem dY_waiting_110 : decode cY_waiting 110 = .ok (.iaload, 1) := by decide +kernel
theorem dY_waiting_111 : decode cY_waiting 111 = .ok (.goto 45, 3) := by decide +kernel
theorem dY_waiting_114 : decode cY_waiting 114 = .ok (.iload_n 2, 1) := by decide +kernel
theorem dY_waiting_115 : decode cY_waiting 115 = .ok (.iconst 2, 1) := by decide +kernel
theorem dY_waiting_116 : decode cY_waiting 116 = .ok (.if_icmp .ne 12, 3) := by decide +kernel
theorem dY_waiting_119 : decode cY_waiting 119 = .ok (.aload_n 0, 1) := by decide +kernel
theorem dY_waiting_120 : decode cY_waiting 120 = .ok (.getfield 32, 3) := by decide +kernel
theorem dY_waiting_123 : decode cY_waiting 123 = .ok (.iload_n 1, 1) := by decide +kernel
theorem dY_waiting_124 : decode cY_waiting 124 = .ok (.iaload, 1) := by decide +kernel
theorem dY_waiting_125 : decode cY_waiting 125 = .ok (.goto 31, 3) := by decide +kernel
theorem dY_waiting_128 : decode cY_waiting 128 = .ok (.iload_n 2, 1) := by decide +kernel
theorem dY_waiting_129 : decode cY_waiting 129 = .ok (.iconst 3, 1) := by decide +kernel
theorem dY_waiting_130 : decode cY_waiting 130 = .ok (.if_icmp .ne 8, 3) := by decide +kernel
theorem dY_waiting_133 : decode cY_waiting 133 = .ok (.iload 5, 2) := by decide +kernel
theorem dY_waiting_135 : decode cY_waiting 135 = .ok (.goto 21, 3) := by decide +kernel
theorem dY_waiting_138 : decode cY_waiting 138 = .ok (.aload_n 0, 1) := by decide +kernel
theorem dY_waiting_139 : decode cY_waiting 139 = .ok (.getfield 7, 3) := by decide +kernel
theorem dY_waiting_142 : decode cY_waiting 142 = .ok (.iload 5, 2) := by decide +kernel
theorem dY_waiting_144 : decode cY_waiting 144 = .ok (.ifCond .ge 7, 3) := by decide +kernel
theorem dY_waiting_147 : decode cY_waiting 147 = .ok (.iconst 0, 1) := by decide +kernel
theorem dY_waiting_148 : decode cY_waiting 148 = .ok (.goto 5, 3) := by decide +kernel
theorem dY_waiting_151 : decode cY_waiting 151 = .ok (.iload 5, 2) := by decide +kernel
theorem dY_waiting_153 : decode cY_waiting 153 = .ok (.iaload, 1) := by decide +kernel
theorem dY_waiting_154 : decode cY_waiting 154 = .ok (.iconst 1, 1) := by decide +kernel
theorem dY_waiting_155 : decode cY_waiting 155 = .ok (.iadd, 1) := by decide +kernel
theorem dY_waiting_156 : decode cY_waiting 156 = .ok (.ireturn, 1) := by decide +kernel
theorem dY_lacks_0 : decode cY_lacks 0 = .ok (.aload_n 0, 1) := by decide +kernel
theorem dY_lacks_1 : decode cY_lacks 1 = .ok (.getfield 16, 3) := by decide +kernel
theorem dY_lacks_4 : decode cY_lacks 4 = .ok (.iload_n 3, 1) := by decide +kernel
theorem dY_lacks_5 : decode cY_lacks 5 = .ok (.iaload, 1) := by decide +kernel
theorem dY_lacks_6 : decode cY_lacks 6 = .ok (.lload_n 1, 1) := by decide +kernel
theorem dY_lacks_7 : decode cY_lacks 7 = .ok (.aload_n 0, 1) := by decide +kernel
theorem dY_lacks_8 : decode cY_lacks 8 = .ok (.getfield 13, 3) := by decide +kernel
theorem dY_lacks_11 : decode cY_lacks 11 = .ok (.iload_n 3, 1) := by decide +kernel
theorem dY_lacks_12 : decode cY_lacks 12 = .ok (.iaload, 1) := by decide +kernel
end
section
theorem dY_lacks_13 : decode cY_lacks 13 = .ok (.invokestatic 41, 3) := by decide +kernel
theorem dY_lacks_16 : decode cY_lacks 16 = .ok (.if_icmp .le 7, 3) := by decide +kernel
theorem dY_lacks_19 : decode cY_lacks 19 = .ok (.iconst 1, 1) := by decide +kernel
theorem dY_lacks_20 : decode cY_lacks 20 = .ok (.goto 4, 3) := by decide +kernel
theorem dY_lacks_23 : decode cY_lacks 23 = .ok (.iconst 0, 1) := by decide +kernel
theorem dY_lacks_24 : decode cY_lacks 24 = .ok (.ireturn, 1) := by decide +kernel
theorem dY_ahead_0 : decode cY_ahead 0 = .ok (.aload_n 0, 1) := by decide +kernel
theorem dY_ahead_1 : decode cY_ahead 1 = .ok (.iconst 0, 1) := by decide +kernel
theorem dY_ahead_2 : decode cY_ahead 2 = .ok (.putfield 35, 3) := by decide +kernel
theorem dY_ahead_5 : decode cY_ahead 5 = .ok (.iconst 0, 1) := by decide +kernel
theorem dY_ahead_6 : decode cY_ahead 6 = .ok (.istore_n 3, 1) := by decide +kernel
theorem dY_ahead_7 : decode cY_ahead 7 = .ok (.iconst 0, 1) := by decide +kernel
theorem dY_ahead_8 : decode cY_ahead 8 = .ok (.istore 4, 2) := by decide +kernel
theorem dY_ahead_10 : decode cY_ahead 10 = .ok (.iload 4, 2) := by decide +kernel
theorem dY_ahead_12 : decode cY_ahead 12 = .ok (.aload_n 0, 1) := by decide +kernel
theorem dY_ahead_13 : decode cY_ahead 13 = .ok (.getfield 52, 3) := by decide +kernel
theorem dY_ahead_16 : decode cY_ahead 16 = .ok (.if_icmp .ge 27, 3) := by decide +kernel
theorem dY_ahead_19 : decode cY_ahead 19 = .ok (.iload_n 3, 1) := by decide +kernel
theorem dY_ahead_20 : decode cY_ahead 20 = .ok (.aload_n 0, 1) := by decide +kernel
theorem dY_ahead_21 : decode cY_ahead 21 = .ok (.lload_n 1, 1) := by decide +kernel
theorem dY_ahead_22 : decode cY_ahead 22 = .ok (.iload 4, 2) := by decide +kernel
theorem dY_ahead_24 : decode cY_ahead 24 = .ok (.invokevirtual 85, 3) := by decide +kernel
theorem dY_ahead_27 : decode cY_ahead 27 = .ok (.ifCond .eq 7, 3) := by decide +kernel
theorem dY_ahead_30 : decode cY_ahead 30 = .ok (.iconst 1, 1) := by decide +kernel
theorem dY_ahead_31 : decode cY_ahead 31 = .ok (.goto 4, 3) := by decide +kernel
theorem dY_ahead_34 : decode cY_ahead 34 = .ok (.iconst 0, 1) := by decide +kernel
theorem dY_ahead_35 : decode cY_ahead 35 = .ok (.iadd, 1) := by decide +kernel
theorem dY_ahead_36 : decode cY_ahead 36 = .ok (.istore_n 3, 1) := by decide +kernel
theorem dY_ahead_37 : decode cY_ahead 37 = .ok (.iinc 4 1, 3) := by decide +kernel
theorem dY_ahead_40 : decode cY_ahead 40 = .ok (.goto (-30), 3) := by decide +kernel
theorem dY_ahead_43 : decode cY_ahead 43 = .ok (.iload_n 3, 1) := by decide +kernel
theorem dY_ahead_44 : decode cY_ahead 44 = .ok (.ireturn, 1) := by decide +kernel
theorem dY_next_0 : decode cY_next 0 = .ok (.aload_n 0, 1) := by decide +kernel
theorem dY_next_1 : decode cY_next 1 = .ok (.iconst 0, 1) := by decide +kernel
theorem dY_next_2 : decode cY_next 2 = .ok (.putfield 35, 3) := by decide +kernel
theorem dY_next_5 : decode cY_next 5 = .ok (.iconst 0, 1) := by decide +kernel
theorem dY_next_6 : decode cY_next 6 = .ok (.istore 4, 2) := by decide +kernel
theorem dY_next_8 : decode cY_next 8 = .ok (.iload 4, 2) := by decide +kernel
theorem dY_next_10 : decode cY_next 10 = .ok (.aload_n 0, 1) := by decide +kernel
theorem dY_next_11 : decode cY_next 11 = .ok (.getfield 52, 3) := by decide +kernel
theorem dY_next_14 : decode cY_next 14 = .ok (.if_icmp .ge 28, 3) := by decide +kernel
theorem dY_next_17 : decode cY_next 17 = .ok (.iload 4, 2) := by decide +kernel
theorem dY_next_19 : decode cY_next 19 = .ok (.iload_n 3, 1) := by decide +kernel
theorem dY_next_20 : decode cY_next 20 = .ok (.if_icmp .le 16, 3) := by decide +kernel
theorem dY_next_23 : decode cY_next 23 = .ok (.aload_n 0, 1) := by decide +kernel
theorem dY_next_24 : decode cY_next 24 = .ok (.lload_n 1, 1) := by decide +kernel
theorem dY_next_25 : decode cY_next 25 = .ok (.iload 4, 2) := by decide +kernel
theorem dY_next_27 : decode cY_next 27 = .ok (.invokevirtual 85, 3) := by decide +kernel
theorem dY_next_30 : decode cY_next 30 = .ok (.ifCond .eq 6, 3) := by decide +kernel
theorem dY_next_33 : decode cY_next 33 = .ok (.iload 4, 2) := by decide +kernel
theorem dY_next_35 : decode cY_next 35 = .ok (.ireturn, 1) := by decide +kernel
theorem dY_next_36 : decode cY_next 36 = .ok (.iinc 4 1, 3) := by decide +kernel
theorem dY_next_39 : decode cY_next 39 = .ok (.goto (-31), 3) := by decide +kernel
theorem dY_next_42 : decode cY_next 42 = .ok (.iconst (-1), 1) := by decide +kernel
theorem dY_next_43 : decode cY_next 43 = .ok (.ireturn, 1) := by decide +kernel
theorem dY_compare_0 : decode cY_compare 0 = .ok (.aload_n 0, 1) := by decide +kernel
theorem dY_compare_1 : decode cY_compare 1 = .ok (.iconst 0, 1) := by decide +kernel
theorem dY_compare_2 : decode cY_compare 2 = .ok (.putfield 35, 3) := by decide +kernel
theorem dY_compare_5 : decode cY_compare 5 = .ok (.iconst 0, 1) := by decide +kernel
theorem dY_compare_6 : decode cY_compare 6 = .ok (.istore_n 3, 1) := by decide +kernel
theorem dY_compare_7 : decode cY_compare 7 = .ok (.iconst 0, 1) := by decide +kernel
theorem dY_compare_8 : decode cY_compare 8 = .ok (.istore 4, 2) := by decide +kernel
theorem dY_compare_10 : decode cY_compare 10 = .ok (.iconst 0, 1) := by decide +kernel
theorem dY_compare_11 : decode cY_compare 11 = .ok (.istore 5, 2) := by decide +kernel
theorem dY_compare_13 : decode cY_compare 13 = .ok (.iload 5, 2) := by decide +kernel
theorem dY_compare_15 : decode cY_compare 15 = .ok (.bipush 8, 2) := by decide +kernel
theorem dY_compare_17 : decode cY_compare 17 = .ok (.if_icmp .ge 63, 3) := by decide +kernel
theorem dY_compare_20 : decode cY_compare 20 = .ok (.iload_n 3, 1) := by decide +kernel
theorem dY_compare_21 : decode cY_compare 21 = .ok (.ifCond .ne 19, 3) := by decide +kernel
theorem dY_compare_24 : decode cY_compare 24 = .ok (.aload_n 0, 1) := by decide +kernel
theorem dY_compare_25 : decode cY_compare 25 = .ok (.getfield 7, 3) := by decide +kernel
theorem dY_compare_28 : decode cY_compare 28 = .ok (.iload 5, 2) := by decide +kernel
theorem dY_compare_30 : decode cY_compare 30 = .ok (.iaload, 1) := by decide +kernel
theorem dY_compare_31 : decode cY_compare 31 = .ok (.lload_n 1, 1) := by decide +kernel
theorem dY_compare_32 : decode cY_compare 32 = .ok (.iload 5, 2) := by decide +kernel
theorem dY_compare_34 : decode cY_compare 34 = .ok (.invokestatic 41, 3) := by decide +kernel
theorem dY_compare_37 : decode cY_compare 37 = .ok (.if_icmp .ge 7, 3) := by decide +kernel
theorem dY_compare_40 : decode cY_compare 40 = .ok (.iconst 1, 1) := by decide +kernel
theorem dY_compare_41 : decode cY_compare 41 = .ok (.goto 4, 3) := by decide +kernel
theorem dY_compare_44 : decode cY_compare 44 = .ok (.iconst 0, 1) := by decide +kernel
theorem dY_compare_45 : decode cY_compare 45 = .ok (.istore_n 3, 1) := by decide +kernel
theorem dY_compare_46 : decode cY_compare 46 = .ok (.iload 4, 2) := by decide +kernel
theorem dY_compare_48 : decode cY_compare 48 = .ok (.ifCond .ne 19, 3) := by decide +kernel
theorem dY_compare_51 : decode cY_compare 51 = .ok (.aload_n 0, 1) := by decide +kernel
theorem dY_compare_52 : decode cY_compare 52 = .ok (.getfield 7, 3) := by decide +kernel
theorem dY_compare_55 : decode cY_compare 55 = .ok (.iload 5, 2) := by decide +kernel
theorem dY_compare_57 : decode cY_compare 57 = .ok (.iaload, 1) := by decide +kernel
theorem dY_compare_58 : decode cY_compare 58 = .ok (.lload_n 1, 1) := by decide +kernel
theorem dY_compare_59 : decode cY_compare 59 = .ok (.iload 5, 2) := by decide +kernel
theorem dY_compare_61 : decode cY_compare 61 = .ok (.invokestatic 41, 3) := by decide +kernel
theorem dY_compare_64 : decode cY_compare 64 = .ok (.if_icmp .le 7, 3) := by decide +kernel
theorem dY_compare_67 : decode cY_compare 67 = .ok (.iconst 1, 1) := by decide +kernel
theorem dY_compare_68 : decode cY_compare 68 = .ok (.goto 4, 3) := by decide +kernel
theorem dY_compare_71 : decode cY_compare 71 = .ok (.iconst 0, 1) := by decide +kernel
theorem dY_compare_72 : decode cY_compare 72 = .ok (.istore 4, 2) := by decide +kernel
theorem dY_compare_74 : decode cY_compare 74 = .ok (.iinc 5 1, 3) := by decide +kernel
theorem dY_compare_77 : decode cY_compare 77 = .ok (.goto (-64), 3) := by decide +kernel
theorem dY_compare_80 : decode cY_compare 80 = .ok (.iload_n 3, 1) := by decide +kernel
theorem dY_compare_81 : decode cY_compare 81 = .ok (.ifCond .eq 16, 3) := by decide +kernel
theorem dY_compare_84 : decode cY_compare 84 = .ok (.iload 4, 2) := by decide +kernel
theorem dY_compare_86 : decode cY_compare 86 = .ok (.ifCond .eq 7, 3) := by decide +kernel
theorem dY_compare_89 : decode cY_compare 89 = .ok (.iconst 3, 1) := by decide +kernel
theorem dY_compare_90 : decode cY_compare 90 = .ok (.goto 17, 3) := by decide +kernel
theorem dY_compare_93 : decode cY_compare 93 = .ok (.iconst 2, 1) := by decide +kernel
theorem dY_compare_94 : decode cY_compare 94 = .ok (.goto 13, 3) := by decide +kernel
theorem dY_compare_97 : decode cY_compare 97 = .ok (.iload 4, 2) := by decide +kernel
theorem dY_compare_99 : decode cY_compare 99 = .ok (.ifCond .eq 7, 3) := by decide +kernel
theorem dY_compare_102 : decode cY_compare 102 = .ok (.iconst 1, 1) := by decide +kernel
theorem dY_compare_103 : decode cY_compare 103 = .ok (.goto 4, 3) := by decide +kernel
theorem dY_compare_106 : decode cY_compare 106 = .ok (.iconst 0, 1) := by decide +kernel
theorem dY_compare_107 : decode cY_compare 107 = .ok (.ireturn, 1) := by decide +kernel
theorem dY_forget_0 : decode cY_forget 0 = .ok (.aload_n 0, 1) := by decide +kernel
theorem dY_forget_1 : decode cY_forget 1 = .ok (.iconst 0, 1) := by decide +kernel
theorem dY_forget_2 : decode cY_forget 2 = .ok (.putfield 35, 3) := by decide +kernel
theorem dY_forget_5 : decode cY_forget 5 = .ok (.iconst 0, 1) := by decide +kernel
theorem dY_forget_6 : decode cY_forget 6 = .ok (.istore_n 2, 1) := by decide +kernel
theorem dY_forget_7 : decode cY_forget 7 = .ok (.aload_n 0, 1) := by decide +kernel
theorem dY_forget_8 : decode cY_forget 8 = .ok (.getfield 49, 3) := by decide +kernel
theorem dY_forget_11 : decode cY_forget 11 = .ok (.iconst 1, 1) := by decide +kernel
theorem dY_forget_12 : decode cY_forget 12 = .ok (.isub, 1) := by decide +kernel
theorem dY_forget_13 : decode cY_forget 13 = .ok (.istore_n 3, 1) := by decide +kernel
theorem dY_forget_14 : decode cY_forget 14 = .ok (.iload_n 3, 1) := by decide +kernel
theorem dY_forget_15 : decode cY_forget 15 = .ok (.ifCond .lt 27, 3) := by decide +kernel
theorem dY_forget_18 : decode cY_forget 18 = .ok (.aload_n 0, 1) := by decide +kernel
theorem dY_forget_19 : decode cY_forget 19 = .ok (.getfield 22, 3) := by decide +kernel
theorem dY_forget_22 : decode cY_forget 22 = .ok (.iload_n 3, 1) := by decide +kernel
theorem dY_forget_23 : decode cY_forget 23 = .ok (.iaload, 1) := by decide +kernel
theorem dY_forget_24 : decode cY_forget 24 = .ok (.iload_n 1, 1) := by decide +kernel
theorem dY_forget_25 : decode cY_forget 25 = .ok (.if_icmp .ne 11, 3) := by decide +kernel
theorem dY_forget_28 : decode cY_forget 28 = .ok (.aload_n 0, 1) := by decide +kernel
theorem dY_forget_29 : decode cY_forget 29 = .ok (.iload_n 3, 1) := by decide +kernel
theorem dY_forget_30 : decode cY_forget 30 = .ok (.invokevirtual 81, 3) := by decide +kernel
theorem dY_forget_33 : decode cY_forget 33 = .ok (.iinc 2 1, 3) := by decide +kernel
theorem dY_forget_36 : decode cY_forget 36 = .ok (.iinc 3 (-1), 3) := by decide +kernel
theorem dY_forget_39 : decode cY_forget 39 = .ok (.goto (-25), 3) := by decide +kernel
theorem dY_forget_42 : decode cY_forget 42 = .ok (.iload_n 2, 1) := by decide +kernel
theorem dY_forget_43 : decode cY_forget 43 = .ok (.ireturn, 1) := by decide +kernel
theorem dY_look_0 : decode cY_look 0 = .ok (.aload_n 0, 1) := by decide +kernel
theorem dY_look_1 : decode cY_look 1 = .ok (.iconst 0, 1) := by decide +kernel
theorem dY_look_2 : decode cY_look 2 = .ok (.putfield 35, 3) := by decide +kernel
theorem dY_look_5 : decode cY_look 5 = .ok (.iload_n 1, 1) := by decide +kernel
theorem dY_look_6 : decode cY_look 6 = .ok (.ifCond .ne 10, 3) := by decide +kernel
theorem dY_look_9 : decode cY_look 9 = .ok (.aload_n 0, 1) := by decide +kernel
theorem dY_look_10 : decode cY_look 10 = .ok (.getfield 52, 3) := by decide +kernel
theorem dY_look_13 : decode cY_look 13 = .ok (.goto 40, 3) := by decide +kernel
theorem dY_look_16 : decode cY_look 16 = .ok (.iload_n 1, 1) := by decide +kernel
theorem dY_look_17 : decode cY_look 17 = .ok (.iconst 1, 1) := by decide +kernel
theorem dY_look_18 : decode cY_look 18 = .ok (.if_icmp .ne 10, 3) := by decide +kernel
theorem dY_look_21 : decode cY_look 21 = .ok (.aload_n 0, 1) := by decide +kernel
theorem dY_look_22 : decode cY_look 22 = .ok (.getfield 49, 3) := by decide +kernel
theorem dY_look_25 : decode cY_look 25 = .ok (.goto 28, 3) := by decide +kernel
theorem dY_look_28 : decode cY_look 28 = .ok (.iload_n 1, 1) := by decide +kernel
theorem dY_look_29 : decode cY_look 29 = .ok (.iconst 2, 1) := by decide +kernel
theorem dY_look_30 : decode cY_look 30 = .ok (.if_icmp .ne 10, 3) := by decide +kernel
theorem dY_look_33 : decode cY_look 33 = .ok (.aload_n 0, 1) := by decide +kernel
theorem dY_look_34 : decode cY_look 34 = .ok (.getfield 59, 3) := by decide +kernel
theorem dY_look_37 : decode cY_look 37 = .ok (.goto 16, 3) := by decide +kernel
theorem dY_look_40 : decode cY_look 40 = .ok (.iload_n 1, 1) := by decide +kernel
theorem dY_look_41 : decode cY_look 41 = .ok (.iconst 3, 1) := by decide +kernel
theorem dY_look_42 : decode cY_look 42 = .ok (.if_icmp .ne 10, 3) := by decide +kernel
theorem dY_look_45 : decode cY_look 45 = .ok (.aload_n 0, 1) := by decide +kernel
theorem dY_look_46 : decode cY_look 46 = .ok (.getfield 62, 3) := by decide +kernel
theorem dY_look_49 : decode cY_look 49 = .ok (.goto 4, 3) := by decide +kernel
theorem dY_look_52 : decode cY_look 52 = .ok (.iconst (-1), 1) := by decide +kernel
theorem dY_look_53 : decode cY_look 53 = .ok (.ireturn, 1) := by decide +kernel
end
section
theorem nx_and (a b : Nat) : nI a &&& nI b = nI (a &&& b) := by
  apply Int32.toBitVec_inj.1
  show BitVec.ofNat 32 a &&& BitVec.ofNat 32 b = BitVec.ofNat 32 (a &&& b)
  apply BitVec.eq_of_getLsbD_eq
  intro i hi
  simp [hi]
theorem nx_xor (a b : Nat) : nI a ^^^ nI b = nI (a ^^^ b) := by
  apply Int32.toBitVec_inj.1
  show BitVec.ofNat 32 a ^^^ BitVec.ofNat 32 b = BitVec.ofNat 32 (a ^^^ b)
  apply BitVec.eq_of_getLsbD_eq
  intro i hi
  simp [hi]
theorem nx_cnt : ∀ j : Fin 32, (UInt32.ofNat j.val &&& Int32.toUInt32 31).toNat % 32 = j.val := by decide +kernel
theorem nx_ush {k j : Nat} (hk : k < 65536) (hj : j < 32) : ((nI k).toUInt32 >>> ((nI j).toUInt32 &&& Int32.toUInt32 31)).toInt32 = nI (k >>> j) := by
  have hs : k >>> j ≤ k := by
    rw [Nat.shiftRight_eq_div_pow]
    exact Nat.div_le_self _ _
  have e2 : UInt32.ofNat k >>> (UInt32.ofNat j &&& Int32.toUInt32 31) = UInt32.ofNat (k >>> j) := by
    apply UInt32.toNat_inj.1
    have h1 : (UInt32.ofNat k).toNat = k := Nat.mod_eq_of_lt (by omega)
    have h2 : (UInt32.ofNat (k >>> j)).toNat = k >>> j := Nat.mod_eq_of_lt (by omega)
    rw [UInt32.toNat_shiftRight, nx_cnt ⟨j, hj⟩, h1, h2]
  show (UInt32.ofNat k >>> (UInt32.ofNat j &&& Int32.toUInt32 31)).toInt32 = _
  rw [e2]
  rfl
theorem nx_bit {k j : Nat} (hk : k < 65536) (hj : j < 16) : (((nI k).toUInt32 >>> ((nI j).toUInt32 &&& Int32.toUInt32 31)).toInt32 &&& 1) = 0 ↔ k.testBit j = false := by
  rw [nx_ush hk (by omega)]
  show nI (k >>> j) &&& nI 1 = 0 ↔ _
  rw [nx_and, Nat.and_one_is_mod, ← nI_0, nI_eq (by omega) (by omega), Nat.testBit_eq_decide_div_mod_eq, Nat.shiftRight_eq_div_pow, decide_eq_false_iff_not]
  generalize k / 2 ^ j = z
  omega
theorem nx_mod (k : Nat) : nI k &&& 65535 = nI (k % 65536) := by
  show nI k &&& nI 65535 = _
  rw [nx_and, show (65535 : Nat) = 2 ^ 16 - 1 from rfl, Nat.and_two_pow_sub_one_eq_mod]
theorem nx_m16 {k : Nat} (h : k < 65536) : nI k &&& 65535 = nI k := by rw [nx_mod, Nat.mod_eq_of_lt h]
theorem nx_mask (x : Int32) : ∃ k, k < 65536 ∧ x &&& 65535 = nI k := by
  have e : x = nI x.toBitVec.toNat := by
    apply Int32.toBitVec_inj.1
    show x.toBitVec = BitVec.ofNat 32 x.toBitVec.toNat
    simp
  refine ⟨x.toBitVec.toNat % 65536, Nat.mod_lt _ (by omega), ?_⟩
  rw [← nx_mod, ← e]
theorem wb_tb (n : Nat) : (lN n).toBitVec = BitVec.ofNat 64 n := rfl
theorem wb_inj {a b : Int64} (h : a.toBitVec = b.toBitVec) : a = b := Int64.toBitVec_inj.mp h
theorem wb_tn {n : Nat} (h : n < 2 ^ 64) : (lN n).toBitVec.toNat = n := by rw [wb_tb, BitVec.toNat_ofNat, Nat.mod_eq_of_lt h]
theorem wb_of (x : Int64) : ∃ n, n < 2 ^ 64 ∧ x = lN n := ⟨x.toBitVec.toNat, x.toBitVec.isLt, wb_inj (by rw [wb_tb]; simp)⟩
theorem wb_of32 (x : Int32) : ∃ n, n < 2 ^ 32 ∧ x = nI n := ⟨x.toBitVec.toNat, x.toBitVec.isLt, Int32.toBitVec_inj.mp (by show _ = BitVec.ofNat 32 _; simp)⟩
theorem wb_c : ∀ k, k < 64 → ((nI k).toInt64 &&& 63) = lN k := by decide +kernel
theorem wb_cu : ∀ k, k < 64 → ((nI k).toInt64.toUInt64 &&& Int64.toUInt64 63) = UInt64.ofNat k := by decide +kernel
theorem wb_sm : ∀ k, k < 64 → (BitVec.ofNat 64 k).smod 64 = BitVec.ofNat 64 k := by decide +kernel
theorem wb_pw {a b : Nat} (h : a ≤ b) : 2 ^ b = 2 ^ a * 2 ^ (b - a) := by rw [← Nat.pow_add]; congr 1; omega
theorem wb_lt2 {a b : Nat} (h : a < b) : 2 ^ a < 2 ^ b := Nat.pow_lt_pow_right (by decide) h
theorem wb_mod (n : Nat) : lN n = lN (n % 2 ^ 64) := wb_inj (by rw [wb_tb, wb_tb]; apply BitVec.eq_of_toNat_eq; rw [BitVec.toNat_ofNat, BitVec.toNat_ofNat, Nat.mod_mod])
theorem wb_shr {n k : Nat} (hn : n < 2 ^ 64) (hk : k < 64) : ((lN n).toUInt64 >>> ((nI k).toInt64.toUInt64 &&& Int64.toUInt64 63)).toInt64 = lN (n / 2 ^ k) := by
  rw [wb_cu k hk]
  apply wb_inj
  apply BitVec.eq_of_toNat_eq
  show ((lN n).toUInt64 >>> UInt64.ofNat k).toNat = (BitVec.ofNat 64 _).toNat
  have h1 : (UInt64.ofNat k).toNat = k := by
    show (BitVec.ofNat 64 k).toNat = k
    rw [BitVec.toNat_ofNat, Nat.mod_eq_of_lt (by omega)]
  have h2 : (lN n).toUInt64.toNat = n := wb_tn hn
  rw [UInt64.toNat_shiftRight, h1, h2, Nat.mod_eq_of_lt hk, Nat.shiftRight_eq_div_pow, BitVec.toNat_ofNat, Nat.mod_eq_of_lt (Nat.lt_of_le_of_lt (Nat.div_le_self _ _) hn)]
theorem wb_shl (n : Nat) {k : Nat} (hk : k < 64) : lN n <<< ((nI k).toInt64 &&& 63) = lN (n * 2 ^ k) := by
  rw [wb_c k hk]
  apply wb_inj
  rw [Int64.toBitVec_shiftLeft, wb_tb, wb_tb, wb_tb, wb_sm k hk]
  apply BitVec.eq_of_toNat_eq
  rw [BitVec.shiftLeft_eq', BitVec.toNat_shiftLeft, BitVec.toNat_ofNat, BitVec.toNat_ofNat, BitVec.toNat_ofNat, Nat.mod_eq_of_lt (show k < 2 ^ 64 by omega), Nat.shiftLeft_eq, Nat.mul_mod, Nat.mod_mod, ← Nat.mul_mod]
theorem wb_and {a b : Nat} (ha : a < 2 ^ 64) (hb : b < 2 ^ 64) : lN a &&& lN b = lN (a &&& b) := by
  apply wb_inj
  rw [Int64.toBitVec_and, wb_tb, wb_tb, wb_tb]
  apply BitVec.eq_of_toNat_eq
  rw [BitVec.toNat_and, BitVec.toNat_ofNat, BitVec.toNat_ofNat, BitVec.toNat_ofNat, Nat.mod_eq_of_lt ha, Nat.mod_eq_of_lt hb, Nat.mod_eq_of_lt (Nat.and_lt_two_pow _ hb)]
theorem wb_or {a b : Nat} (ha : a < 2 ^ 64) (hb : b < 2 ^ 64) : lN a ||| lN b = lN (a ||| b) := by
  apply wb_inj
  rw [Int64.toBitVec_or, wb_tb, wb_tb, wb_tb]
  apply BitVec.eq_of_toNat_eq
  rw [BitVec.toNat_or, BitVec.toNat_ofNat, BitVec.toNat_ofNat, BitVec.toNat_ofNat, Nat.mod_eq_of_lt ha, Nat.mod_eq_of_lt hb, Nat.mod_eq_of_lt (Nat.or_lt_two_pow ha hb)]
theorem wb_mask {n k : Nat} (hn : n < 2 ^ 64) (hk : k < 64) : lN n &&& lN (2 ^ k - 1) = lN (n % 2 ^ k) := by
  rw [wb_and hn (by have := wb_lt2 hk; omega), Nat.and_two_pow_sub_one_eq_mod]
theorem wb_a1 {n : Nat} (hn : n < 2 ^ 64) : lN n &&& 1 = lN (n % 2) := wb_mask (k := 1) hn (by decide)
theorem wb_bit {n k : Nat} (hn : n < 2 ^ 64) (hk : k < 64) : ((lN n).toUInt64 >>> ((nI k).toInt64.toUInt64 &&& Int64.toUInt64 63)).toInt64 &&& 1 = lN (n / 2 ^ k % 2) := by
  rw [wb_shr hn hk, wb_a1 (Nat.lt_of_le_of_lt (Nat.div_le_self _ _) hn)]
theorem wb_xor {q k : Nat} (hk : k < 63) (h : 2 ^ k ≤ q) (h2 : q < 2 ^ (k + 1)) : lN q ^^^ lN (2 ^ k) = lN (q - 2 ^ k) := by
  obtain ⟨r, rfl⟩ : ∃ r, q = 2 ^ k + r := ⟨q - 2 ^ k, by omega⟩
  have hr : r < 2 ^ k := by rw [Nat.pow_succ] at h2; omega
  have hx : (2 ^ k + r) ^^^ 2 ^ k = r := by
    apply Nat.eq_of_testBit_eq
    intro i
    rw [Nat.testBit_xor, Nat.testBit_two_pow]
    rcases Nat.lt_trichotomy i k with h | h | h
    · rw [Nat.testBit_two_pow_add_gt h]
      simp [show ¬ k = i by omega]
    · subst h
      rw [Nat.testBit_two_pow_add_eq]
      simp
    · have a1 : 2 ^ (k + 1) ≤ 2 ^ i := Nat.pow_le_pow_right (by decide) h
      rw [Nat.testBit_lt_two_pow (show 2 ^ k + r < 2 ^ i by omega), Nat.testBit_lt_two_pow (show r < 2 ^ i by omega)]
      simp [show ¬ k = i by omega]
  have b1 := wb_lt2 (show k + 1 < 64 by omega)
  have b2 := wb_lt2 (show k < 64 by omega)
  apply wb_inj
  rw [Int64.toBitVec_xor, wb_tb, wb_tb, wb_tb]
  apply BitVec.eq_of_toNat_eq
  rw [BitVec.toNat_xor, BitVec.toNat_ofNat, BitVec.toNat_ofNat, BitVec.toNat_ofNat, Nat.mod_eq_of_lt (by omega : 2 ^ k + r < 2 ^ 64), Nat.mod_eq_of_lt b2, hx, Nat.add_sub_cancel_left, Nat.mod_eq_of_lt (by omega)]
def uN (x : Int64) : Nat := x.toUInt64.toNat
theorem uN_lt (x : Int64) : uN x < 18446744073709551616 := x.toUInt64.toNat_lt
theorem uN_inj {x y : Int64} (h : uN x = uN y) : x = y := congrArg UInt64.toInt64 (UInt64.toNat_inj.mp h)
theorem uN_add (x y : Int64) : uN (x + y) = (uN x + uN y) % 18446744073709551616 := by
  show (x.toUInt64 + y.toUInt64).toNat = _
  exact UInt64.toNat_add _ _
theorem uN_mul (x y : Int64) : uN (x * y) = (uN x * uN y) % 18446744073709551616 := by
  show (x.toUInt64 * y.toUInt64).toNat = _
  exact UInt64.toNat_mul _ _
theorem uN_shl (x : Int64) : uN (x <<< ((1 : Int32).toInt64 &&& 63)) = (2 * uN x) % 18446744073709551616 := by
  have h : (((1 : Int32).toInt64 &&& 63).toBitVec.smod 64).toNat = 1 := by decide
  show (x.toBitVec <<< (((1 : Int32).toInt64 &&& 63).toBitVec.smod 64).toNat).toNat = _
  rw [h, BitVec.toNat_shiftLeft, Nat.shiftLeft_eq, Nat.mul_comm]
  rfl
theorem uN_shr (x : Int64) (s : UInt64) : uN (x.toUInt64 >>> s).toInt64 = uN x / 2 ^ (s.toNat % 64) := by
  show (x.toUInt64 >>> s).toNat = _
  rw [UInt64.toNat_shiftRight, Nat.shiftRight_eq_div_pow]
  rfl
theorem uN_s32 (x : Int64) : uN (x.toUInt64 >>> ((32 : Int32).toInt64.toUInt64 &&& Int64.toUInt64 63)).toInt64 = uN x / 4294967296 := by
  have h : ((32 : Int32).toInt64.toUInt64 &&& Int64.toUInt64 63).toNat % 64 = 32 := by decide
  rw [uN_shr, h]
theorem uN_s63 (x : Int64) : uN (x.toUInt64 >>> ((63 : Int32).toInt64.toUInt64 &&& Int64.toUInt64 63)).toInt64 = uN x / 9223372036854775808 := by
  have h : ((63 : Int32).toInt64.toUInt64 &&& Int64.toUInt64 63).toNat % 64 = 63 := by decide
  rw [uN_shr, h]
theorem uN_lo (x : Int64) : uN (x &&& 4294967295) = uN x % 4294967296 := by
  show (x.toUInt64 &&& Int64.toUInt64 4294967295).toNat = _
  rw [UInt64.toNat_and]
  exact Nat.and_two_pow_sub_one_eq_mod _ 32
theorem uN_bit (x : Int64) : (x &&& 1) = 0 ↔ uN x % 2 = 0 := by
  have h : uN (x &&& 1) = uN x % 2 := by
    show (x.toUInt64 &&& Int64.toUInt64 1).toNat = _
    rw [UInt64.toNat_and]
    exact Nat.and_two_pow_sub_one_eq_mod _ 1
  rw [← h]
  exact ⟨fun z => by rw [z]; rfl, fun z => uN_inj (z.trans rfl)⟩
theorem uN_or {x y : Int64} (hy : uN y < 2) : uN ((x <<< ((1 : Int32).toInt64 &&& 63)) ||| y) = (2 * uN x) % 18446744073709551616 + uN y := by
  have h1 : uN ((x <<< ((1 : Int32).toInt64 &&& 63)) ||| y) = uN (x <<< ((1 : Int32).toInt64 &&& 63)) ||| uN y := UInt64.toNat_or _ _
  have h2 : (2 * uN x) % 18446744073709551616 = 2 ^ 1 * (uN x % 9223372036854775808) := by omega
  rw [h1, uN_shl, h2]
  exact (Nat.two_pow_add_eq_or_of_lt (i := 1) hy _).symm
theorem nat_xor {a : Nat} (h : a < 18446744073709551616) : a ^^^ 2 ^ 63 = (a + 9223372036854775808) % 18446744073709551616 := by
  have h1 : (a ^^^ 2 ^ 63) % 2 ^ 63 = a % 2 ^ 63 := by rw [Nat.xor_mod_two_pow, Nat.mod_self, Nat.xor_zero]
  have h2 : (a ^^^ 2 ^ 63) / 2 ^ 63 = (a / 2 ^ 63) ^^^ 1 := by rw [Nat.xor_div_two_pow, Nat.div_self (Nat.two_pow_pos 63)]
  have h3 : a / 2 ^ 63 = 0 ∨ a / 2 ^ 63 = 1 := by omega
  generalize a ^^^ 2 ^ 63 = t at h1 h2
  rcases h3 with h3 | h3
  · rw [h3] at h2
    have h2 : t / 2 ^ 63 = 1 := h2
    omega
  · rw [h3] at h2
    have h2 : t / 2 ^ 63 = 0 := h2
    omega
theorem uN_xor (x : Int64) : uN (x ^^^ (-9223372036854775808)) = (uN x + 9223372036854775808) % 18446744073709551616 := by
  rw [← nat_xor (uN_lt x)]
  exact UInt64.toNat_xor _ _
theorem uN_int (x : Int64) : x.toInt = if 2 * uN x < 18446744073709551616 then (uN x : Int) else (uN x : Int) - 18446744073709551616 := BitVec.toInt_eq_toNat_cond _
theorem uN_le (x y : Int64) : (x ^^^ (-9223372036854775808)) ≤ (y ^^^ (-9223372036854775808)) ↔ uN x ≤ uN y := by
  have hx := uN_lt x
  have hy := uN_lt y
  rw [Int64.le_iff_toInt_le, uN_int, uN_int, uN_xor, uN_xor]
  omega
theorem uN_sk (x : Int64) {k : Nat} (hk : k < 64) : uN (x.toUInt64 >>> ((nI k).toInt64.toUInt64 &&& Int64.toUInt64 63)).toInt64 = uN x / 2 ^ k := by
  have h : ((nI k).toInt64.toUInt64 &&& Int64.toUInt64 63).toNat % 64 = k := by
    rw [nI_l (by omega), UInt64.toNat_and]
    have e : (lN k).toUInt64.toNat = k % 2 ^ 64 := rfl
    have e2 : (Int64.toUInt64 63).toNat = 2 ^ 6 - 1 := by decide
    rw [e, e2, Nat.and_two_pow_sub_one_eq_mod]
    omega
  rw [uN_shr, h]
end
section
section KB
variable {p : Program} {l : Launch} {e : Env} {R : Room} {s : State} {m : MethodId} {args : Array Value} {below : List Frame} {meth : Method} {c : Code} {H : Heap} {locs : List Loc} {cells slots : Nat} {Q : State → Prop}
variable {pc : Nat} {ls : Array Slot} {rest st0 : List Value}
theorem tp_i {x y : Int32} (h : x = y) (k : W p l e R s m args below meth c H locs cells slots Q (F0 m pc ls (.int y :: rest))) : W p l e R s m args below meth c H locs cells slots Q (F0 m pc ls (.int x :: rest)) := by
  rw [h]; exact k
theorem tp_l {x y : Int64} (h : x = y) (k : W p l e R s m args below meth c H locs cells slots Q (F0 m pc ls (.long y :: rest))) : W p l e R s m args below meth c H locs cells slots Q (F0 m pc ls (.long x :: rest)) := by
  rw [h]; exact k
def Pr (As : List Value) (D : va_G) (cl : List vw_C) (tys : List (ClassId × FieldType)) (ws : va_W) : Array Value → State → Prop := va_Pc As (fun U => va_P D cl ws U.heap ∧ va_K D cl tys U)
theorem Pr_blind {As : List Value} {D : va_G} {cl : List vw_C} {tys : List (ClassId × FieldType)} {ws : va_W} : FrameBlind (Pr As D cl tys ws) := fun a U g mk q => by
  obtain ⟨q0, qP, qK⟩ := q
  exact ⟨q0, qP, va_K.moved (u := U) (U := U.calling g mk a) (Vm.Alike.refl U.vm) qK⟩
theorem pr_S {As : List Value} {D : va_G} {cl : List vw_C} {tys : List (ClassId × FieldType)} {ws : va_W} (hK : va_K D cl tys s) (hP : va_P D cl ws H) : PreS s H (Pr As D cl tys ws) As :=
  ⟨Pr_blind, fun U hU hW => ⟨rfl, by rw [hU]; exact hP, va_K.moved hW.alike hK⟩⟩
theorem pr_V {As : List Value} {D : va_G} {cl : List vw_C} {tys : List (ClassId × FieldType)} {ws : va_W} {b q0 ci : Nat} {q : vw_C} {fs : List Value} (hK : va_K D cl tys s) (hP : va_P D cl ws H) (hc : cl[ci]? = some q) (he : ws[q0]? = some (b, .inr (ci, fs))) : PreV s H q.1 b (Pr (.ref b :: As) D cl tys ws) As :=
  ⟨Pr_blind, va_recv hK hP hc he, fun U hU hW => ⟨rfl, by rw [hU]; exact hP, va_K.moved hW.alike hK⟩⟩
def QcReadL (r : Int64) : Array Value → State → Outcome → State → Prop := fun _ st o t => o = .returned (some (.long r)) ∧ t.heap = st.heap
theorem rd_i {r : Int32} {a : Array Value} (hr : CallRun p l e R s m args below meth c H locs cells slots 0 0 (F0 m pc ls st0) rest (QcRead r a) (fun _ => False))
    (kk : W p l e R s m args below meth c H locs cells slots Q (F0 m (pc + 3) ls (.int r :: rest))) : W p l e R s m args below meth c H locs cells slots Q (F0 m pc ls st0) := W.callR hr kk
theorem rd_l {r : Int64} {a : Array Value} (hr : CallRun p l e R s m args below meth c H locs cells slots 0 0 (F0 m pc ls st0) rest (QcReadL r a) (fun _ => False))
    (kk : W p l e R s m args below meth c H locs cells slots Q (F0 m (pc + 3) ls (.long r :: rest))) : W p l e R s m args below meth c H locs cells slots Q (F0 m pc ls st0) := by
  intro T hT X
  obtain ⟨v, st₀, t, T', L, h0, X', hL, e1, ⟨hv, hh⟩, st⟩ := hr T hT X
  cases hv
  obtain ⟨t2, a1, b1⟩ := kk T' (by rw [e1, hh, h0]) (Stand.forget X' (fun q h => (hL q h).elim))
  exact ⟨t2, st t2 a1, b1⟩
theorem ri_ret {cc : ByteArray} {v r : Int32} (hx : p.tables.exec = Jvm.exec) (hb : c.code = cc) (hr : meth.sig.returnType = some .int) (hlocks : meth.locks = false) (hv : v = r) (hd : decode cc pc = .ok (.ireturn, 1)) :
    W p l e R s m args below meth c s.heap [] 0 0 (MQ below (QcRead r) args s 0 0 (fun _ => False)) (F0 m pc ls [.int v]) := by
  subst hv
  exact W.iret hx hb hr (fun t ht _ => ⟨rfl, ht⟩) (fun q h => by cases h) hd
theorem rz_ret {cc : ByteArray} {v r : Int32} (hx : p.tables.exec = Jvm.exec) (hb : c.code = cc) (hr : meth.sig.returnType = some .boolean) (hlocks : meth.locks = false) (hn : narrow .boolean (.int v) = .int v) (hv : v = r) (hd : decode cc pc = .ok (.ireturn, 1)) :
    W p l e R s m args below meth c s.heap [] 0 0 (MQ below (QcRead r) args s 0 0 (fun _ => False)) (F0 m pc ls [.int v]) := by
  subst hv
  exact W.zret hx hb hr hn (fun t ht _ => ⟨rfl, ht⟩) (fun q h => by cases h) hd
theorem rl_ret {cc : ByteArray} {v r : Int64} (hx : p.tables.exec = Jvm.exec) (hb : c.code = cc) (hr : meth.sig.returnType = some .long) (hlocks : meth.locks = false) (hv : v = r) (hd : decode cc pc = .ok (.lreturn, 1)) :
    W p l e R s m args below meth c s.heap [] 0 0 (MQ below (QcReadL r) args s 0 0 (fun _ => False)) (F0 m pc ls [.long v]) := by
  subst hv
  exact W.lret hx hb hr (fun t ht _ => ⟨rfl, ht⟩) (fun q h => by cases h) hd
def Pm (As : List Value) (D : va_G) (cl : List vw_C) (tys : List (ClassId × FieldType)) (ws : va_W) (sz : Nat) : Array Value → State → Prop := va_Pc As (fun U => U.heap.size = sz ∧ va_P D cl ws U.heap ∧ va_K D cl tys U ∧ va_D (fun _ => True) ws)
theorem Pm_blind {As : List Value} {D : va_G} {cl : List vw_C} {tys : List (ClassId × FieldType)} {ws : va_W} {sz : Nat} : FrameBlind (Pm As D cl tys ws sz) := fun a U g mk q => by
  obtain ⟨q0, q1, qP, qK, qD⟩ := q
  exact ⟨q0, q1, qP, va_K.moved (u := U) (U := U.calling g mk a) (Vm.Alike.refl U.vm) qK, qD⟩
theorem pm_S {As : List Value} {D : va_G} {cl : List vw_C} {tys : List (ClassId × FieldType)} {ws : va_W} {A : Nat → Prop} (hK : va_K D cl tys s) (hP : va_P D cl ws H) (hD : va_D A ws) : PreS s H (Pm As D cl tys ws H.size) As :=
  ⟨Pm_blind, fun U hU hW => ⟨rfl, by rw [hU], by rw [hU]; exact hP, va_K.moved hW.alike hK, hD.weaken (fun _ _ _ _ => trivial)⟩⟩
theorem pm_V {As : List Value} {D : va_G} {cl : List vw_C} {tys : List (ClassId × FieldType)} {ws : va_W} {A : Nat → Prop} {b q0 ci : Nat} {q : vw_C} {fs : List Value} (hK : va_K D cl tys s) (hP : va_P D cl ws H) (hD : va_D A ws) (hc : cl[ci]? = some q) (he : ws[q0]? = some (b, .inr (ci, fs))) : PreV s H q.1 b (Pm (.ref b :: As) D cl tys ws H.size) As :=
  ⟨Pm_blind, va_recv hK hP hc he, fun U hU hW => ⟨rfl, by rw [hU], by rw [hU]; exact hP, va_K.moved hW.alike hK, hD.weaken (fun _ _ _ _ => trivial)⟩⟩
def Qw (D : va_G) (cl : List vw_C) (ws w1 : va_W) (sz : Nat) : Unit → State → Prop := fun _ t => va_P D cl w1 t.heap ∧ va_D (va_A ws sz) w1
def QmI (r : Int32) (D : va_G) (cl : List vw_C) (ws w1 : va_W) (sz : Nat) : Array Value → State → Outcome → State → Prop := va_Qi (fun r' (_ : Unit) => r' = r) (Qw D cl ws w1 sz) (va_A ws sz)
def QmV (D : va_G) (cl : List vw_C) (ws w1 : va_W) (sz : Nat) : Array Value → State → Outcome → State → Prop := va_Qv (fun (_ : Unit) => True) (Qw D cl ws w1 sz) (va_A ws sz)
theorem mt_v {D : va_G} {cl : List vw_C} {ws wc wr w1 : va_W} {A : Nat → Prop} {H0 : Heap} {a : Array Value} {mc ms : Nat} (isC isR : List Nat) (hP : va_P D cl ws H) (hD : va_D A ws) (hS : va_S A H0 H locs) (hA : ∀ q, H0.size ≤ q → A q) (hC : isC.map (fun i => ws[i]?) = wc.map some) (hR : isR.map (fun i => ws[i]?) = wr.map some) (hn : va_nd isR = true) (hdis : ∀ i ∈ isR, i ∉ isC)
    (hr : va_Run p l e R s m args below meth c H locs cells slots mc ms (F0 m pc ls st0) rest (QmV D cl wc w1 H.size a) (va_A wc H.size))
    (kk : ∀ (H1 : Heap) (locs1 : List Loc), va_P D cl (wr ++ w1) H1 → va_D A (wr ++ w1) → va_S A H0 H1 locs1 → W p l e R s m args below meth c H1 locs1 (cells + mc) (slots + ms) Q (F0 m (pc + 3) ls rest)) : W p l e R s m args below meth c H locs cells slots Q (F0 m pc ls st0) := by
  have hF := va_free hD hS hA isC hC
  refine va_callv hr hS (fun q _ h => hF q h) hF (fun u t H1 locs1 ht hvm hw hB hz1 hk1 hS1 => ?_)
  obtain ⟨hP1, hD1⟩ := hB
  rw [ht] at hP1
  obtain ⟨hP2, hD2⟩ := va_join hP hD isC isR hC hR hn hdis hk1 hF hP1 hD1
  exact kk H1 locs1 hP2 hD2 hS1
theorem mt_i {D : va_G} {cl : List vw_C} {ws wc wr w1 : va_W} {A : Nat → Prop} {H0 : Heap} {a : Array Value} {mc ms : Nat} {r : Int32} (isC isR : List Nat) (hP : va_P D cl ws H) (hD : va_D A ws) (hS : va_S A H0 H locs) (hA : ∀ q, H0.size ≤ q → A q) (hC : isC.map (fun i => ws[i]?) = wc.map some) (hR : isR.map (fun i => ws[i]?) = wr.map some) (hn : va_nd isR = true) (hdis : ∀ i ∈ isR, i ∉ isC)
    (hr : va_Run p l e R s m args below meth c H locs cells slots mc ms (F0 m pc ls st0) rest (QmI r D cl wc w1 H.size a) (va_A wc H.size))
    (kk : ∀ (H1 : Heap) (locs1 : List Loc), va_P D cl (wr ++ w1) H1 → va_D A (wr ++ w1) → va_S A H0 H1 locs1 → W p l e R s m args below meth c H1 locs1 (cells + mc) (slots + ms) Q (F0 m (pc + 3) ls (.int r :: rest))) : W p l e R s m args below meth c H locs cells slots Q (F0 m pc ls st0) := by
  have hF := va_free hD hS hA isC hC
  refine va_calli hr hS (fun q _ h => hF q h) hF (fun r' u t H1 locs1 ht hvm hw hB hz1 hk1 hS1 => ?_)
  obtain ⟨hP1, hD1⟩ := hB
  rw [ht] at hP1
  obtain ⟨hP2, hD2⟩ := va_join hP hD isC isR hC hR hn hdis hk1 hF hP1 hD1
  rw [hw]
  exact kk H1 locs1 hP2 hD2 hS1
theorem mv_ret {cc : ByteArray} {D : va_G} {cl : List vw_C} {ws w1 : va_W} {A : Nat → Prop} (hx : p.tables.exec = Jvm.exec) (hb : c.code = cc) (hr : meth.sig.returnType = none) (hlocks : meth.locks = false) (hAe : A = va_A ws s.heap.size) (hP : va_P D cl w1 H) (hD : va_D A w1) (hS : va_S A s.heap H locs) (hd : decode cc pc = .ok (.return_, 1)) :
    W p l e R s m args below meth c H locs cells slots (MQ below (QmV D cl ws w1 s.heap.size) args s cells slots A) (F0 m pc ls []) := by
  subst hAe
  exact W.vret hx hb hr (fun t ht _ => ⟨⟨(), rfl, trivial, by rw [ht]; exact hP, hD⟩, hS.F ht⟩) hS.2.2 hd
theorem mi_ret {cc : ByteArray} {D : va_G} {cl : List vw_C} {ws w1 : va_W} {A : Nat → Prop} {v r : Int32} (hx : p.tables.exec = Jvm.exec) (hb : c.code = cc) (hr : meth.sig.returnType = some .int) (hlocks : meth.locks = false) (hv : v = r) (hAe : A = va_A ws s.heap.size) (hP : va_P D cl w1 H) (hD : va_D A w1) (hS : va_S A s.heap H locs) (hd : decode cc pc = .ok (.ireturn, 1)) :
    W p l e R s m args below meth c H locs cells slots (MQ below (QmI r D cl ws w1 s.heap.size) args s cells slots A) (F0 m pc ls [.int v]) := by
  subst hAe
  exact W.iret hx hb hr (fun t ht _ => ⟨⟨v, (), rfl, hv, by rw [ht]; exact hP, hD⟩, hS.F ht⟩) hS.2.2 hd
end KB
end
section
theorem nI_and255 (k : Nat) : nI k &&& 255 = nI (k % 256) := by
  have h : (255 : Int32) = nI 255 := by decide +kernel
  rw [h, nx_and]
  congr 1
  exact Nat.and_two_pow_sub_one_eq_mod k 8
theorem lN_uN (y : Int64) : lN (uN y) = y := by
  apply Int64.toBitVec_inj.1
  show BitVec.ofNat 64 y.toBitVec.toNat = y.toBitVec
  simp
theorem uN_lN {n : Nat} (h : n < 18446744073709551616) : uN (lN n) = n := by
  show (BitVec.ofNat 64 n).toNat = n
  rw [BitVec.toNat_ofNat]
  exact Nat.mod_eq_of_lt h
def by_ (c : Int64) (a : Nat) : Nat := uN c / 2 ^ (8 * a) % 256
theorem by_lt (c : Int64) (a : Nat) : by_ c a < 256 := Nat.mod_lt _ (by decide)
theorem by_eq (c : Int64) {a : Nat} (ha : a < 8) : ((c.toUInt64 >>> ((nI (8 * a)).toInt64.toUInt64 &&& Int64.toUInt64 63)).toInt64).toInt32 &&& 255 = nI (by_ c a) := by
  have h1 := uN_sk c (k := 8 * a) (by omega)
  rw [← lN_uN ((c.toUInt64 >>> ((nI (8 * a)).toInt64.toUInt64 &&& Int64.toUInt64 63)).toInt64), h1, lN_i, nI_and255]
  rfl
theorem by_up (g : Int64) {a b : Nat} (ha : a < 8) (hb : b < 8) (h : by_ g a < 255) : by_ (g + lN (2 ^ (8 * a))) b = if b = a then by_ g a + 1 else by_ g b := by
  have hx := uN_lt g
  have h2 : uN (g + lN (2 ^ (8 * a))) = (uN g + 2 ^ (8 * a)) % 18446744073709551616 := by
    rw [uN_add, uN_lN]
    exact Nat.lt_of_lt_of_le (Nat.pow_lt_pow_right (by decide) (by omega : 8 * a < 64)) (by decide)
  unfold by_ at h ⊢
  rw [h2]
  generalize uN g = x at hx h ⊢
  rcases (show a = 0 ∨ a = 1 ∨ a = 2 ∨ a = 3 ∨ a = 4 ∨ a = 5 ∨ a = 6 ∨ a = 7 by omega) with rfl | rfl | rfl | rfl | rfl | rfl | rfl | rfl <;>
  rcases (show b = 0 ∨ b = 1 ∨ b = 2 ∨ b = 3 ∨ b = 4 ∨ b = 5 ∨ b = 6 ∨ b = 7 by omega) with rfl | rfl | rfl | rfl | rfl | rfl | rfl | rfl <;>
  simp only [Nat.reduceMul, Nat.reducePow, Nat.reduceEqDiff, if_true, if_false, Nat.mul_zero, Nat.pow_zero, Nat.div_one] at h ⊢ <;> omega
abbrev WF : Type := Nat → Nat × Int64 × Int32
abbrev TF : Type := Nat → Nat × Int32
def oI : Option Nat → Int32
  | none => -1
  | some a => nI a
theorem oI_some (a : Nat) : oI (some a) = nI a := rfl
theorem oI_none : oI none = -1 := rfl
theorem nI_m1 {a : Nat} (h : a < 2 ^ 31) : ¬ nI a = -1 := by
  intro q
  have h1 := congrArg Int32.toInt q
  rw [nI_toInt h, show (-1 : Int32).toInt = -1 by decide] at h1
  omega
theorem oI_m1 {o : Option Nat} (h : ∀ a, o = some a → a < 2 ^ 31) : oI o = -1 ↔ o = none := by
  cases o with
  | none => exact ⟨fun _ => rfl, fun _ => rfl⟩
  | some a => exact ⟨fun q => absurd q (nI_m1 (h a rfl)), fun q => by cases q⟩
def lkS (g c : Int64) (own : Nat) : Nat → Nat → Option Nat
  | 0, _ => none
  | n + 1, a => if a ≠ own ∧ by_ g a < by_ c a then some a else lkS g c own n (a + 1)
def lk (g : Int64) (k : Nat) (c : Int64) : Option Nat := if k % 256 = by_ g (k / 256) + 1 then lkS g c (k / 256) 8 0 else some (k / 256)
theorem lkS_lt {g c : Int64} {own : Nat} : ∀ {n a b : Nat}, lkS g c own n a = some b → b < a + n := by
  intro n
  induction n with
  | zero => intro a b h; simp [lkS] at h
  | succ n ih =>
    intro a b h
    simp only [lkS] at h
    split at h
    · cases h; omega
    · have := ih h; omega
theorem lk_lt {g : Int64} {k : Nat} {c : Int64} {b : Nat} (hk : k < 2048) (h : lk g k c = some b) : b < 8 := by
  unfold lk at h
  split at h
  · have := lkS_lt h; omega
  · cases h; omega
def knS (w : WF) (k : Nat) : Nat → Nat → Bool
  | 0, _ => false
  | n + 1, j => if (w j).1 = k then true else knS w k n (j + 1)
def kn (g : Int64) (w : WF) (wn : Nat) (k : Nat) : Bool := if k % 256 < by_ g (k / 256) + 1 then true else knS w k wn 0
def bI (b : Bool) : Int32 := if b then 1 else 0
theorem bI_0 {b : Bool} : bI b = 0 ↔ b = false := by cases b <;> decide
theorem bI_n (b : Bool) : narrow .boolean (.int (bI b)) = .int (bI b) := by cases b <;> rfl
def cn (tn : Nat) (g : Int64) (k : Nat) (c : Int64) : Bool := decide (tn < 512) && (lk g k c).isNone
def fs (tn : Nat) (g : Int64) (w : WF) : Nat → Nat → Option Nat
  | 0, _ => none
  | n + 1, j => if cn tn g (w j).1 (w j).2.1 = true then some j else fs tn g w n (j + 1)
theorem fs_lt {tn : Nat} {g : Int64} {w : WF} : ∀ {n a b : Nat}, fs tn g w n a = some b → b < a + n := by
  intro n
  induction n with
  | zero => intro a b h; simp [fs] at h
  | succ n ih =>
    intro a b h
    simp only [fs] at h
    split at h
    · cases h; omega
    · have := ih h; omega
def ahS (g c : Int64) : Nat → Nat → Nat → Nat
  | 0, _, x => x
  | n + 1, a, x => ahS g c n (a + 1) (x + (by_ g a - by_ c a))
def nxS (t : TF) (c : Int64) : Nat → Nat → Option Nat
  | 0, _ => none
  | n + 1, j => if by_ c ((t j).1 / 256) < (t j).1 % 256 then some j else nxS t c n (j + 1)
def cmS (g c : Int64) : Nat → Nat → Bool → Bool → Bool × Bool
  | 0, _, x, y => (x, y)
  | n + 1, a, x, y => cmS g c n (a + 1) (x || decide (by_ c a < by_ g a)) (y || decide (by_ g a < by_ c a))
def rmS : Nat → Nat → WF → WF
  | 0, _, w => w
  | n + 1, j, w => rmS n (j + 1) (va_up w (j - 1) (w j))
def inS (k : Nat) : Nat → WF → WF × Nat
  | 0, w => (w, 0)
  | j + 1, w => if k < (w j).1 then inS k j (va_up w (j + 1) (w j)) else (w, j + 1)
def fgS (act : Int32) : Nat → Nat → Nat → WF → WF × Nat
  | 0, _, kept, w => (w, kept)
  | n + 1, j, kept, w => if nI ((w j).1 / 256) = act then fgS act n (j + 1) kept w else fgS act n (j + 1) (kept + 1) (va_up w kept (w j))
def isA (x : Int32) : Bool := !decide (x < 0) && !decide ((8 : Int32) ≤ x)
def isS (x : Int32) : Bool := !decide (x < 1) && !decide ((255 : Int32) < x)
theorem isA_nI {x : Int32} (h : isA x = true) : ∃ a : Nat, a < 8 ∧ x = nI a := by
  simp only [isA, Bool.and_eq_true, Bool.not_eq_true', decide_eq_false_iff_not] at h
  obtain ⟨j, hj, e⟩ := nI_of h.1
  refine ⟨j, ?_, e⟩
  rcases Nat.lt_or_ge j 8 with q | q
  · exact q
  · exact absurd (by rw [e]; exact nI_le q hj) h.2
theorem isS_nI {x : Int32} (h : isS x = true) : ∃ a : Nat, 1 ≤ a ∧ a < 256 ∧ x = nI a := by
  simp only [isS, Bool.and_eq_true, Bool.not_eq_true', decide_eq_false_iff_not] at h
  have h0 : ¬ x < 0 := by
    intro q
    apply h.1
    rw [Int32.lt_iff_toInt_lt] at q ⊢
    have : (0 : Int32).toInt = 0 := by decide
    have : (1 : Int32).toInt = 1 := by decide
    omega
  obtain ⟨j, hj, e⟩ := nI_of h0
  refine ⟨j, ?_, ?_, e⟩
  · rcases Nat.lt_or_ge j 1 with q | q
    · exact absurd (by rw [e]; exact nI_lt q (by decide)) h.1
    · exact q
  · rcases Nat.lt_or_ge j 256 with q | q
    · exact q
    · exact absurd (by rw [e]; exact nI_lt (show 255 < j by omega) hj) h.2
theorem nI_or (a b : Nat) : nI a ||| nI b = nI (a ||| b) := by
  apply Int32.toBitVec_inj.1
  show BitVec.ofNat 32 a ||| BitVec.ofNat 32 b = BitVec.ofNat 32 (a ||| b)
  apply BitVec.eq_of_getLsbD_eq
  intro i hi
  simp [hi]
theorem nI_key {a q : Nat} (h : q < 256) : nI (a * 256) ||| nI q = nI (a * 256 + q) := by
  rw [nI_or]
  congr 1
  rw [show a * 256 = a <<< 8 by rw [Nat.shiftLeft_eq]]
  exact (Nat.shiftLeft_add_eq_or_of_lt (i := 8) h a).symm
def knw (g : Int64) (w : WF) (wn : Nat) (x y : Int32) : Bool := isA x && (isS y && kn g w wn (x.toNatClampNeg * 256 + y.toNatClampNeg))
def lok (tn wn ko mw : Nat) (x : Int32) : Int32 := if x = 0 then nI tn else if x = 1 then nI wn else if x = 2 then nI ko else if x = 3 then nI mw else -1
def cmR (q : Bool × Bool) : Int32 := if q.1 then (if q.2 then 3 else 1) else (if q.2 then 2 else 0)
theorem mx_sub {a b : Nat} (ha : a < 2 ^ 30) (hb : b < 2 ^ 30) : (if (0 : Int32) < nI a - nI b then nI a - nI b else 0) = nI (a - b) := by
  have h := pk_sub_toInt ha hb
  by_cases q : b ≤ a
  · rw [pk_sub q]
    by_cases q2 : a - b = 0
    · rw [q2]; decide
    · rw [if_pos]
      rw [Int32.lt_iff_toInt_lt, nI_toInt (by omega)]
      have : (0 : Int32).toInt = 0 := by decide
      omega
  · rw [if_neg]
    · rw [show a - b = 0 by omega]; rfl
    · rw [Int32.lt_iff_toInt_lt, h]
      have : (0 : Int32).toInt = 0 := by decide
      omega
def stn (x : Int32) : Nat := (x.toInt + 1).toNat
def nxt (t : TF) (tn : Nat) (c : Int64) (x : Int32) : Option Nat := if x < nI tn then nxS t c (tn - stn x) (stn x) else none
theorem stn_le {x : Int32} {tn : Nat} (h : x < nI tn) (ht : tn < 2 ^ 31) : stn x ≤ tn := by
  rw [Int32.lt_iff_toInt_lt, nI_toInt ht] at h
  unfold stn
  omega
theorem stn_eq {x : Int32} {tn : Nat} (h : x < nI tn) (ht : tn < 2 ^ 31) : (if x < -1 then -1 else x) + 1 = nI (stn x) := by
  have hm : (-1 : Int32).toInt = -1 := by decide
  rw [Int32.lt_iff_toInt_lt, nI_toInt ht] at h
  by_cases q : x < -1
  · rw [if_pos q]
    rw [Int32.lt_iff_toInt_lt, hm] at q
    rw [show stn x = 0 by unfold stn; omega]
    decide
  · rw [if_neg q]
    rw [Int32.lt_iff_toInt_lt, hm] at q
    by_cases q2 : x = -1
    · subst q2; decide
    · have q3 : ¬ x < 0 := by
        rw [Int32.lt_iff_toInt_lt]
        have : (0 : Int32).toInt = 0 := by decide
        have : ¬ x.toInt = -1 := fun z => q2 (Int32.toInt_inj.mp (z.trans hm.symm))
        omega
      obtain ⟨j, hj, rfl⟩ := nI_of q3
      rw [nI_1]
      congr 1
      unfold stn
      rw [nI_toInt hj]
      omega
theorem up_k (w : WF) (q : Nat) (x : Nat × Int64 × Int32) : upd (fun j => nI (w j).1) q (nI x.1) = fun j => nI (va_up w q x j).1 := by
  funext j; unfold upd va_up; split <;> rfl
theorem up_c (w : WF) (q : Nat) (x : Nat × Int64 × Int32) : vp_updL (fun j => (w j).2.1) q x.2.1 = fun j => (va_up w q x j).2.1 := by
  funext j; unfold vp_updL va_up; split <;> rfl
theorem up_l (w : WF) (q : Nat) (x : Nat × Int64 × Int32) : upd (fun j => (w j).2.2) q x.2.2 = fun j => (va_up w q x j).2.2 := by
  funext j; unfold upd va_up; split <;> rfl
theorem ut_k (t : TF) (q : Nat) (x : Nat × Int32) : upd (fun j => nI (t j).1) q (nI x.1) = fun j => nI (va_up t q x j).1 := by
  funext j; unfold upd va_up; split <;> rfl
theorem ut_l (t : TF) (q : Nat) (x : Nat × Int32) : upd (fun j => (t j).2) q x.2 = fun j => (va_up t q x j).2 := by
  funext j; unfold upd va_up; split <;> rfl
theorem one_shl {k : Nat} (hk : k < 64) : (1 : Int64) <<< ((nI k).toInt64 &&& 63) = lN (2 ^ k) := by
  have h := wb_shl 1 hk
  rw [Nat.one_mul] at h
  exact h
theorem mx_nI {a b : Nat} (ha : a < 2 ^ 31) (hb : b < 2 ^ 31) : (if nI a < nI b then nI b else nI a) = nI (max a b) := by
  by_cases q : a < b
  · rw [if_pos (nI_lt q hb), Nat.max_eq_right (by omega)]
  · rw [if_neg (nI_nlt (by omega) ha), Nat.max_eq_left (by omega)]
theorem rmS_eq : ∀ (n j : Nat) (w : WF) (i : Nat), 1 ≤ j → rmS n j w i = if j ≤ i + 1 ∧ i + 1 < j + n then w (i + 1) else w i := by
  intro n
  induction n with
  | zero => intro j w i _; rw [if_neg (by omega)]; rfl
  | succ n ih =>
    intro j w i hj
    simp only [rmS]
    rw [ih (j + 1) _ i (by omega)]
    by_cases q : j + 1 ≤ i + 1 ∧ i + 1 < j + 1 + n
    · rw [if_pos q, if_pos (by omega), va_up_ne _ _ (by omega)]
    · rw [if_neg q]
      by_cases q2 : i + 1 = j
      · rw [if_pos (by omega), show j - 1 = i by omega, va_up_self, q2]
      · rw [if_neg (by omega), va_up_ne _ _ (by omega)]
def ltG (g : Int64) (k : Nat) : Int64 := g + lN (2 ^ (8 * (k / 256)))
abbrev CS : Type := TF × Nat × WF × Nat × Int64
def lt1 (t : TF) (tn : Nat) (w : WF) (wn : Nat) (g : Int64) (q : Nat) : CS := (va_up t tn ((w q).1, (w q).2.2), tn + 1, rmS (wn - (q + 1)) (q + 1) w, wn - 1, ltG g (w q).1)
def ltS : Nat → CS → Nat → CS × Nat
  | 0, u, x => (u, x)
  | n + 1, u, x => match fs u.2.1 u.2.2.2.2 u.2.2.1 u.2.2.2.1 0 with
    | none => (u, x)
    | some q => ltS n (lt1 u.1 u.2.1 u.2.2.1 u.2.2.2.1 u.2.2.2.2 q) (x + 1)
theorem fs_tn {tn : Nat} {g : Int64} {w : WF} : ∀ {n a b : Nat}, fs tn g w n a = some b → tn < 512 := by
  intro n
  induction n with
  | zero => intro a b h; simp [fs] at h
  | succ n ih =>
    intro a b h
    simp only [fs] at h
    split at h
    · rename_i q
      simp only [cn, Bool.and_eq_true, decide_eq_true_eq] at q
      exact q.1
    · exact ih h
theorem rmS_keys {w : WF} {wn q : Nat} (hw : ∀ j, j < wn → (w j).1 < 2048) (hq : q < wn) : ∀ j, j < wn - 1 → (rmS (wn - (q + 1)) (q + 1) w j).1 < 2048 := by
  intro j hj
  rw [rmS_eq _ _ _ _ (by omega)]
  split
  · exact hw _ (by omega)
  · exact hw _ (by omega)
theorem up_keys {w : WF} {wn a b : Nat} (hw : ∀ j, j < wn → (w j).1 < 2048) (hb : b < wn) : ∀ j, j < wn → (va_up w a (w b) j).1 < 2048 := by
  intro j hj
  by_cases q : j = a
  · subst q; rw [va_up_self]; exact hw _ hb
  · rw [va_up_ne _ _ q]; exact hw _ hj
theorem pt_eq (c : Int64) {a : Nat} (ha : a < 8) : ((c >>> ((nI (8 * a)).toInt64 &&& 63)) &&& 255).toInt32 = nI (by_ c a) := by
  have hD : ∀ a, a < 8 → (((nI (8 * a)).toInt64 &&& 63).toBitVec.smod 64).toNat = 8 * a := by decide +kernel
  have h255 : ∀ i, i < 64 → ((255 : Int64).toBitVec).getLsbD i = decide (i < 8) := by decide +kernel
  have h1 : (c >>> ((nI (8 * a)).toInt64 &&& 63)) &&& 255 = lN (by_ c a) := by
    apply Int64.toBitVec_inj.1
    rw [Int64.toBitVec_and, Int64.toBitVec_shiftRight]
    show (c.toBitVec.sshiftRight (((nI (8 * a)).toInt64 &&& 63).toBitVec.smod 64).toNat) &&& (255 : Int64).toBitVec = BitVec.ofNat 64 (uN c / 2 ^ (8 * a) % 256)
    rw [hD a ha]
    apply BitVec.eq_of_getLsbD_eq
    intro i hi
    rw [BitVec.getLsbD_and, h255 i hi, BitVec.getLsbD_sshiftRight, BitVec.getLsbD_ofNat]
    by_cases q : i < 8
    · have e1 : (uN c / 2 ^ (8 * a) % 256).testBit i = c.toBitVec.getLsbD (8 * a + i) := by
        rw [show (256 : Nat) = 2 ^ 8 by rfl, Nat.testBit_mod_two_pow, Nat.testBit_div_two_pow]
        simp only [q, decide_true, Bool.true_and]
        rw [Nat.add_comm]
        rfl
      rw [e1]
      simp [q, hi, show 8 * a + i < 64 by omega]
    · have e1 : (uN c / 2 ^ (8 * a) % 256).testBit i = false := by
        rw [show (256 : Nat) = 2 ^ 8 by rfl, Nat.testBit_mod_two_pow]
        simp [q]
      rw [e1]
      simp [q]
  rw [h1, lN_i]
end
section
def Srt (w : WF) (n : Nat) : Prop := ∀ i j, i < j → j < n → (w i).1 < (w j).1
theorem inS_spec (k : Nat) : ∀ (n : Nat) (w : WF), Srt w n → (inS k n w).2 ≤ n ∧ (∀ j, j < (inS k n w).2 → (w j).1 ≤ k) ∧ (∀ j, (inS k n w).2 ≤ j → j < n → k < (w j).1) ∧ ∀ i, (inS k n w).1 i = if (inS k n w).2 < i ∧ i ≤ n then w (i - 1) else w i := by
  intro n
  induction n with
  | zero => intro w _; refine ⟨Nat.le_refl _, fun j h => absurd h (Nat.not_lt_zero j), fun j _ h => absurd h (Nat.not_lt_zero j), fun i => ?_⟩; rw [if_neg (by omega)]; rfl
  | succ n ih =>
    intro w hs
    by_cases q : k < (w n).1
    · have hs2 : Srt (va_up w (n + 1) (w n)) n := fun i j hij hj => by
        rw [va_up_ne _ _ (by omega), va_up_ne _ _ (by omega)]
        exact hs i j hij (by omega)
      obtain ⟨h1, h2, h3, h4⟩ := ih _ hs2
      have e : inS k (n + 1) w = inS k n (va_up w (n + 1) (w n)) := by simp only [inS]; rw [if_pos q]
      rw [e]
      refine ⟨by omega, fun j hj => ?_, fun j hj hjn => ?_, fun i => ?_⟩
      · have := h2 j hj; rw [va_up_ne _ _ (by omega)] at this; exact this
      · by_cases z : j = n
        · subst z; exact q
        · have := h3 j hj (by omega); rw [va_up_ne _ _ (by omega)] at this; exact this
      · rw [h4 i]
        by_cases z : i = n + 1
        · subst z
          rw [if_neg (by omega), if_pos (by omega), va_up_self]
          rfl
        · by_cases z2 : (inS k n (va_up w (n + 1) (w n))).2 < i ∧ i ≤ n
          · rw [if_pos z2, if_pos (by omega), va_up_ne _ _ (by omega)]
          · rw [if_neg z2, if_neg (by omega), va_up_ne _ _ z]
    · have e : inS k (n + 1) w = (w, n + 1) := by simp only [inS]; rw [if_neg q]
      rw [e]
      refine ⟨Nat.le_refl _, fun j hj => ?_, fun j hj hjn => ?_, fun i => ?_⟩
      · have hj' : j < n + 1 := hj
        by_cases z : j = n
        · subst z; omega
        · have := hs j n (by omega) (by omega); omega
      · have hj' : n + 1 ≤ j := hj
        omega
      · rw [if_neg]
        intro z
        have : n + 1 < i := z.1
        omega
end
section
set_option maxHeartbeats 4000000 in
set_option maxRecDepth 100000 in
theorem k_isActor (l : Launch) (x : Int32) : Met l yX0_isActor wsX0_isActor ({ frames := 0, cells := 0, slots := 0, locals := 0 }) (fun v _ => v = ([.int x] : List Value).toArray) (QcRead (bI (isA x))) 0 0 (fun _ => False) := by
  refine Met.ofW (cc := cX0_isActor) (maxL := 1) (ret := (some .boolean)) (by decide) rfl ?_
  intro p e s m args below meth c s₁ B hml hv
  have hargs : args = ([.int x] : List Value).toArray := hv
  have hx := B.exec
  have hb := B.bytes
  have hr := B.returns
  have hts := atoms_spec (ws := wsX0_isActor) B.pre
  have hown : s.vm.findClass RX0 = some m.cls := findClass_of_methodNamed B.named
  have hlocks := B.notSynchronized
  have hl := lv_entry ([.int x]) (n := 1) (Nat.le_of_ble_eq_true rfl)
  have hE : entryFrame m args 1 = F0 m 0 ((lg_sl ([.int x]) ++ List.replicate (1 - (lg_sl ([.int x])).length) Slot.unset).toArray) [] := by rw [hargs]; exact lg_entry_eq m ([.int x]) 1
  rw [hE]
  generalize (lg_sl ([.int x]) ++ List.replicate (1 - (lg_sl ([.int x])).length) Slot.unset).toArray = ls at hl ⊢
  have hl : lv_has ls 1 [(0, .int x)] := hl
  refine lv_iload_n hx hb dX0_isActor_0 rfl (lv_at hl 0 rfl) ?_
  refine lv_if_lt (tgt := 14) hx hb dX0_isActor_1 (by decide) (fun c_1 => ?_) (fun c_1 => ?_)
  · refine lv_iconst (v := 0) hx hb dX0_isActor_14 (by decide) ?_
    exact rz_ret hx hb hr hlocks (rfl) (by simp [isA, bI, *]) dX0_isActor_15
  · refine lv_iload_n hx hb dX0_isActor_4 rfl (lv_at hl 0 rfl) ?_
    refine lv_bipush (v := 8) hx hb dX0_isActor_5 (by decide) ?_
    refine lv_icmp_ge (tgt := 14) hx hb dX0_isActor_7 (by decide) (fun c_7 => ?_) (fun c_7 => ?_)
    · refine lv_iconst (v := 0) hx hb dX0_isActor_14 (by decide) ?_
      exact rz_ret hx hb hr hlocks (rfl) (by simp [isA, bI, *]) dX0_isActor_15
    · refine lv_iconst (v := 1) hx hb dX0_isActor_10 (by decide) ?_
      refine lv_goto (tgt := 15) hx hb dX0_isActor_11 (by decide) ?_
      exact rz_ret hx hb hr hlocks (rfl) (by simp [isA, bI, *]) dX0_isActor_15

set_option maxHeartbeats 4000000 in
set_option maxRecDepth 100000 in
theorem k_isSeq (l : Launch) (x : Int32) : Met l yX0_isSeq wsX0_isSeq ({ frames := 0, cells := 0, slots := 0, locals := 0 }) (fun v _ => v = ([.int x] : List Value).toArray) (QcRead (bI (isS x))) 0 0 (fun _ => False) := by
  refine Met.ofW (cc := cX0_isSeq) (maxL := 1) (ret := (some .boolean)) (by decide) rfl ?_
  intro p e s m args below meth c s₁ B hml hv
  have hargs : args = ([.int x] : List Value).toArray := hv
  have hx := B.exec
  have hb := B.bytes
  have hr := B.returns
  have hts := atoms_spec (ws := wsX0_isSeq) B.pre
  have hown : s.vm.findClass RX0 = some m.cls := findClass_of_methodNamed B.named
  have hlocks := B.notSynchronized
  have hl := lv_entry ([.int x]) (n := 1) (Nat.le_of_ble_eq_true rfl)
  have hE : entryFrame m args 1 = F0 m 0 ((lg_sl ([.int x]) ++ List.replicate (1 - (lg_sl ([.int x])).length) Slot.unset).toArray) [] := by rw [hargs]; exact lg_entry_eq m ([.int x]) 1
  rw [hE]
  generalize (lg_sl ([.int x]) ++ List.replicate (1 - (lg_sl ([.int x])).length) Slot.unset).toArray = ls at hl ⊢
  have hl : lv_has ls 1 [(0, .int x)] := hl
  refine lv_iload_n hx hb dX0_isSeq_0 rfl (lv_at hl 0 rfl) ?_
  refine lv_iconst (v := 1) hx hb dX0_isSeq_1 (by decide) ?_
  refine lv_icmp_lt (tgt := 16) hx hb dX0_isSeq_2 (by decide) (fun c_2 => ?_) (fun c_2 => ?_)
  · refine lv_iconst (v := 0) hx hb dX0_isSeq_16 (by decide) ?_
    exact rz_ret hx hb hr hlocks (rfl) (by simp [isS, bI, *]) dX0_isSeq_17
  · refine lv_iload_n hx hb dX0_isSeq_5 rfl (lv_at hl 0 rfl) ?_
    refine lv_sipush (v := 255) hx hb dX0_isSeq_6 (by decide) ?_
    refine lv_icmp_gt (tgt := 16) hx hb dX0_isSeq_9 (by decide) (fun c_9 => ?_) (fun c_9 => ?_)
    · refine lv_iconst (v := 0) hx hb dX0_isSeq_16 (by decide) ?_
      exact rz_ret hx hb hr hlocks (rfl) (by simp [isS, bI, *]) dX0_isSeq_17
    · refine lv_iconst (v := 1) hx hb dX0_isSeq_12 (by decide) ?_
      refine lv_goto (tgt := 17) hx hb dX0_isSeq_13 (by decide) ?_
      exact rz_ret hx hb hr hlocks (rfl) (by simp [isS, bI, *]) dX0_isSeq_17

set_option maxHeartbeats 4000000 in
set_option maxRecDepth 100000 in
theorem k_keyOf (l : Launch) (a q : Nat) (ha : a < 8) (hq : q < 256) : Met l yX0_keyOf wsX0_keyOf ({ frames := 0, cells := 0, slots := 0, locals := 0 }) (fun v _ => v = ([.int (nI a), .int (nI q)] : List Value).toArray) (QcRead (nI (a * 256 + q))) 0 0 (fun _ => False) := by
  refine Met.ofW (cc := cX0_keyOf) (maxL := 2) (ret := (some .int)) (by decide) rfl ?_
  intro p e s m args below meth c s₁ B hml hv
  have hargs : args = ([.int (nI a), .int (nI q)] : List Value).toArray := hv
  have hx := B.exec
  have hb := B.bytes
  have hr := B.returns
  have hts := atoms_spec (ws := wsX0_keyOf) B.pre
  have hown : s.vm.findClass RX0 = some m.cls := findClass_of_methodNamed B.named
  have hlocks := B.notSynchronized
  have hl := lv_entry ([.int (nI a), .int (nI q)]) (n := 2) (Nat.le_of_ble_eq_true rfl)
  have hE : entryFrame m args 2 = F0 m 0 ((lg_sl ([.int (nI a), .int (nI q)]) ++ List.replicate (2 - (lg_sl ([.int (nI a), .int (nI q)])).length) Slot.unset).toArray) [] := by rw [hargs]; exact lg_entry_eq m ([.int (nI a), .int (nI q)]) 2
  rw [hE]
  generalize (lg_sl ([.int (nI a), .int (nI q)]) ++ List.replicate (2 - (lg_sl ([.int (nI a), .int (nI q)])).length) Slot.unset).toArray = ls at hl ⊢
  have hl : lv_has ls 2 [(0, .int (nI a)), (1, .int (nI q))] := hl
  refine lv_iload_n hx hb dX0_keyOf_0 rfl (lv_at hl 0 rfl) ?_
  refine lv_bipush (v := 8) hx hb dX0_keyOf_1 (by decide) ?_
  refine lv_ishl hx hb dX0_keyOf_3 ?_
  refine tp_i (y := nI (a * 256)) (pk_shlN _ 8 (by decide) (by omega)) ?_
  refine lv_iload_n hx hb dX0_keyOf_4 rfl (lv_at hl 1 rfl) ?_
  refine lv_ior hx hb dX0_keyOf_5 ?_
  refine tp_i (y := nI (a * 256 + q)) (nI_key hq) ?_
  exact ri_ret hx hb hr hlocks (rfl) dX0_keyOf_6

set_option maxHeartbeats 4000000 in
set_option maxRecDepth 100000 in
theorem k_actorOf (l : Launch) (k : Nat) (hk : k < 2 ^ 31) : Met l yX0_actorOf wsX0_actorOf ({ frames := 0, cells := 0, slots := 0, locals := 0 }) (fun v _ => v = ([.int (nI k)] : List Value).toArray) (QcRead (nI (k / 256))) 0 0 (fun _ => False) := by
  refine Met.ofW (cc := cX0_actorOf) (maxL := 1) (ret := (some .int)) (by decide) rfl ?_
  intro p e s m args below meth c s₁ B hml hv
  have hargs : args = ([.int (nI k)] : List Value).toArray := hv
  have hx := B.exec
  have hb := B.bytes
  have hr := B.returns
  have hts := atoms_spec (ws := wsX0_actorOf) B.pre
  have hown : s.vm.findClass RX0 = some m.cls := findClass_of_methodNamed B.named
  have hlocks := B.notSynchronized
  have hl := lv_entry ([.int (nI k)]) (n := 1) (Nat.le_of_ble_eq_true rfl)
  have hE : entryFrame m args 1 = F0 m 0 ((lg_sl ([.int (nI k)]) ++ List.replicate (1 - (lg_sl ([.int (nI k)])).length) Slot.unset).toArray) [] := by rw [hargs]; exact lg_entry_eq m ([.int (nI k)]) 1
  rw [hE]
  generalize (lg_sl ([.int (nI k)]) ++ List.replicate (1 - (lg_sl ([.int (nI k)])).length) Slot.unset).toArray = ls at hl ⊢
  have hl : lv_has ls 1 [(0, .int (nI k))] := hl
  refine lv_iload_n hx hb dX0_actorOf_0 rfl (lv_at hl 0 rfl) ?_
  refine lv_bipush (v := 8) hx hb dX0_actorOf_1 (by decide) ?_
  refine lv_ishr hx hb dX0_actorOf_3 ?_
  refine tp_i (y := nI (k / 256)) (pk_shrN hk _ 8 (by decide)) ?_
  exact ri_ret hx hb hr hlocks (rfl) dX0_actorOf_4

set_option maxHeartbeats 4000000 in
set_option maxRecDepth 100000 in
theorem k_seqOf (l : Launch) (k : Nat) : Met l yX0_seqOf wsX0_seqOf ({ frames := 0, cells := 0, slots := 0, locals := 0 }) (fun v _ => v = ([.int (nI k)] : List Value).toArray) (QcRead (nI (k % 256))) 0 0 (fun _ => False) := by
  refine Met.ofW (cc := cX0_seqOf) (maxL := 1) (ret := (some .int)) (by decide) rfl ?_
  intro p e s m args below meth c s₁ B hml hv
  have hargs : args = ([.int (nI k)] : List Value).toArray := hv
  have hx := B.exec
  have hb := B.bytes
  have hr := B.returns
  have hts := atoms_spec (ws := wsX0_seqOf) B.pre
  have hown : s.vm.findClass RX0 = some m.cls := findClass_of_methodNamed B.named
  have hlocks := B.notSynchronized
  have hl := lv_entry ([.int (nI k)]) (n := 1) (Nat.le_of_ble_eq_true rfl)
  have hE : entryFrame m args 1 = F0 m 0 ((lg_sl ([.int (nI k)]) ++ List.replicate (1 - (lg_sl ([.int (nI k)])).length) Slot.unset).toArray) [] := by rw [hargs]; exact lg_entry_eq m ([.int (nI k)]) 1
  rw [hE]
  generalize (lg_sl ([.int (nI k)]) ++ List.replicate (1 - (lg_sl ([.int (nI k)])).length) Slot.unset).toArray = ls at hl ⊢
  have hl : lv_has ls 1 [(0, .int (nI k))] := hl
  refine lv_iload_n hx hb dX0_seqOf_0 rfl (lv_at hl 0 rfl) ?_
  refine lv_sipush (v := 255) hx hb dX0_seqOf_1 (by decide) ?_
  refine lv_iand hx hb dX0_seqOf_4 ?_
  refine tp_i (y := nI (k % 256)) (nI_and255 k) ?_
  exact ri_ret hx hb hr hlocks (rfl) dX0_seqOf_5

set_option maxHeartbeats 4000000 in
set_option maxRecDepth 100000 in
theorem k_byteOf (l : Launch) (ck : Int64) (a : Nat) (ha : a < 8) : Met l yX0_byteOf wsX0_byteOf ({ frames := 0, cells := 0, slots := 0, locals := 0 }) (fun v _ => v = ([.long ck, .int (nI a)] : List Value).toArray) (QcRead (nI (by_ ck a))) 0 0 (fun _ => False) := by
  refine Met.ofW (cc := cX0_byteOf) (maxL := 3) (ret := (some .int)) (by decide) rfl ?_
  intro p e s m args below meth c s₁ B hml hv
  have hargs : args = ([.long ck, .int (nI a)] : List Value).toArray := hv
  have hx := B.exec
  have hb := B.bytes
  have hr := B.returns
  have hts := atoms_spec (ws := wsX0_byteOf) B.pre
  have hown : s.vm.findClass RX0 = some m.cls := findClass_of_methodNamed B.named
  have hlocks := B.notSynchronized
  have hl := lv_entry ([.long ck, .int (nI a)]) (n := 3) (Nat.le_of_ble_eq_true rfl)
  have hE : entryFrame m args 3 = F0 m 0 ((lg_sl ([.long ck, .int (nI a)]) ++ List.replicate (3 - (lg_sl ([.long ck, .int (nI a)])).length) Slot.unset).toArray) [] := by rw [hargs]; exact lg_entry_eq m ([.long ck, .int (nI a)]) 3
  rw [hE]
  generalize (lg_sl ([.long ck, .int (nI a)]) ++ List.replicate (3 - (lg_sl ([.long ck, .int (nI a)])).length) Slot.unset).toArray = ls at hl ⊢
  have hl : lv_has ls 3 [(0, .long ck), (2, .int (nI a))] := hl
  refine lv_lload_n hx hb dX0_byteOf_0 rfl (lv_at hl 0 rfl) ?_
  refine lv_bipush (v := 8) hx hb dX0_byteOf_1 (by decide) ?_
  refine lv_iload_n hx hb dX0_byteOf_3 rfl (lv_at hl 1 rfl) ?_
  refine lv_imul hx hb dX0_byteOf_4 ?_
  refine tp_i (y := nI (8 * a)) (pk_mul 8 a) ?_
  refine lv_lushr (v := (ck.toUInt64 >>> ((nI (8 * a)).toInt64.toUInt64 &&& Int64.toUInt64 63)).toInt64) hx hb dX0_byteOf_5 (rfl) ?_
  refine lv_l2i (v := ((ck.toUInt64 >>> ((nI (8 * a)).toInt64.toUInt64 &&& Int64.toUInt64 63)).toInt64).toInt32) hx hb dX0_byteOf_6 (rfl) ?_
  refine lv_sipush (v := 255) hx hb dX0_byteOf_7 (by decide) ?_
  refine lv_iand hx hb dX0_byteOf_10 ?_
  refine tp_i (y := nI (by_ ck a)) (by_eq ck ha) ?_
  exact ri_ret hx hb hr hlocks (rfl) dX0_byteOf_11

set_option maxRecDepth 20000 in
theorem in_X0_nextSeq_X0 : ∀ w ∈ wsX00, w ∈ wsX0_nextSeq := by decide +kernel

set_option maxHeartbeats 4000000 in
set_option maxRecDepth 100000 in
theorem k_nextSeq (l : Launch) (dC : Nat → ClassId) (dI : Nat → Nat → Nat) (ca : Nat → ClassId) (h0 a0 a1 a2 a3 a4 : Nat) (t : TF) (tn : Nat) (w : WF) (wn : Nat) (g : Int64) (ko mw : Nat) (a : Nat) (ha : a < 8) : Met l yX0_nextSeq wsX0_nextSeq ({ frames := 1, cells := 0, slots := 0, locals := 22 }) (Pr [.ref h0, .int (nI a)] (dC, dI) clS [(ca 0, .int), (ca 1, .int), (ca 2, .int), (ca 3, .long), (ca 4, .int)] [(h0, .inr (0, [.ref a0, .ref a1, .int (nI tn), .ref a2, .ref a3, .ref a4, .int (nI wn), .long g, .int (nI ko), .int (nI mw)])), (a0, .inl (ca 0, 512, .inl (fun z9 => nI (t z9).1))), (a1, .inl (ca 1, 512, .inl (fun z9 => (t z9).2))), (a2, .inl (ca 2, 65, .inl (fun z9 => nI (w z9).1))), (a3, .inl (ca 3, 65, .inr (.inl (fun z9 => (w z9).2.1)))), (a4, .inl (ca 4, 65, .inl (fun z9 => (w z9).2.2)))]) (QcRead (nI (by_ g a + 1))) 0 0 (fun _ => False) := by
  refine Met.ofW (cc := cX0_nextSeq) (maxL := 2) (ret := (some .int)) (by decide) rfl ?_
  intro p e s m args below meth c s₁ B hml hv
  obtain ⟨hargs, hP, hK⟩ := hv
  have hx := B.exec
  have hb := B.bytes
  have hr := B.returns
  have hts := atoms_spec (ws := wsX0_nextSeq) B.pre
  have hown : s.vm.findClass RX0 = some m.cls := findClass_of_methodNamed B.named
  have hlocks := B.notSynchronized
  have hP : va_P (dC, dI) clS [(h0, .inr (0, [.ref a0, .ref a1, .int (nI tn), .ref a2, .ref a3, .ref a4, .int (nI wn), .long g, .int (nI ko), .int (nI mw)])), (a0, .inl (ca 0, 512, .inl (fun z9 => nI (t z9).1))), (a1, .inl (ca 1, 512, .inl (fun z9 => (t z9).2))), (a2, .inl (ca 2, 65, .inl (fun z9 => nI (w z9).1))), (a3, .inl (ca 3, 65, .inr (.inl (fun z9 => (w z9).2.1)))), (a4, .inl (ca 4, 65, .inl (fun z9 => (w z9).2.2)))] s.heap := hP
  have hl := lv_entry ([.ref h0, .int (nI a)]) (n := 2) (Nat.le_of_ble_eq_true rfl)
  have hE : entryFrame m args 2 = F0 m 0 ((lg_sl ([.ref h0, .int (nI a)]) ++ List.replicate (2 - (lg_sl ([.ref h0, .int (nI a)])).length) Slot.unset).toArray) [] := by rw [hargs]; exact lg_entry_eq m ([.ref h0, .int (nI a)]) 2
  rw [hE]
  generalize (lg_sl ([.ref h0, .int (nI a)]) ++ List.replicate (2 - (lg_sl ([.ref h0, .int (nI a)])).length) Slot.unset).toArray = ls at hl ⊢
  have hl : lv_has ls 2 [(0, .ref h0), (1, .int (nI a))] := hl
  refine lv_aload_n hx hb dX0_nextSeq_0 rfl (lv_at hl 0 rfl) ?_
  refine va_get (D := (dC, dI)) (ci := 0) (v := .long g) (C := RX0) (T := TX0) (N := 10) hx hb hts in_X0_nextSeq_X0 hown hK hP 0 rfl rfl 7 (by decide) (hts (.fieldLink RX0 33 "CausalGate" "gateClock" "J") (by decide +kernel)) (fun _ h9 => h9) rfl dX0_nextSeq_1 ?_
  refine lv_iload_n hx hb dX0_nextSeq_4 rfl (lv_at hl 1 rfl) ?_
  refine rd_i (W.runS (As := [.long g, .int (nI a)]) (rest := []) ⟨hx, hb, hml, hown, hts⟩ (k_byteOf l g a (by omega)) (va_cwS 2 hts gX0_nextSeq_X0_byteOf rfl rfl rfl (by decide +kernel) ⟨Nat.le_of_ble_eq_true rfl, Nat.le_of_ble_eq_true rfl⟩) preEq rfl rfl hl.1 rfl (lv_room (Nat.le_of_ble_eq_true rfl)) dX0_nextSeq_5 ⟨Nat.zero_le _, Nat.zero_le _⟩) ?_
  refine lv_iconst (v := 1) hx hb dX0_nextSeq_8 (by decide) ?_
  refine lv_iadd hx hb dX0_nextSeq_9 ?_
  refine tp_i (y := nI (by_ g a + 1)) (nI_1 _) ?_
  exact ri_ret hx hb hr hlocks (rfl) dX0_nextSeq_10

set_option maxRecDepth 20000 in
theorem in_X0_isKnown_X0 : ∀ w ∈ wsX00, w ∈ wsX0_isKnown := by decide +kernel

set_option maxHeartbeats 4000000 in
set_option maxRecDepth 100000 in
theorem k_isKnown (l : Launch) (dC : Nat → ClassId) (dI : Nat → Nat → Nat) (ca : Nat → ClassId) (h0 a0 a1 a2 a3 a4 : Nat) (t : TF) (tn : Nat) (w : WF) (wn : Nat) (g : Int64) (ko mw : Nat) (hwn : wn ≤ 65) (hw : ∀ j, j < wn → (w j).1 < 2048) (k : Nat) (hk : k < 2048) : Met l yX0_isKnown wsX0_isKnown ({ frames := 2, cells := 0, slots := 0, locals := 43 }) (Pr [.ref h0, .int (nI k)] (dC, dI) clS [(ca 0, .int), (ca 1, .int), (ca 2, .int), (ca 3, .long), (ca 4, .int)] [(h0, .inr (0, [.ref a0, .ref a1, .int (nI tn), .ref a2, .ref a3, .ref a4, .int (nI wn), .long g, .int (nI ko), .int (nI mw)])), (a0, .inl (ca 0, 512, .inl (fun z9 => nI (t z9).1))), (a1, .inl (ca 1, 512, .inl (fun z9 => (t z9).2))), (a2, .inl (ca 2, 65, .inl (fun z9 => nI (w z9).1))), (a3, .inl (ca 3, 65, .inr (.inl (fun z9 => (w z9).2.1)))), (a4, .inl (ca 4, 65, .inl (fun z9 => (w z9).2.2)))]) (QcRead (bI (kn g w wn k))) 0 0 (fun _ => False) := by
  refine Met.ofW (cc := cX0_isKnown) (maxL := 3) (ret := (some .boolean)) (by decide) rfl ?_
  intro p e s m args below meth c s₁ B hml hv
  obtain ⟨hargs, hP, hK⟩ := hv
  have hx := B.exec
  have hb := B.bytes
  have hr := B.returns
  have hts := atoms_spec (ws := wsX0_isKnown) B.pre
  have hown : s.vm.findClass RX0 = some m.cls := findClass_of_methodNamed B.named
  have hlocks := B.notSynchronized
  have hP : va_P (dC, dI) clS [(h0, .inr (0, [.ref a0, .ref a1, .int (nI tn), .ref a2, .ref a3, .ref a4, .int (nI wn), .long g, .int (nI ko), .int (nI mw)])), (a0, .inl (ca 0, 512, .inl (fun z9 => nI (t z9).1))), (a1, .inl (ca 1, 512, .inl (fun z9 => (t z9).2))), (a2, .inl (ca 2, 65, .inl (fun z9 => nI (w z9).1))), (a3, .inl (ca 3, 65, .inr (.inl (fun z9 => (w z9).2.1)))), (a4, .inl (ca 4, 65, .inl (fun z9 => (w z9).2.2)))] s.heap := hP
  have hl := lv_entry ([.ref h0, .int (nI k)]) (n := 3) (Nat.le_of_ble_eq_true rfl)
  have hE : entryFrame m args 3 = F0 m 0 ((lg_sl ([.ref h0, .int (nI k)]) ++ List.replicate (3 - (lg_sl ([.ref h0, .int (nI k)])).length) Slot.unset).toArray) [] := by rw [hargs]; exact lg_entry_eq m ([.ref h0, .int (nI k)]) 3
  rw [hE]
  generalize (lg_sl ([.ref h0, .int (nI k)]) ++ List.replicate (3 - (lg_sl ([.ref h0, .int (nI k)])).length) Slot.unset).toArray = ls at hl ⊢
  have hl : lv_has ls 3 [(0, .ref h0), (1, .int (nI k))] := hl
  refine lv_iload_n hx hb dX0_isKnown_0 rfl (lv_at hl 1 rfl) ?_
  refine rd_i (W.runS (As := [.int (nI k)]) (rest := []) ⟨hx, hb, hml, hown, hts⟩ (k_seqOf l k) (va_cwS 1 hts gX0_isKnown_X0_seqOf rfl rfl rfl (by decide +kernel) ⟨Nat.le_of_ble_eq_true rfl, Nat.le_of_ble_eq_true rfl⟩) preEq rfl rfl hl.1 rfl (lv_room (Nat.le_of_ble_eq_true rfl)) dX0_isKnown_1 ⟨Nat.zero_le _, Nat.zero_le _⟩) ?_
  refine lv_aload_n hx hb dX0_isKnown_4 rfl (lv_at hl 0 rfl) ?_
  refine lv_iload_n hx hb dX0_isKnown_5 rfl (lv_at hl 1 rfl) ?_
  refine rd_i (W.runS (As := [.int (nI k)]) (rest := [.ref h0, .int (nI (k % 256))]) ⟨hx, hb, hml, hown, hts⟩ (k_actorOf l k (by omega)) (va_cwS 1 hts gX0_isKnown_X0_actorOf rfl rfl rfl (by decide +kernel) ⟨Nat.le_of_ble_eq_true rfl, Nat.le_of_ble_eq_true rfl⟩) preEq rfl rfl hl.1 rfl (lv_room (Nat.le_of_ble_eq_true rfl)) dX0_isKnown_6 ⟨Nat.zero_le _, Nat.zero_le _⟩) ?_
  refine rd_i (W.runV (As := [.int (nI (k / 256))]) (rest := [.int (nI (k % 256))]) ⟨hx, hb, hml, hown, hts⟩ (k_nextSeq l dC dI ca h0 a0 a1 a2 a3 a4 t tn w wn g ko mw (k / 256) (by omega)) (cwV 1 hts gX0_isKnown_X0_nextSeq rfl rfl rfl (by decide +kernel) ⟨Nat.le_of_ble_eq_true rfl, Nat.le_of_ble_eq_true rfl⟩) (pr_V (ci := 0) (q0 := 0) hK hP rfl rfl) rfl rfl hl.1 rfl (lv_room (Nat.le_of_ble_eq_true rfl)) dX0_isKnown_9 ⟨Nat.zero_le _, Nat.zero_le _⟩) ?_
  refine lv_icmp_ge (tgt := 17) hx hb dX0_isKnown_12 (by decide) (fun c_12 => ?_) (fun c_12 => ?_)
  · have c9 : ¬ k % 256 < by_ g (k / 256) + 1 := Nat.not_lt.mpr ((nI_leI (by have := by_lt g (k / 256); omega) (by omega)).mp c_12)
    refine lv_iconst (v := 0) hx hb dX0_isKnown_17 (by decide) ?_
    refine tp_i (y := nI 0) (nI_0.symm) ?_
    refine lv_istore_n (lv' := [(2, .int (nI 0)), (0, .ref h0), (1, .int (nI k))]) hx hb dX0_isKnown_18 rfl hl (by decide) rfl (fun ls hl => ?_)
    have loop : ∀ (n : Nat) (j : Nat), j + n = wn → knS w k n j = kn g w wn k → ∀ ls : Array Slot, lv_has ls 3 [(0, .ref h0), (1, .int (nI k)), (2, .int (nI j))] → W p l e (headSpec wsX0_isKnown ({ frames := 2, cells := 0, slots := 0, locals := 43 })).room s m args below meth c s.heap [] 0 0 (MQ below (QcRead (bI (kn g w wn k))) args s 0 0 (fun _ => False)) (F0 m 19 ls []) := by
      intro n
      induction n with
      | zero =>
        intro j hj hk9 ls hl
        refine lv_iload_n hx hb dX0_isKnown_19 rfl (lv_at hl 2 rfl) ?_
        refine lv_aload_n hx hb dX0_isKnown_20 rfl (lv_at hl 0 rfl) ?_
        refine va_get (D := (dC, dI)) (ci := 0) (v := .int (nI wn)) (C := RX0) (T := TX0) (N := 10) hx hb hts in_X0_isKnown_X0 hown hK hP 0 rfl rfl 6 (by decide) (hts (.fieldLink RX0 30 "CausalGate" "waitCount" "I") (by decide +kernel)) (fun _ h9 => h9) rfl dX0_isKnown_21 ?_
        refine lv_icmp_ge (tgt := 45) hx hb dX0_isKnown_24 (by decide) (fun c_24 => ?_) (fun c_24 => ?_)
        · refine lv_iconst (v := 0) hx hb dX0_isKnown_45 (by decide) ?_
          exact rz_ret hx hb hr hlocks (rfl) (by rw [← hk9]; rfl) dX0_isKnown_46
        · exact absurd (nI_le (by omega) (by omega)) c_24
      | succ n ih =>
        intro j hj hk9 ls hl
        refine lv_iload_n hx hb dX0_isKnown_19 rfl (lv_at hl 2 rfl) ?_
        refine lv_aload_n hx hb dX0_isKnown_20 rfl (lv_at hl 0 rfl) ?_
        refine va_get (D := (dC, dI)) (ci := 0) (v := .int (nI wn)) (C := RX0) (T := TX0) (N := 10) hx hb hts in_X0_isKnown_X0 hown hK hP 0 rfl rfl 6 (by decide) (hts (.fieldLink RX0 30 "CausalGate" "waitCount" "I") (by decide +kernel)) (fun _ h9 => h9) rfl dX0_isKnown_21 ?_
        refine lv_icmp_ge (tgt := 45) hx hb dX0_isKnown_24 (by decide) (fun c_24 => ?_) (fun c_24 => ?_)
        · exact absurd ((nI_leI (by omega) (by omega)).mp c_24) (by omega)
        · refine lv_aload_n hx hb dX0_isKnown_27 rfl (lv_at hl 0 rfl) ?_
          refine va_get (D := (dC, dI)) (ci := 0) (v := .ref a2) (C := RX0) (T := TX0) (N := 10) hx hb hts in_X0_isKnown_X0 hown hK hP 0 rfl rfl 3 (by decide) (hts (.fieldLink RX0 16 "CausalGate" "waitKeys" "[I") (by decide +kernel)) (fun _ h9 => h9) rfl dX0_isKnown_28 ?_
          refine lv_iload_n hx hb dX0_isKnown_31 rfl (lv_at hl 2 rfl) ?_
          have hwj := hw _ (show j < wn by omega)
          refine va_iald hx hb hK hP 3 2 rfl rfl (vp_in_nI (by omega) (by decide)) dX0_isKnown_32 ?_
          refine tp_i (y := nI (w j).1) (by rw [nI_clamp (by omega)]) ?_
          have hwj := hw _ (show j < wn by omega)
          refine lv_iload_n hx hb dX0_isKnown_33 rfl (lv_at hl 1 rfl) ?_
          refine lv_icmp_ne (tgt := 39) hx hb dX0_isKnown_34 (by decide) (fun c_34 => ?_) (fun c_34 => ?_)
          · have c8 : ¬ (w j).1 = k := fun q => c_34 (by rw [q])
            refine lv_iinc (v := (nI (j + 1))) (lv' := [(2, .int (nI (j + 1))), (0, .ref h0), (1, .int (nI k))]) hx hb dX0_isKnown_39 hl (k := 2) rfl (nI_1 j) (by decide) rfl (fun ls hl => ?_)
            refine lv_goto (tgt := 19) hx hb dX0_isKnown_42 (by decide) ?_
            exact ih (j + 1) (by omega) (by rw [← hk9]; simp only [knS]; rw [if_neg c8]) ls (lv_sub hl [1, 2, 0] rfl)
          · have c8 : (w j).1 = k := (nI_eq (by omega) (by omega)).mp c_34
            refine lv_iconst (v := 1) hx hb dX0_isKnown_37 (by decide) ?_
            exact rz_ret hx hb hr hlocks (rfl) (by rw [← hk9]; simp [knS, c8, bI]) dX0_isKnown_38
    exact loop wn 0 (by omega) (by simp [kn, c9]) ls (lv_sub hl [1, 2, 0] rfl)
  · have c9 : k % 256 < by_ g (k / 256) + 1 := Nat.lt_of_not_le fun q => c_12 (nI_le q (by omega))
    refine lv_iconst (v := 1) hx hb dX0_isKnown_15 (by decide) ?_
    exact rz_ret hx hb hr hlocks (rfl) (by simp [kn, c9, bI]) dX0_isKnown_16

set_option maxRecDepth 20000 in
theorem in_X0_lackedActor_X0 : ∀ w ∈ wsX00, w ∈ wsX0_lackedActor := by decide +kernel

set_option maxHeartbeats 4000000 in
set_option maxRecDepth 100000 in
theorem k_lackedActor (l : Launch) (dC : Nat → ClassId) (dI : Nat → Nat → Nat) (ca : Nat → ClassId) (h0 a0 a1 a2 a3 a4 : Nat) (t : TF) (tn : Nat) (w : WF) (wn : Nat) (g : Int64) (ko mw : Nat) (k : Nat) (ck : Int64) (hk : k < 2048) : Met l yX0_lackedActor wsX0_lackedActor ({ frames := 2, cells := 0, slots := 0, locals := 43 }) (Pr [.ref h0, .int (nI k), .long ck] (dC, dI) clS [(ca 0, .int), (ca 1, .int), (ca 2, .int), (ca 3, .long), (ca 4, .int)] [(h0, .inr (0, [.ref a0, .ref a1, .int (nI tn), .ref a2, .ref a3, .ref a4, .int (nI wn), .long g, .int (nI ko), .int (nI mw)])), (a0, .inl (ca 0, 512, .inl (fun z9 => nI (t z9).1))), (a1, .inl (ca 1, 512, .inl (fun z9 => (t z9).2))), (a2, .inl (ca 2, 65, .inl (fun z9 => nI (w z9).1))), (a3, .inl (ca 3, 65, .inr (.inl (fun z9 => (w z9).2.1)))), (a4, .inl (ca 4, 65, .inl (fun z9 => (w z9).2.2)))]) (QcRead (oI (lk g k ck))) 0 0 (fun _ => False) := by
  refine Met.ofW (cc := cX0_lackedActor) (maxL := 6) (ret := (some .int)) (by decide) rfl ?_
  intro p e s m args below meth c s₁ B hml hv
  obtain ⟨hargs, hP, hK⟩ := hv
  have hx := B.exec
  have hb := B.bytes
  have hr := B.returns
  have hts := atoms_spec (ws := wsX0_lackedActor) B.pre
  have hown : s.vm.findClass RX0 = some m.cls := findClass_of_methodNamed B.named
  have hlocks := B.notSynchronized
  have hP : va_P (dC, dI) clS [(h0, .inr (0, [.ref a0, .ref a1, .int (nI tn), .ref a2, .ref a3, .ref a4, .int (nI wn), .long g, .int (nI ko), .int (nI mw)])), (a0, .inl (ca 0, 512, .inl (fun z9 => nI (t z9).1))), (a1, .inl (ca 1, 512, .inl (fun z9 => (t z9).2))), (a2, .inl (ca 2, 65, .inl (fun z9 => nI (w z9).1))), (a3, .inl (ca 3, 65, .inr (.inl (fun z9 => (w z9).2.1)))), (a4, .inl (ca 4, 65, .inl (fun z9 => (w z9).2.2)))] s.heap := hP
  have hl := lv_entry ([.ref h0, .int (nI k), .long ck]) (n := 6) (Nat.le_of_ble_eq_true rfl)
  have hE : entryFrame m args 6 = F0 m 0 ((lg_sl ([.ref h0, .int (nI k), .long ck]) ++ List.replicate (6 - (lg_sl ([.ref h0, .int (nI k), .long ck])).length) Slot.unset).toArray) [] := by rw [hargs]; exact lg_entry_eq m ([.ref h0, .int (nI k), .long ck]) 6
  rw [hE]
  generalize (lg_sl ([.ref h0, .int (nI k), .long ck]) ++ List.replicate (6 - (lg_sl ([.ref h0, .int (nI k), .long ck])).length) Slot.unset).toArray = ls at hl ⊢
  have hl : lv_has ls 6 [(0, .ref h0), (1, .int (nI k)), (2, .long ck)] := hl
  refine lv_iload_n hx hb dX0_lackedActor_0 rfl (lv_at hl 1 rfl) ?_
  refine rd_i (W.runS (As := [.int (nI k)]) (rest := []) ⟨hx, hb, hml, hown, hts⟩ (k_actorOf l k (by omega)) (va_cwS 1 hts gX0_lackedActor_X0_actorOf rfl rfl rfl (by decide +kernel) ⟨Nat.le_of_ble_eq_true rfl, Nat.le_of_ble_eq_true rfl⟩) preEq rfl rfl hl.1 rfl (lv_room (Nat.le_of_ble_eq_true rfl)) dX0_lackedActor_1 ⟨Nat.zero_le _, Nat.zero_le _⟩) ?_
  refine lv_istore (lv' := [(4, .int (nI (k / 256))), (0, .ref h0), (1, .int (nI k)), (2, .long ck)]) hx hb dX0_lackedActor_4 hl (by decide) rfl (fun ls hl => ?_)
  refine lv_iload_n hx hb dX0_lackedActor_6 rfl (lv_at hl 2 rfl) ?_
  refine rd_i (W.runS (As := [.int (nI k)]) (rest := []) ⟨hx, hb, hml, hown, hts⟩ (k_seqOf l k) (va_cwS 1 hts gX0_lackedActor_X0_seqOf rfl rfl rfl (by decide +kernel) ⟨Nat.le_of_ble_eq_true rfl, Nat.le_of_ble_eq_true rfl⟩) preEq rfl rfl hl.1 rfl (lv_room (Nat.le_of_ble_eq_true rfl)) dX0_lackedActor_7 ⟨Nat.zero_le _, Nat.zero_le _⟩) ?_
  refine lv_aload_n hx hb dX0_lackedActor_10 rfl (lv_at hl 1 rfl) ?_
  refine lv_iload hx hb dX0_lackedActor_11 (lv_at hl 0 rfl) ?_
  refine rd_i (W.runV (As := [.int (nI (k / 256))]) (rest := [.int (nI (k % 256))]) ⟨hx, hb, hml, hown, hts⟩ (k_nextSeq l dC dI ca h0 a0 a1 a2 a3 a4 t tn w wn g ko mw (k / 256) (by omega)) (cwV 1 hts gX0_lackedActor_X0_nextSeq rfl rfl rfl (by decide +kernel) ⟨Nat.le_of_ble_eq_true rfl, Nat.le_of_ble_eq_true rfl⟩) (pr_V (ci := 0) (q0 := 0) hK hP rfl rfl) rfl rfl hl.1 rfl (lv_room (Nat.le_of_ble_eq_true rfl)) dX0_lackedActor_13 ⟨Nat.zero_le _, Nat.zero_le _⟩) ?_
  refine lv_icmp_eq (tgt := 22) hx hb dX0_lackedActor_16 (by decide) (fun c_16 => ?_) (fun c_16 => ?_)
  · have c9 : k % 256 = by_ g (k / 256) + 1 := (nI_eq (by omega) (by have := by_lt g (k / 256); omega)).mp c_16
    refine lv_iconst (v := 0) hx hb dX0_lackedActor_22 (by decide) ?_
    refine tp_i (y := nI 0) (nI_0.symm) ?_
    refine lv_istore (lv' := [(5, .int (nI 0)), (4, .int (nI (k / 256))), (0, .ref h0), (1, .int (nI k)), (2, .long ck)]) hx hb dX0_lackedActor_23 hl (by decide) rfl (fun ls hl => ?_)
    have loop : ∀ (n : Nat) (a : Nat), a + n = 8 → lkS g ck (k / 256) n a = lk g k ck → ∀ ls : Array Slot, lv_has ls 6 [(0, .ref h0), (1, .int (nI k)), (2, .long ck), (4, .int (nI (k / 256))), (5, .int (nI a))] → W p l e (headSpec wsX0_lackedActor ({ frames := 2, cells := 0, slots := 0, locals := 43 })).room s m args below meth c s.heap [] 0 0 (MQ below (QcRead (oI (lk g k ck))) args s 0 0 (fun _ => False)) (F0 m 25 ls []) := by
      intro n
      induction n with
      | zero =>
        intro a ha hk9 ls hl
        refine lv_iload hx hb dX0_lackedActor_25 (lv_at hl 4 rfl) ?_
        refine lv_bipush (v := 8) hx hb dX0_lackedActor_27 (by decide) ?_
        refine tp_i (y := nI 8) (rfl) ?_
        refine lv_icmp_ge (tgt := 66) hx hb dX0_lackedActor_29 (by decide) (fun c_29 => ?_) (fun c_29 => ?_)
        · refine lv_iconst (v := -1) hx hb dX0_lackedActor_66 (by decide) ?_
          exact ri_ret hx hb hr hlocks (by rw [← hk9]; rfl) dX0_lackedActor_67
        · exact absurd (nI_le (by omega) (by omega)) c_29
      | succ n ih =>
        intro a ha hk9 ls hl
        refine lv_iload hx hb dX0_lackedActor_25 (lv_at hl 4 rfl) ?_
        refine lv_bipush (v := 8) hx hb dX0_lackedActor_27 (by decide) ?_
        refine tp_i (y := nI 8) (rfl) ?_
        refine lv_icmp_ge (tgt := 66) hx hb dX0_lackedActor_29 (by decide) (fun c_29 => ?_) (fun c_29 => ?_)
        · exact absurd ((nI_leI (by omega) (by omega)).mp c_29) (by omega)
        · refine lv_iload hx hb dX0_lackedActor_32 (lv_at hl 4 rfl) ?_
          refine lv_iload hx hb dX0_lackedActor_34 (lv_at hl 3 rfl) ?_
          refine lv_icmp_eq (tgt := 60) hx hb dX0_lackedActor_36 (by decide) (fun c_36 => ?_) (fun c_36 => ?_)
          · have c7 : ¬ (a ≠ k / 256 ∧ by_ g a < by_ ck a) := fun q => q.1 ((nI_eq (by omega) (by omega)).mp c_36)
            refine lv_iinc (v := (nI (a + 1))) (lv' := [(5, .int (nI (a + 1))), (0, .ref h0), (1, .int (nI k)), (2, .long ck), (4, .int (nI (k / 256)))]) hx hb dX0_lackedActor_60 hl (k := 4) rfl (nI_1 a) (by decide) rfl (fun ls hl => ?_)
            refine lv_goto (tgt := 25) hx hb dX0_lackedActor_63 (by decide) ?_
            exact ih (a + 1) (by omega) (by rw [← hk9]; simp only [lkS]; rw [if_neg c7]) ls (lv_sub hl [1, 2, 3, 4, 0] rfl)
          · have c8 : a ≠ k / 256 := fun q => c_36 (by rw [q])
            refine lv_lload_n hx hb dX0_lackedActor_39 rfl (lv_at hl 2 rfl) ?_
            refine lv_iload hx hb dX0_lackedActor_40 (lv_at hl 4 rfl) ?_
            refine rd_i (W.runS (As := [.long ck, .int (nI a)]) (rest := []) ⟨hx, hb, hml, hown, hts⟩ (k_byteOf l ck a (by omega)) (va_cwS 2 hts gX0_lackedActor_X0_byteOf rfl rfl rfl (by decide +kernel) ⟨Nat.le_of_ble_eq_true rfl, Nat.le_of_ble_eq_true rfl⟩) preEq rfl rfl hl.1 rfl (lv_room (Nat.le_of_ble_eq_true rfl)) dX0_lackedActor_42 ⟨Nat.zero_le _, Nat.zero_le _⟩) ?_
            refine lv_aload_n hx hb dX0_lackedActor_45 rfl (lv_at hl 0 rfl) ?_
            refine va_get (D := (dC, dI)) (ci := 0) (v := .long g) (C := RX0) (T := TX0) (N := 10) hx hb hts in_X0_lackedActor_X0 hown hK hP 0 rfl rfl 7 (by decide) (hts (.fieldLink RX0 33 "CausalGate" "gateClock" "J") (by decide +kernel)) (fun _ h9 => h9) rfl dX0_lackedActor_46 ?_
            refine lv_iload hx hb dX0_lackedActor_49 (lv_at hl 4 rfl) ?_
            refine rd_i (W.runS (As := [.long g, .int (nI a)]) (rest := [.int (nI (by_ ck a))]) ⟨hx, hb, hml, hown, hts⟩ (k_byteOf l g a (by omega)) (va_cwS 2 hts gX0_lackedActor_X0_byteOf rfl rfl rfl (by decide +kernel) ⟨Nat.le_of_ble_eq_true rfl, Nat.le_of_ble_eq_true rfl⟩) preEq rfl rfl hl.1 rfl (lv_room (Nat.le_of_ble_eq_true rfl)) dX0_lackedActor_51 ⟨Nat.zero_le _, Nat.zero_le _⟩) ?_
            refine lv_icmp_le (tgt := 60) hx hb dX0_lackedActor_54 (by decide) (fun c_54 => ?_) (fun c_54 => ?_)
            · have c7 : ¬ (a ≠ k / 256 ∧ by_ g a < by_ ck a) := fun q => absurd ((nI_leI (by have := by_lt ck a; omega) (by have := by_lt g a; omega)).mp c_54) (by have := q.2; omega)
              refine lv_iinc (v := (nI (a + 1))) (lv' := [(5, .int (nI (a + 1))), (0, .ref h0), (1, .int (nI k)), (2, .long ck), (4, .int (nI (k / 256)))]) hx hb dX0_lackedActor_60 hl (k := 4) rfl (nI_1 a) (by decide) rfl (fun ls hl => ?_)
              refine lv_goto (tgt := 25) hx hb dX0_lackedActor_63 (by decide) ?_
              exact ih (a + 1) (by omega) (by rw [← hk9]; simp only [lkS]; rw [if_neg c7]) ls (lv_sub hl [1, 2, 3, 4, 0] rfl)
            · have c7 : a ≠ k / 256 ∧ by_ g a < by_ ck a := ⟨c8, Nat.lt_of_not_le fun q => c_54 (nI_le q (by have := by_lt g a; omega))⟩
              refine lv_iload hx hb dX0_lackedActor_57 (lv_at hl 4 rfl) ?_
              exact ri_ret hx hb hr hlocks (by rw [← hk9]; simp only [lkS]; rw [if_pos c7]; rfl) dX0_lackedActor_59
    exact loop 8 0 (by omega) (by simp [lk, c9]) ls (lv_sub hl [2, 3, 4, 1, 0] rfl)
  · have c9 : ¬ k % 256 = by_ g (k / 256) + 1 := fun q => c_16 (by rw [q])
    refine lv_iload hx hb dX0_lackedActor_19 (lv_at hl 0 rfl) ?_
    exact ri_ret hx hb hr hlocks (by simp [lk, c9, oI]) dX0_lackedActor_21

set_option maxRecDepth 20000 in
theorem in_X0_canComeThrough_X0 : ∀ w ∈ wsX00, w ∈ wsX0_canComeThrough := by decide +kernel

set_option maxHeartbeats 4000000 in
set_option maxRecDepth 100000 in
theorem k_canComeThrough (l : Launch) (dC : Nat → ClassId) (dI : Nat → Nat → Nat) (ca : Nat → ClassId) (h0 a0 a1 a2 a3 a4 : Nat) (t : TF) (tn : Nat) (w : WF) (wn : Nat) (g : Int64) (ko mw : Nat) (k : Nat) (ck : Int64) (hk : k < 2048) (htn : tn ≤ 512) : Met l yX0_canComeThrough wsX0_canComeThrough ({ frames := 3, cells := 0, slots := 0, locals := 68 }) (Pr [.ref h0, .int (nI k), .long ck] (dC, dI) clS [(ca 0, .int), (ca 1, .int), (ca 2, .int), (ca 3, .long), (ca 4, .int)] [(h0, .inr (0, [.ref a0, .ref a1, .int (nI tn), .ref a2, .ref a3, .ref a4, .int (nI wn), .long g, .int (nI ko), .int (nI mw)])), (a0, .inl (ca 0, 512, .inl (fun z9 => nI (t z9).1))), (a1, .inl (ca 1, 512, .inl (fun z9 => (t z9).2))), (a2, .inl (ca 2, 65, .inl (fun z9 => nI (w z9).1))), (a3, .inl (ca 3, 65, .inr (.inl (fun z9 => (w z9).2.1)))), (a4, .inl (ca 4, 65, .inl (fun z9 => (w z9).2.2)))]) (QcRead (bI (cn tn g k ck))) 0 0 (fun _ => False) := by
  refine Met.ofW (cc := cX0_canComeThrough) (maxL := 4) (ret := (some .boolean)) (by decide) rfl ?_
  intro p e s m args below meth c s₁ B hml hv
  obtain ⟨hargs, hP, hK⟩ := hv
  have hx := B.exec
  have hb := B.bytes
  have hr := B.returns
  have hts := atoms_spec (ws := wsX0_canComeThrough) B.pre
  have hown : s.vm.findClass RX0 = some m.cls := findClass_of_methodNamed B.named
  have hlocks := B.notSynchronized
  have hP : va_P (dC, dI) clS [(h0, .inr (0, [.ref a0, .ref a1, .int (nI tn), .ref a2, .ref a3, .ref a4, .int (nI wn), .long g, .int (nI ko), .int (nI mw)])), (a0, .inl (ca 0, 512, .inl (fun z9 => nI (t z9).1))), (a1, .inl (ca 1, 512, .inl (fun z9 => (t z9).2))), (a2, .inl (ca 2, 65, .inl (fun z9 => nI (w z9).1))), (a3, .inl (ca 3, 65, .inr (.inl (fun z9 => (w z9).2.1)))), (a4, .inl (ca 4, 65, .inl (fun z9 => (w z9).2.2)))] s.heap := hP
  have hl := lv_entry ([.ref h0, .int (nI k), .long ck]) (n := 4) (Nat.le_of_ble_eq_true rfl)
  have hE : entryFrame m args 4 = F0 m 0 ((lg_sl ([.ref h0, .int (nI k), .long ck]) ++ List.replicate (4 - (lg_sl ([.ref h0, .int (nI k), .long ck])).length) Slot.unset).toArray) [] := by rw [hargs]; exact lg_entry_eq m ([.ref h0, .int (nI k), .long ck]) 4
  rw [hE]
  generalize (lg_sl ([.ref h0, .int (nI k), .long ck]) ++ List.replicate (4 - (lg_sl ([.ref h0, .int (nI k), .long ck])).length) Slot.unset).toArray = ls at hl ⊢
  have hl : lv_has ls 4 [(0, .ref h0), (1, .int (nI k)), (2, .long ck)] := hl
  refine lv_aload_n hx hb dX0_canComeThrough_0 rfl (lv_at hl 0 rfl) ?_
  refine va_get (D := (dC, dI)) (ci := 0) (v := .int (nI tn)) (C := RX0) (T := TX0) (N := 10) hx hb hts in_X0_canComeThrough_X0 hown hK hP 0 rfl rfl 2 (by decide) (hts (.fieldLink RX0 26 "CausalGate" "throughCount" "I") (by decide +kernel)) (fun _ h9 => h9) rfl dX0_canComeThrough_1 ?_
  refine lv_sipush (v := 512) hx hb dX0_canComeThrough_4 (by decide) ?_
  refine tp_i (y := nI 512) (rfl) ?_
  refine lv_icmp_ge (tgt := 24) hx hb dX0_canComeThrough_7 (by decide) (fun c_7 => ?_) (fun c_7 => ?_)
  · have c9 : ¬ tn < 512 := Nat.not_lt.mpr ((nI_leI (by omega) (by omega)).mp c_7)
    refine lv_iconst (v := 0) hx hb dX0_canComeThrough_24 (by decide) ?_
    exact rz_ret hx hb hr hlocks (rfl) (by simp [cn, bI, *]) dX0_canComeThrough_25
  · have c9 : tn < 512 := Nat.lt_of_not_le fun q => c_7 (nI_le q (by omega))
    refine lv_aload_n hx hb dX0_canComeThrough_10 rfl (lv_at hl 0 rfl) ?_
    refine lv_iload_n hx hb dX0_canComeThrough_11 rfl (lv_at hl 1 rfl) ?_
    refine lv_lload_n hx hb dX0_canComeThrough_12 rfl (lv_at hl 2 rfl) ?_
    refine rd_i (W.runV (As := [.int (nI k), .long ck]) (rest := []) ⟨hx, hb, hml, hown, hts⟩ (k_lackedActor l dC dI ca h0 a0 a1 a2 a3 a4 t tn w wn g ko mw k ck (by omega)) (cwV 2 hts gX0_canComeThrough_X0_lackedActor rfl rfl rfl (by decide +kernel) ⟨Nat.le_of_ble_eq_true rfl, Nat.le_of_ble_eq_true rfl⟩) (pr_V (ci := 0) (q0 := 0) hK hP rfl rfl) rfl rfl hl.1 rfl (lv_room (Nat.le_of_ble_eq_true rfl)) dX0_canComeThrough_13 ⟨Nat.zero_le _, Nat.zero_le _⟩) ?_
    refine lv_iconst (v := -1) hx hb dX0_canComeThrough_16 (by decide) ?_
    refine lv_icmp_ne (tgt := 24) hx hb dX0_canComeThrough_17 (by decide) (fun c_17 => ?_) (fun c_17 => ?_)
    · have c8 : ¬ lk g k ck = none := fun q => c_17 (by rw [q]; rfl)
      refine lv_iconst (v := 0) hx hb dX0_canComeThrough_24 (by decide) ?_
      exact rz_ret hx hb hr hlocks (rfl) (by simp [cn, bI, *]) dX0_canComeThrough_25
    · have c8 : lk g k ck = none := (oI_m1 (fun a h => Nat.lt_of_lt_of_le (lk_lt hk h) (by decide))).mp c_17
      refine lv_iconst (v := 1) hx hb dX0_canComeThrough_20 (by decide) ?_
      refine lv_goto (tgt := 25) hx hb dX0_canComeThrough_21 (by decide) ?_
      exact rz_ret hx hb hr hlocks (rfl) (by simp [cn, bI, *]) dX0_canComeThrough_25

set_option maxRecDepth 20000 in
theorem in_X0_firstThatCanComeThrough_X0 : ∀ w ∈ wsX00, w ∈ wsX0_firstThatCanComeThrough := by decide +kernel

set_option maxHeartbeats 4000000 in
set_option maxRecDepth 100000 in
theorem k_firstThatCanComeThrough (l : Launch) (dC : Nat → ClassId) (dI : Nat → Nat → Nat) (ca : Nat → ClassId) (h0 a0 a1 a2 a3 a4 : Nat) (t : TF) (tn : Nat) (w : WF) (wn : Nat) (g : Int64) (ko mw : Nat) (hwn : wn ≤ 65) (hw : ∀ j, j < wn → (w j).1 < 2048) (htn : tn ≤ 512) : Met l yX0_firstThatCanComeThrough wsX0_firstThatCanComeThrough ({ frames := 4, cells := 0, slots := 0, locals := 91 }) (Pr [.ref h0] (dC, dI) clS [(ca 0, .int), (ca 1, .int), (ca 2, .int), (ca 3, .long), (ca 4, .int)] [(h0, .inr (0, [.ref a0, .ref a1, .int (nI tn), .ref a2, .ref a3, .ref a4, .int (nI wn), .long g, .int (nI ko), .int (nI mw)])), (a0, .inl (ca 0, 512, .inl (fun z9 => nI (t z9).1))), (a1, .inl (ca 1, 512, .inl (fun z9 => (t z9).2))), (a2, .inl (ca 2, 65, .inl (fun z9 => nI (w z9).1))), (a3, .inl (ca 3, 65, .inr (.inl (fun z9 => (w z9).2.1)))), (a4, .inl (ca 4, 65, .inl (fun z9 => (w z9).2.2)))]) (QcRead (oI (fs tn g w wn 0))) 0 0 (fun _ => False) := by
  refine Met.ofW (cc := cX0_firstThatCanComeThrough) (maxL := 2) (ret := (some .int)) (by decide) rfl ?_
  intro p e s m args below meth c s₁ B hml hv
  obtain ⟨hargs, hP, hK⟩ := hv
  have hx := B.exec
  have hb := B.bytes
  have hr := B.returns
  have hts := atoms_spec (ws := wsX0_firstThatCanComeThrough) B.pre
  have hown : s.vm.findClass RX0 = some m.cls := findClass_of_methodNamed B.named
  have hlocks := B.notSynchronized
  have hP : va_P (dC, dI) clS [(h0, .inr (0, [.ref a0, .ref a1, .int (nI tn), .ref a2, .ref a3, .ref a4, .int (nI wn), .long g, .int (nI ko), .int (nI mw)])), (a0, .inl (ca 0, 512, .inl (fun z9 => nI (t z9).1))), (a1, .inl (ca 1, 512, .inl (fun z9 => (t z9).2))), (a2, .inl (ca 2, 65, .inl (fun z9 => nI (w z9).1))), (a3, .inl (ca 3, 65, .inr (.inl (fun z9 => (w z9).2.1)))), (a4, .inl (ca 4, 65, .inl (fun z9 => (w z9).2.2)))] s.heap := hP
  have hl := lv_entry ([.ref h0]) (n := 2) (Nat.le_of_ble_eq_true rfl)
  have hE : entryFrame m args 2 = F0 m 0 ((lg_sl ([.ref h0]) ++ List.replicate (2 - (lg_sl ([.ref h0])).length) Slot.unset).toArray) [] := by rw [hargs]; exact lg_entry_eq m ([.ref h0]) 2
  rw [hE]
  generalize (lg_sl ([.ref h0]) ++ List.replicate (2 - (lg_sl ([.ref h0])).length) Slot.unset).toArray = ls at hl ⊢
  have hl : lv_has ls 2 [(0, .ref h0)] := hl
  refine lv_iconst (v := 0) hx hb dX0_firstThatCanComeThrough_0 (by decide) ?_
  refine tp_i (y := nI 0) (nI_0.symm) ?_
  refine lv_istore_n (lv' := [(1, .int (nI 0)), (0, .ref h0)]) hx hb dX0_firstThatCanComeThrough_1 rfl hl (by decide) rfl (fun ls hl => ?_)
  have loop : ∀ (n : Nat) (j : Nat), j + n = wn → fs tn g w n j = fs tn g w wn 0 → ∀ ls : Array Slot, lv_has ls 2 [(0, .ref h0), (1, .int (nI j))] → W p l e (headSpec wsX0_firstThatCanComeThrough ({ frames := 4, cells := 0, slots := 0, locals := 91 })).room s m args below meth c s.heap [] 0 0 (MQ below (QcRead (oI (fs tn g w wn 0))) args s 0 0 (fun _ => False)) (F0 m 2 ls []) := by
    intro n
    induction n with
    | zero =>
      intro j hj hk9 ls hl
      refine lv_iload_n hx hb dX0_firstThatCanComeThrough_2 rfl (lv_at hl 1 rfl) ?_
      refine lv_aload_n hx hb dX0_firstThatCanComeThrough_3 rfl (lv_at hl 0 rfl) ?_
      refine va_get (D := (dC, dI)) (ci := 0) (v := .int (nI wn)) (C := RX0) (T := TX0) (N := 10) hx hb hts in_X0_firstThatCanComeThrough_X0 hown hK hP 0 rfl rfl 6 (by decide) (hts (.fieldLink RX0 30 "CausalGate" "waitCount" "I") (by decide +kernel)) (fun _ h9 => h9) rfl dX0_firstThatCanComeThrough_4 ?_
      refine lv_icmp_ge (tgt := 37) hx hb dX0_firstThatCanComeThrough_7 (by decide) (fun c_7 => ?_) (fun c_7 => ?_)
      · refine lv_iconst (v := -1) hx hb dX0_firstThatCanComeThrough_37 (by decide) ?_
        exact ri_ret hx hb hr hlocks (by rw [← hk9]; rfl) dX0_firstThatCanComeThrough_38
      · exact absurd (nI_le (by omega) (by omega)) c_7
    | succ n ih =>
      intro j hj hk9 ls hl
      refine lv_iload_n hx hb dX0_firstThatCanComeThrough_2 rfl (lv_at hl 1 rfl) ?_
      refine lv_aload_n hx hb dX0_firstThatCanComeThrough_3 rfl (lv_at hl 0 rfl) ?_
      refine va_get (D := (dC, dI)) (ci := 0) (v := .int (nI wn)) (C := RX0) (T := TX0) (N := 10) hx hb hts in_X0_firstThatCanComeThrough_X0 hown hK hP 0 rfl rfl 6 (by decide) (hts (.fieldLink RX0 30 "CausalGate" "waitCount" "I") (by decide +kernel)) (fun _ h9 => h9) rfl dX0_firstThatCanComeThrough_4 ?_
      refine lv_icmp_ge (tgt := 37) hx hb dX0_firstThatCanComeThrough_7 (by decide) (fun c_7 => ?_) (fun c_7 => ?_)
      · exact absurd ((nI_leI (by omega) (by omega)).mp c_7) (by omega)
      · refine lv_aload_n hx hb dX0_firstThatCanComeThrough_10 rfl (lv_at hl 0 rfl) ?_
        refine lv_aload_n hx hb dX0_firstThatCanComeThrough_11 rfl (lv_at hl 0 rfl) ?_
        refine va_get (D := (dC, dI)) (ci := 0) (v := .ref a2) (C := RX0) (T := TX0) (N := 10) hx hb hts in_X0_firstThatCanComeThrough_X0 hown hK hP 0 rfl rfl 3 (by decide) (hts (.fieldLink RX0 16 "CausalGate" "waitKeys" "[I") (by decide +kernel)) (fun _ h9 => h9) rfl dX0_firstThatCanComeThrough_12 ?_
        refine lv_iload_n hx hb dX0_firstThatCanComeThrough_15 rfl (lv_at hl 1 rfl) ?_
        refine va_iald hx hb hK hP 3 2 rfl rfl (vp_in_nI (by omega) (by decide)) dX0_firstThatCanComeThrough_16 ?_
        refine tp_i (y := nI (w j).1) (by rw [nI_clamp (by omega)]) ?_
        have hwj := hw _ (show j < wn by omega)
        refine lv_aload_n hx hb dX0_firstThatCanComeThrough_17 rfl (lv_at hl 0 rfl) ?_
        refine va_get (D := (dC, dI)) (ci := 0) (v := .ref a3) (C := RX0) (T := TX0) (N := 10) hx hb hts in_X0_firstThatCanComeThrough_X0 hown hK hP 0 rfl rfl 4 (by decide) (hts (.fieldLink RX0 19 "CausalGate" "waitClocks" "[J") (by decide +kernel)) (fun _ h9 => h9) rfl dX0_firstThatCanComeThrough_18 ?_
        refine lv_iload_n hx hb dX0_firstThatCanComeThrough_21 rfl (lv_at hl 1 rfl) ?_
        refine va_lald hx hb hK hP 4 3 rfl rfl (vp_in_nI (by omega) (by decide)) dX0_firstThatCanComeThrough_22 ?_
        refine tp_l (y := (w j).2.1) (by rw [nI_clamp (by omega)]) ?_
        refine rd_i (W.runV (As := [.int (nI (w j).1), .long ((w j).2.1)]) (rest := []) ⟨hx, hb, hml, hown, hts⟩ (k_canComeThrough l dC dI ca h0 a0 a1 a2 a3 a4 t tn w wn g ko mw ((w j).1) ((w j).2.1) (by omega) (by omega)) (cwV 2 hts gX0_firstThatCanComeThrough_X0_canComeThrough rfl rfl rfl (by decide +kernel) ⟨Nat.le_of_ble_eq_true rfl, Nat.le_of_ble_eq_true rfl⟩) (pr_V (ci := 0) (q0 := 0) hK hP rfl rfl) rfl rfl hl.1 rfl (lv_room (Nat.le_of_ble_eq_true rfl)) dX0_firstThatCanComeThrough_23 ⟨Nat.zero_le _, Nat.zero_le _⟩) ?_
        refine lv_if_eq (tgt := 31) hx hb dX0_firstThatCanComeThrough_26 (by decide) (fun c_26 => ?_) (fun c_26 => ?_)
        · have c8 : ¬ cn tn g (w j).1 (w j).2.1 = true := by rw [bI_0.mp c_26]; decide
          refine lv_iinc (v := (nI (j + 1))) (lv' := [(1, .int (nI (j + 1))), (0, .ref h0)]) hx hb dX0_firstThatCanComeThrough_31 hl (k := 1) rfl (nI_1 j) (by decide) rfl (fun ls hl => ?_)
          refine lv_goto (tgt := 2) hx hb dX0_firstThatCanComeThrough_34 (by decide) ?_
          exact ih (j + 1) (by omega) (by rw [← hk9]; simp only [fs]; rw [if_neg c8]) ls (lv_sub hl [1, 0] rfl)
        · have c8 : cn tn g (w j).1 (w j).2.1 = true := by cases hq : cn tn g (w j).1 (w j).2.1; exact absurd (by rw [hq]; rfl) c_26; rfl
          refine lv_iload_n hx hb dX0_firstThatCanComeThrough_29 rfl (lv_at hl 1 rfl) ?_
          exact ri_ret hx hb hr hlocks (by rw [← hk9]; simp only [fs]; rw [if_pos c8]; rfl) dX0_firstThatCanComeThrough_30
  exact loop wn 0 (by omega) rfl ls (lv_sub hl [1, 0] rfl)
end
section
set_option maxRecDepth 20000 in
theorem in_X0_known_X0 : ∀ w ∈ wsX00, w ∈ wsX0_known := by decide +kernel

set_option maxHeartbeats 4000000 in
set_option maxRecDepth 100000 in
theorem k_known (l : Launch) (dC : Nat → ClassId) (dI : Nat → Nat → Nat) (ca : Nat → ClassId) (h0 a0 a1 a2 a3 a4 : Nat) (t : TF) (tn : Nat) (w : WF) (wn : Nat) (g : Int64) (ko mw : Nat) (hwn : wn ≤ 65) (hw : ∀ j, j < wn → (w j).1 < 2048) (x y : Int32) : Met l yX0_known wsX0_known ({ frames := 3, cells := 0, slots := 0, locals := 65 }) (Pr [.ref h0, .int x, .int y] (dC, dI) clS [(ca 0, .int), (ca 1, .int), (ca 2, .int), (ca 3, .long), (ca 4, .int)] [(h0, .inr (0, [.ref a0, .ref a1, .int (nI tn), .ref a2, .ref a3, .ref a4, .int (nI wn), .long g, .int (nI ko), .int (nI mw)])), (a0, .inl (ca 0, 512, .inl (fun z9 => nI (t z9).1))), (a1, .inl (ca 1, 512, .inl (fun z9 => (t z9).2))), (a2, .inl (ca 2, 65, .inl (fun z9 => nI (w z9).1))), (a3, .inl (ca 3, 65, .inr (.inl (fun z9 => (w z9).2.1)))), (a4, .inl (ca 4, 65, .inl (fun z9 => (w z9).2.2)))]) (QcRead (bI (knw g w wn x y))) 0 0 (fun _ => False) := by
  refine Met.ofW (cc := cX0_known) (maxL := 3) (ret := (some .boolean)) (by decide) rfl ?_
  intro p e s m args below meth c s₁ B hml hv
  obtain ⟨hargs, hP, hK⟩ := hv
  have hx := B.exec
  have hb := B.bytes
  have hr := B.returns
  have hts := atoms_spec (ws := wsX0_known) B.pre
  have hown : s.vm.findClass RX0 = some m.cls := findClass_of_methodNamed B.named
  have hlocks := B.notSynchronized
  have hP : va_P (dC, dI) clS [(h0, .inr (0, [.ref a0, .ref a1, .int (nI tn), .ref a2, .ref a3, .ref a4, .int (nI wn), .long g, .int (nI ko), .int (nI mw)])), (a0, .inl (ca 0, 512, .inl (fun z9 => nI (t z9).1))), (a1, .inl (ca 1, 512, .inl (fun z9 => (t z9).2))), (a2, .inl (ca 2, 65, .inl (fun z9 => nI (w z9).1))), (a3, .inl (ca 3, 65, .inr (.inl (fun z9 => (w z9).2.1)))), (a4, .inl (ca 4, 65, .inl (fun z9 => (w z9).2.2)))] s.heap := hP
  have hl := lv_entry ([.ref h0, .int x, .int y]) (n := 3) (Nat.le_of_ble_eq_true rfl)
  have hE : entryFrame m args 3 = F0 m 0 ((lg_sl ([.ref h0, .int x, .int y]) ++ List.replicate (3 - (lg_sl ([.ref h0, .int x, .int y])).length) Slot.unset).toArray) [] := by rw [hargs]; exact lg_entry_eq m ([.ref h0, .int x, .int y]) 3
  rw [hE]
  generalize (lg_sl ([.ref h0, .int x, .int y]) ++ List.replicate (3 - (lg_sl ([.ref h0, .int x, .int y])).length) Slot.unset).toArray = ls at hl ⊢
  have hl : lv_has ls 3 [(0, .ref h0), (1, .int x), (2, .int y)] := hl
  refine lv_iload_n hx hb dX0_known_0 rfl (lv_at hl 1 rfl) ?_
  refine rd_i (W.runS (As := [.int x]) (rest := []) ⟨hx, hb, hml, hown, hts⟩ (k_isActor l x) (va_cwS 1 hts gX0_known_X0_isActor rfl rfl rfl (by decide +kernel) ⟨Nat.le_of_ble_eq_true rfl, Nat.le_of_ble_eq_true rfl⟩) preEq rfl rfl hl.1 rfl (lv_room (Nat.le_of_ble_eq_true rfl)) dX0_known_1 ⟨Nat.zero_le _, Nat.zero_le _⟩) ?_
  refine lv_if_eq (tgt := 30) hx hb dX0_known_4 (by decide) (fun c_4 => ?_) (fun c_4 => ?_)
  · have e9 : knw g w wn x y = false := by simp [knw, bI_0.mp c_4]
    refine lv_iconst (v := 0) hx hb dX0_known_30 (by decide) ?_
    exact rz_ret hx hb hr hlocks (rfl) (by rw [e9]; rfl) dX0_known_31
  · have c9 : isA x = true := by cases hq : isA x; exact absurd (by rw [hq]; rfl) c_4; rfl
    obtain ⟨a, ha, rfl⟩ := isA_nI c9
    refine lv_iload_n hx hb dX0_known_7 rfl (lv_at hl 2 rfl) ?_
    refine rd_i (W.runS (As := [.int y]) (rest := []) ⟨hx, hb, hml, hown, hts⟩ (k_isSeq l y) (va_cwS 1 hts gX0_known_X0_isSeq rfl rfl rfl (by decide +kernel) ⟨Nat.le_of_ble_eq_true rfl, Nat.le_of_ble_eq_true rfl⟩) preEq rfl rfl hl.1 rfl (lv_room (Nat.le_of_ble_eq_true rfl)) dX0_known_8 ⟨Nat.zero_le _, Nat.zero_le _⟩) ?_
    refine lv_if_eq (tgt := 30) hx hb dX0_known_11 (by decide) (fun c_11 => ?_) (fun c_11 => ?_)
    · have e9 : knw g w wn (nI a) y = false := by simp [knw, bI_0.mp c_11]
      refine lv_iconst (v := 0) hx hb dX0_known_30 (by decide) ?_
      exact rz_ret hx hb hr hlocks (rfl) (by rw [e9]; rfl) dX0_known_31
    · have c8 : isS y = true := by cases hq : isS y; exact absurd (by rw [hq]; rfl) c_11; rfl
      obtain ⟨q, hq1, hq, rfl⟩ := isS_nI c8
      refine lv_aload_n hx hb dX0_known_14 rfl (lv_at hl 0 rfl) ?_
      refine lv_iload_n hx hb dX0_known_15 rfl (lv_at hl 1 rfl) ?_
      refine lv_iload_n hx hb dX0_known_16 rfl (lv_at hl 2 rfl) ?_
      refine rd_i (W.runS (As := [.int (nI a), .int (nI q)]) (rest := [.ref h0]) ⟨hx, hb, hml, hown, hts⟩ (k_keyOf l a q (by omega) (by omega)) (va_cwS 2 hts gX0_known_X0_keyOf rfl rfl rfl (by decide +kernel) ⟨Nat.le_of_ble_eq_true rfl, Nat.le_of_ble_eq_true rfl⟩) preEq rfl rfl hl.1 rfl (lv_room (Nat.le_of_ble_eq_true rfl)) dX0_known_17 ⟨Nat.zero_le _, Nat.zero_le _⟩) ?_
      refine rd_i (W.runV (As := [.int (nI (a * 256 + q))]) (rest := []) ⟨hx, hb, hml, hown, hts⟩ (k_isKnown l dC dI ca h0 a0 a1 a2 a3 a4 t tn w wn g ko mw hwn hw (a * 256 + q) (by omega)) (cwV 1 hts gX0_known_X0_isKnown rfl rfl rfl (by decide +kernel) ⟨Nat.le_of_ble_eq_true rfl, Nat.le_of_ble_eq_true rfl⟩) (pr_V (ci := 0) (q0 := 0) hK hP rfl rfl) rfl rfl hl.1 rfl (lv_room (Nat.le_of_ble_eq_true rfl)) dX0_known_20 ⟨Nat.zero_le _, Nat.zero_le _⟩) ?_
      refine lv_if_eq (tgt := 30) hx hb dX0_known_23 (by decide) (fun c_23 => ?_) (fun c_23 => ?_)
      · have e9 : knw g w wn (nI a) (nI q) = false := by simp [knw, c9, c8, nI_clamp (show a < 2 ^ 31 by omega), nI_clamp (show q < 2 ^ 31 by omega), bI_0.mp c_23]
        refine lv_iconst (v := 0) hx hb dX0_known_30 (by decide) ?_
        exact rz_ret hx hb hr hlocks (rfl) (by rw [e9]; rfl) dX0_known_31
      · have e9 : knw g w wn (nI a) (nI q) = true := by simp only [knw, c9, c8, nI_clamp (show a < 2 ^ 31 by omega), nI_clamp (show q < 2 ^ 31 by omega)]; cases hq9 : kn g w wn (a * 256 + q); exact absurd (by rw [hq9]; rfl) c_23; rfl
        refine lv_iconst (v := 1) hx hb dX0_known_26 (by decide) ?_
        refine lv_goto (tgt := 31) hx hb dX0_known_27 (by decide) ?_
        exact rz_ret hx hb hr hlocks (rfl) (by rw [e9]; rfl) dX0_known_31

set_option maxRecDepth 20000 in
theorem in_X0_clock_X0 : ∀ w ∈ wsX00, w ∈ wsX0_clock := by decide +kernel

set_option maxHeartbeats 4000000 in
set_option maxRecDepth 100000 in
theorem k_clock (l : Launch) (dC : Nat → ClassId) (dI : Nat → Nat → Nat) (ca : Nat → ClassId) (h0 a0 a1 a2 a3 a4 : Nat) (t : TF) (tn : Nat) (w : WF) (wn : Nat) (g : Int64) (ko mw : Nat)  : Met l yX0_clock wsX0_clock ({ frames := 0, cells := 0, slots := 0, locals := 0 }) (Pr [.ref h0] (dC, dI) clS [(ca 0, .int), (ca 1, .int), (ca 2, .int), (ca 3, .long), (ca 4, .int)] [(h0, .inr (0, [.ref a0, .ref a1, .int (nI tn), .ref a2, .ref a3, .ref a4, .int (nI wn), .long g, .int (nI ko), .int (nI mw)])), (a0, .inl (ca 0, 512, .inl (fun z9 => nI (t z9).1))), (a1, .inl (ca 1, 512, .inl (fun z9 => (t z9).2))), (a2, .inl (ca 2, 65, .inl (fun z9 => nI (w z9).1))), (a3, .inl (ca 3, 65, .inr (.inl (fun z9 => (w z9).2.1)))), (a4, .inl (ca 4, 65, .inl (fun z9 => (w z9).2.2)))]) (QcReadL g) 0 0 (fun _ => False) := by
  refine Met.ofW (cc := cX0_clock) (maxL := 1) (ret := (some .long)) (by decide) rfl ?_
  intro p e s m args below meth c s₁ B hml hv
  obtain ⟨hargs, hP, hK⟩ := hv
  have hx := B.exec
  have hb := B.bytes
  have hr := B.returns
  have hts := atoms_spec (ws := wsX0_clock) B.pre
  have hown : s.vm.findClass RX0 = some m.cls := findClass_of_methodNamed B.named
  have hlocks := B.notSynchronized
  have hP : va_P (dC, dI) clS [(h0, .inr (0, [.ref a0, .ref a1, .int (nI tn), .ref a2, .ref a3, .ref a4, .int (nI wn), .long g, .int (nI ko), .int (nI mw)])), (a0, .inl (ca 0, 512, .inl (fun z9 => nI (t z9).1))), (a1, .inl (ca 1, 512, .inl (fun z9 => (t z9).2))), (a2, .inl (ca 2, 65, .inl (fun z9 => nI (w z9).1))), (a3, .inl (ca 3, 65, .inr (.inl (fun z9 => (w z9).2.1)))), (a4, .inl (ca 4, 65, .inl (fun z9 => (w z9).2.2)))] s.heap := hP
  have hl := lv_entry ([.ref h0]) (n := 1) (Nat.le_of_ble_eq_true rfl)
  have hE : entryFrame m args 1 = F0 m 0 ((lg_sl ([.ref h0]) ++ List.replicate (1 - (lg_sl ([.ref h0])).length) Slot.unset).toArray) [] := by rw [hargs]; exact lg_entry_eq m ([.ref h0]) 1
  rw [hE]
  generalize (lg_sl ([.ref h0]) ++ List.replicate (1 - (lg_sl ([.ref h0])).length) Slot.unset).toArray = ls at hl ⊢
  have hl : lv_has ls 1 [(0, .ref h0)] := hl
  refine lv_aload_n hx hb dX0_clock_0 rfl (lv_at hl 0 rfl) ?_
  refine va_get (D := (dC, dI)) (ci := 0) (v := .long g) (C := RX0) (T := TX0) (N := 10) hx hb hts in_X0_clock_X0 hown hK hP 0 rfl rfl 7 (by decide) (hts (.fieldLink RX0 33 "CausalGate" "gateClock" "J") (by decide +kernel)) (fun _ h9 => h9) rfl dX0_clock_1 ?_
  exact rl_ret hx hb hr hlocks (rfl) dX0_clock_4

set_option maxRecDepth 20000 in
theorem in_X0_look_X0 : ∀ w ∈ wsX00, w ∈ wsX0_look := by decide +kernel

set_option maxHeartbeats 4000000 in
set_option maxRecDepth 100000 in
theorem k_look (l : Launch) (dC : Nat → ClassId) (dI : Nat → Nat → Nat) (ca : Nat → ClassId) (h0 a0 a1 a2 a3 a4 : Nat) (t : TF) (tn : Nat) (w : WF) (wn : Nat) (g : Int64) (ko mw : Nat) (x : Int32) : Met l yX0_look wsX0_look ({ frames := 0, cells := 0, slots := 0, locals := 0 }) (Pr [.ref h0, .int x] (dC, dI) clS [(ca 0, .int), (ca 1, .int), (ca 2, .int), (ca 3, .long), (ca 4, .int)] [(h0, .inr (0, [.ref a0, .ref a1, .int (nI tn), .ref a2, .ref a3, .ref a4, .int (nI wn), .long g, .int (nI ko), .int (nI mw)])), (a0, .inl (ca 0, 512, .inl (fun z9 => nI (t z9).1))), (a1, .inl (ca 1, 512, .inl (fun z9 => (t z9).2))), (a2, .inl (ca 2, 65, .inl (fun z9 => nI (w z9).1))), (a3, .inl (ca 3, 65, .inr (.inl (fun z9 => (w z9).2.1)))), (a4, .inl (ca 4, 65, .inl (fun z9 => (w z9).2.2)))]) (QcRead (lok tn wn ko mw x)) 0 0 (fun _ => False) := by
  refine Met.ofW (cc := cX0_look) (maxL := 2) (ret := (some .int)) (by decide) rfl ?_
  intro p e s m args below meth c s₁ B hml hv
  obtain ⟨hargs, hP, hK⟩ := hv
  have hx := B.exec
  have hb := B.bytes
  have hr := B.returns
  have hts := atoms_spec (ws := wsX0_look) B.pre
  have hown : s.vm.findClass RX0 = some m.cls := findClass_of_methodNamed B.named
  have hlocks := B.notSynchronized
  have hP : va_P (dC, dI) clS [(h0, .inr (0, [.ref a0, .ref a1, .int (nI tn), .ref a2, .ref a3, .ref a4, .int (nI wn), .long g, .int (nI ko), .int (nI mw)])), (a0, .inl (ca 0, 512, .inl (fun z9 => nI (t z9).1))), (a1, .inl (ca 1, 512, .inl (fun z9 => (t z9).2))), (a2, .inl (ca 2, 65, .inl (fun z9 => nI (w z9).1))), (a3, .inl (ca 3, 65, .inr (.inl (fun z9 => (w z9).2.1)))), (a4, .inl (ca 4, 65, .inl (fun z9 => (w z9).2.2)))] s.heap := hP
  have hl := lv_entry ([.ref h0, .int x]) (n := 2) (Nat.le_of_ble_eq_true rfl)
  have hE : entryFrame m args 2 = F0 m 0 ((lg_sl ([.ref h0, .int x]) ++ List.replicate (2 - (lg_sl ([.ref h0, .int x])).length) Slot.unset).toArray) [] := by rw [hargs]; exact lg_entry_eq m ([.ref h0, .int x]) 2
  rw [hE]
  generalize (lg_sl ([.ref h0, .int x]) ++ List.replicate (2 - (lg_sl ([.ref h0, .int x])).length) Slot.unset).toArray = ls at hl ⊢
  have hl : lv_has ls 2 [(0, .ref h0), (1, .int x)] := hl
  refine lv_iload_n hx hb dX0_look_0 rfl (lv_at hl 1 rfl) ?_
  by_cases s1_0 : x = 0
  · refine lv_tableIn (off := 31) (tgt := 32) hx hb dX0_look_1 (by rw [s1_0]; decide) (by rw [s1_0]; decide) (by rw [s1_0]; rfl) (by decide) ?_
    refine lv_aload_n hx hb dX0_look_32 rfl (lv_at hl 0 rfl) ?_
    refine va_get (D := (dC, dI)) (ci := 0) (v := .int (nI tn)) (C := RX0) (T := TX0) (N := 10) hx hb hts in_X0_look_X0 hown hK hP 0 rfl rfl 2 (by decide) (hts (.fieldLink RX0 26 "CausalGate" "throughCount" "I") (by decide +kernel)) (fun _ h9 => h9) rfl dX0_look_33 ?_
    exact ri_ret hx hb hr hlocks (by simp [lok, *]) dX0_look_36
  by_cases s1_1 : x = 1
  · refine lv_tableIn (off := 36) (tgt := 37) hx hb dX0_look_1 (by rw [s1_1]; decide) (by rw [s1_1]; decide) (by rw [s1_1]; rfl) (by decide) ?_
    refine lv_aload_n hx hb dX0_look_37 rfl (lv_at hl 0 rfl) ?_
    refine va_get (D := (dC, dI)) (ci := 0) (v := .int (nI wn)) (C := RX0) (T := TX0) (N := 10) hx hb hts in_X0_look_X0 hown hK hP 0 rfl rfl 6 (by decide) (hts (.fieldLink RX0 30 "CausalGate" "waitCount" "I") (by decide +kernel)) (fun _ h9 => h9) rfl dX0_look_38 ?_
    exact ri_ret hx hb hr hlocks (by simp [lok, *]) dX0_look_41
  by_cases s1_2 : x = 2
  · refine lv_tableIn (off := 41) (tgt := 42) hx hb dX0_look_1 (by rw [s1_2]; decide) (by rw [s1_2]; decide) (by rw [s1_2]; rfl) (by decide) ?_
    refine lv_aload_n hx hb dX0_look_42 rfl (lv_at hl 0 rfl) ?_
    refine va_get (D := (dC, dI)) (ci := 0) (v := .int (nI ko)) (C := RX0) (T := TX0) (N := 10) hx hb hts in_X0_look_X0 hown hK hP 0 rfl rfl 8 (by decide) (hts (.fieldLink RX0 37 "CausalGate" "knownOffers" "I") (by decide +kernel)) (fun _ h9 => h9) rfl dX0_look_43 ?_
    exact ri_ret hx hb hr hlocks (by simp [lok, *]) dX0_look_46
  by_cases s1_3 : x = 3
  · refine lv_tableIn (off := 46) (tgt := 47) hx hb dX0_look_1 (by rw [s1_3]; decide) (by rw [s1_3]; decide) (by rw [s1_3]; rfl) (by decide) ?_
    refine lv_aload_n hx hb dX0_look_47 rfl (lv_at hl 0 rfl) ?_
    refine va_get (D := (dC, dI)) (ci := 0) (v := .int (nI mw)) (C := RX0) (T := TX0) (N := 10) hx hb hts in_X0_look_X0 hown hK hP 0 rfl rfl 9 (by decide) (hts (.fieldLink RX0 40 "CausalGate" "mostWaited" "I") (by decide +kernel)) (fun _ h9 => h9) rfl dX0_look_48 ?_
    exact ri_ret hx hb hr hlocks (by simp [lok, *]) dX0_look_51
  refine lv_tableOut (tgt := 52) hx hb dX0_look_1 (by have := lv_neT s1_0 (a := 0) (by decide); have := lv_neT s1_1 (a := 1) (by decide); have := lv_neT s1_2 (a := 2) (by decide); have := lv_neT s1_3 (a := 3) (by decide); omega) (by decide) ?_
  refine lv_iconst (v := -1) hx hb dX0_look_52 (by decide) ?_
  exact ri_ret hx hb hr hlocks (by simp [lok, *]) dX0_look_53

set_option maxRecDepth 20000 in
theorem in_X0_ahead_X0 : ∀ w ∈ wsX00, w ∈ wsX0_ahead := by decide +kernel

set_option maxHeartbeats 4000000 in
set_option maxRecDepth 100000 in
theorem k_ahead (l : Launch) (dC : Nat → ClassId) (dI : Nat → Nat → Nat) (ca : Nat → ClassId) (h0 a0 a1 a2 a3 a4 : Nat) (t : TF) (tn : Nat) (w : WF) (wn : Nat) (g : Int64) (ko mw : Nat) (ck : Int64) : Met l yX0_ahead wsX0_ahead ({ frames := 1, cells := 0, slots := 0, locals := 22 }) (Pr [.ref h0, .long ck] (dC, dI) clS [(ca 0, .int), (ca 1, .int), (ca 2, .int), (ca 3, .long), (ca 4, .int)] [(h0, .inr (0, [.ref a0, .ref a1, .int (nI tn), .ref a2, .ref a3, .ref a4, .int (nI wn), .long g, .int (nI ko), .int (nI mw)])), (a0, .inl (ca 0, 512, .inl (fun z9 => nI (t z9).1))), (a1, .inl (ca 1, 512, .inl (fun z9 => (t z9).2))), (a2, .inl (ca 2, 65, .inl (fun z9 => nI (w z9).1))), (a3, .inl (ca 3, 65, .inr (.inl (fun z9 => (w z9).2.1)))), (a4, .inl (ca 4, 65, .inl (fun z9 => (w z9).2.2)))]) (QcRead (nI (ahS g ck 8 0 0))) 0 0 (fun _ => False) := by
  refine Met.ofW (cc := cX0_ahead) (maxL := 5) (ret := (some .int)) (by decide) rfl ?_
  intro p e s m args below meth c s₁ B hml hv
  obtain ⟨hargs, hP, hK⟩ := hv
  have hx := B.exec
  have hb := B.bytes
  have hr := B.returns
  have hts := atoms_spec (ws := wsX0_ahead) B.pre
  have hown : s.vm.findClass RX0 = some m.cls := findClass_of_methodNamed B.named
  have hlocks := B.notSynchronized
  have hP : va_P (dC, dI) clS [(h0, .inr (0, [.ref a0, .ref a1, .int (nI tn), .ref a2, .ref a3, .ref a4, .int (nI wn), .long g, .int (nI ko), .int (nI mw)])), (a0, .inl (ca 0, 512, .inl (fun z9 => nI (t z9).1))), (a1, .inl (ca 1, 512, .inl (fun z9 => (t z9).2))), (a2, .inl (ca 2, 65, .inl (fun z9 => nI (w z9).1))), (a3, .inl (ca 3, 65, .inr (.inl (fun z9 => (w z9).2.1)))), (a4, .inl (ca 4, 65, .inl (fun z9 => (w z9).2.2)))] s.heap := hP
  have hl := lv_entry ([.ref h0, .long ck]) (n := 5) (Nat.le_of_ble_eq_true rfl)
  have hE : entryFrame m args 5 = F0 m 0 ((lg_sl ([.ref h0, .long ck]) ++ List.replicate (5 - (lg_sl ([.ref h0, .long ck])).length) Slot.unset).toArray) [] := by rw [hargs]; exact lg_entry_eq m ([.ref h0, .long ck]) 5
  rw [hE]
  generalize (lg_sl ([.ref h0, .long ck]) ++ List.replicate (5 - (lg_sl ([.ref h0, .long ck])).length) Slot.unset).toArray = ls at hl ⊢
  have hl : lv_has ls 5 [(0, .ref h0), (1, .long ck)] := hl
  refine lv_iconst (v := 0) hx hb dX0_ahead_0 (by decide) ?_
  refine tp_i (y := nI 0) (nI_0.symm) ?_
  refine lv_istore_n (lv' := [(3, .int (nI 0)), (0, .ref h0), (1, .long ck)]) hx hb dX0_ahead_1 rfl hl (by decide) rfl (fun ls hl => ?_)
  refine lv_iconst (v := 0) hx hb dX0_ahead_2 (by decide) ?_
  refine tp_i (y := nI 0) (nI_0.symm) ?_
  refine lv_istore (lv' := [(4, .int (nI 0)), (3, .int (nI 0)), (0, .ref h0), (1, .long ck)]) hx hb dX0_ahead_3 hl (by decide) rfl (fun ls hl => ?_)
  have loop : ∀ (n : Nat) (a x : Nat), a + n = 8 → ahS g ck n a x = ahS g ck 8 0 0 → ∀ ls : Array Slot, lv_has ls 5 [(0, .ref h0), (1, .long ck), (3, .int (nI x)), (4, .int (nI a))] → W p l e (headSpec wsX0_ahead ({ frames := 1, cells := 0, slots := 0, locals := 22 })).room s m args below meth c s.heap [] 0 0 (MQ below (QcRead (nI (ahS g ck 8 0 0))) args s 0 0 (fun _ => False)) (F0 m 5 ls []) := by
    intro n
    induction n with
    | zero =>
      intro a x ha hk9 ls hl
      refine lv_iload hx hb dX0_ahead_5 (lv_at hl 3 rfl) ?_
      refine lv_bipush (v := 8) hx hb dX0_ahead_7 (by decide) ?_
      refine tp_i (y := nI 8) (rfl) ?_
      refine lv_icmp_ge (tgt := 41) hx hb dX0_ahead_9 (by decide) (fun c_9 => ?_) (fun c_9 => ?_)
      · refine lv_iload_n hx hb dX0_ahead_41 rfl (lv_at hl 2 rfl) ?_
        exact ri_ret hx hb hr hlocks (by rw [← hk9]; rfl) dX0_ahead_42
      · exact absurd (nI_le (by omega) (by omega)) c_9
    | succ n ih =>
      intro a x ha hk9 ls hl
      refine lv_iload hx hb dX0_ahead_5 (lv_at hl 3 rfl) ?_
      refine lv_bipush (v := 8) hx hb dX0_ahead_7 (by decide) ?_
      refine tp_i (y := nI 8) (rfl) ?_
      refine lv_icmp_ge (tgt := 41) hx hb dX0_ahead_9 (by decide) (fun c_9 => ?_) (fun c_9 => ?_)
      · exact absurd ((nI_leI (by omega) (by omega)).mp c_9) (by omega)
      · refine lv_iload_n hx hb dX0_ahead_12 rfl (lv_at hl 2 rfl) ?_
        refine lv_iconst (v := 0) hx hb dX0_ahead_13 (by decide) ?_
        refine lv_aload_n hx hb dX0_ahead_14 rfl (lv_at hl 0 rfl) ?_
        refine va_get (D := (dC, dI)) (ci := 0) (v := .long g) (C := RX0) (T := TX0) (N := 10) hx hb hts in_X0_ahead_X0 hown hK hP 0 rfl rfl 7 (by decide) (hts (.fieldLink RX0 33 "CausalGate" "gateClock" "J") (by decide +kernel)) (fun _ h9 => h9) rfl dX0_ahead_15 ?_
        refine lv_iload hx hb dX0_ahead_18 (lv_at hl 3 rfl) ?_
        refine rd_i (W.runS (As := [.long g, .int (nI a)]) (rest := [.int 0, .int (nI x)]) ⟨hx, hb, hml, hown, hts⟩ (k_byteOf l g a (by omega)) (va_cwS 2 hts gX0_ahead_X0_byteOf rfl rfl rfl (by decide +kernel) ⟨Nat.le_of_ble_eq_true rfl, Nat.le_of_ble_eq_true rfl⟩) preEq rfl rfl hl.1 rfl (lv_room (Nat.le_of_ble_eq_true rfl)) dX0_ahead_20 ⟨Nat.zero_le _, Nat.zero_le _⟩) ?_
        refine lv_lload_n hx hb dX0_ahead_23 rfl (lv_at hl 1 rfl) ?_
        refine lv_iload hx hb dX0_ahead_24 (lv_at hl 3 rfl) ?_
        refine rd_i (W.runS (As := [.long ck, .int (nI a)]) (rest := [.int (nI (by_ g a)), .int 0, .int (nI x)]) ⟨hx, hb, hml, hown, hts⟩ (k_byteOf l ck a (by omega)) (va_cwS 2 hts gX0_ahead_X0_byteOf rfl rfl rfl (by decide +kernel) ⟨Nat.le_of_ble_eq_true rfl, Nat.le_of_ble_eq_true rfl⟩) preEq rfl rfl hl.1 rfl (lv_room (Nat.le_of_ble_eq_true rfl)) dX0_ahead_26 ⟨Nat.zero_le _, Nat.zero_le _⟩) ?_
        refine lv_isub hx hb dX0_ahead_29 ?_
        refine va_mmax hx hb (by rw [hml]; exact hl.1.symm) hown (hts (.methodLink RX0 81 Lib.Math.max.name) (by decide +kernel)) (hts (.static Lib.Math.max.name) (by decide +kernel)) (hts (.initialized "java/lang/Math") (by decide +kernel)) (hts (.code Lib.Math.max.name Lib.Math.max.code 2 (some .int)) (by decide +kernel)) (Nat.le_of_ble_eq_true rfl) (Nat.le_of_ble_eq_true rfl) (Nat.zero_le _) (Nat.zero_le _) dX0_ahead_30 ?_
        refine tp_i (y := nI (by_ g a - by_ ck a)) (mx_sub (by have := by_lt g a; omega) (by have := by_lt ck a; omega)) ?_
        refine lv_iadd hx hb dX0_ahead_33 ?_
        refine tp_i (y := nI (x + (by_ g a - by_ ck a))) (nI_add _ _) ?_
        refine lv_istore_n (lv' := [(3, .int (nI (x + (by_ g a - by_ ck a)))), (0, .ref h0), (1, .long ck), (4, .int (nI a))]) hx hb dX0_ahead_34 rfl hl (by decide) rfl (fun ls hl => ?_)
        refine lv_iinc (v := (nI (a + 1))) (lv' := [(4, .int (nI (a + 1))), (3, .int (nI (x + (by_ g a - by_ ck a)))), (0, .ref h0), (1, .long ck)]) hx hb dX0_ahead_35 hl (k := 3) rfl (nI_1 a) (by decide) rfl (fun ls hl => ?_)
        refine lv_goto (tgt := 5) hx hb dX0_ahead_38 (by decide) ?_
        exact ih (a + 1) (x + (by_ g a - by_ ck a)) (by omega) (by rw [← hk9]; rfl) ls (lv_sub hl [2, 3, 1, 0] rfl)
  exact loop 8 0 0 (by omega) rfl ls (lv_sub hl [2, 3, 1, 0] rfl)

set_option maxRecDepth 20000 in
theorem in_X0_next_X0 : ∀ w ∈ wsX00, w ∈ wsX0_next := by decide +kernel

set_option maxHeartbeats 4000000 in
set_option maxRecDepth 100000 in
theorem k_next (l : Launch) (dC : Nat → ClassId) (dI : Nat → Nat → Nat) (ca : Nat → ClassId) (h0 a0 a1 a2 a3 a4 : Nat) (t : TF) (tn : Nat) (w : WF) (wn : Nat) (g : Int64) (ko mw : Nat) (ck : Int64) (x : Int32) (htn : tn ≤ 512) (ht : ∀ j, j < tn → (t j).1 < 2048) : Met l yX0_next wsX0_next ({ frames := 1, cells := 0, slots := 0, locals := 22 }) (Pr [.ref h0, .long ck, .int x] (dC, dI) clS [(ca 0, .int), (ca 1, .int), (ca 2, .int), (ca 3, .long), (ca 4, .int)] [(h0, .inr (0, [.ref a0, .ref a1, .int (nI tn), .ref a2, .ref a3, .ref a4, .int (nI wn), .long g, .int (nI ko), .int (nI mw)])), (a0, .inl (ca 0, 512, .inl (fun z9 => nI (t z9).1))), (a1, .inl (ca 1, 512, .inl (fun z9 => (t z9).2))), (a2, .inl (ca 2, 65, .inl (fun z9 => nI (w z9).1))), (a3, .inl (ca 3, 65, .inr (.inl (fun z9 => (w z9).2.1)))), (a4, .inl (ca 4, 65, .inl (fun z9 => (w z9).2.2)))]) (QcRead (oI (nxt t tn ck x))) 0 0 (fun _ => False) := by
  refine Met.ofW (cc := cX0_next) (maxL := 6) (ret := (some .int)) (by decide) rfl ?_
  intro p e s m args below meth c s₁ B hml hv
  obtain ⟨hargs, hP, hK⟩ := hv
  have hx := B.exec
  have hb := B.bytes
  have hr := B.returns
  have hts := atoms_spec (ws := wsX0_next) B.pre
  have hown : s.vm.findClass RX0 = some m.cls := findClass_of_methodNamed B.named
  have hlocks := B.notSynchronized
  have hP : va_P (dC, dI) clS [(h0, .inr (0, [.ref a0, .ref a1, .int (nI tn), .ref a2, .ref a3, .ref a4, .int (nI wn), .long g, .int (nI ko), .int (nI mw)])), (a0, .inl (ca 0, 512, .inl (fun z9 => nI (t z9).1))), (a1, .inl (ca 1, 512, .inl (fun z9 => (t z9).2))), (a2, .inl (ca 2, 65, .inl (fun z9 => nI (w z9).1))), (a3, .inl (ca 3, 65, .inr (.inl (fun z9 => (w z9).2.1)))), (a4, .inl (ca 4, 65, .inl (fun z9 => (w z9).2.2)))] s.heap := hP
  have hl := lv_entry ([.ref h0, .long ck, .int x]) (n := 6) (Nat.le_of_ble_eq_true rfl)
  have hE : entryFrame m args 6 = F0 m 0 ((lg_sl ([.ref h0, .long ck, .int x]) ++ List.replicate (6 - (lg_sl ([.ref h0, .long ck, .int x])).length) Slot.unset).toArray) [] := by rw [hargs]; exact lg_entry_eq m ([.ref h0, .long ck, .int x]) 6
  rw [hE]
  generalize (lg_sl ([.ref h0, .long ck, .int x]) ++ List.replicate (6 - (lg_sl ([.ref h0, .long ck, .int x])).length) Slot.unset).toArray = ls at hl ⊢
  have hl : lv_has ls 6 [(0, .ref h0), (1, .long ck), (3, .int x)] := hl
  refine lv_iload_n hx hb dX0_next_0 rfl (lv_at hl 2 rfl) ?_
  refine lv_aload_n hx hb dX0_next_1 rfl (lv_at hl 0 rfl) ?_
  refine va_get (D := (dC, dI)) (ci := 0) (v := .int (nI tn)) (C := RX0) (T := TX0) (N := 10) hx hb hts in_X0_next_X0 hown hK hP 0 rfl rfl 2 (by decide) (hts (.fieldLink RX0 26 "CausalGate" "throughCount" "I") (by decide +kernel)) (fun _ h9 => h9) rfl dX0_next_2 ?_
  refine lv_icmp_lt (tgt := 10) hx hb dX0_next_5 (by decide) (fun c_5 => ?_) (fun c_5 => ?_)
  · have c9 := c_5
    refine lv_iload_n hx hb dX0_next_10 rfl (lv_at hl 2 rfl) ?_
    refine lv_iconst (v := -1) hx hb dX0_next_11 (by decide) ?_
    refine va_mmax hx hb (by rw [hml]; exact hl.1.symm) hown (hts (.methodLink RX0 81 Lib.Math.max.name) (by decide +kernel)) (hts (.static Lib.Math.max.name) (by decide +kernel)) (hts (.initialized "java/lang/Math") (by decide +kernel)) (hts (.code Lib.Math.max.name Lib.Math.max.code 2 (some .int)) (by decide +kernel)) (Nat.le_of_ble_eq_true rfl) (Nat.le_of_ble_eq_true rfl) (Nat.zero_le _) (Nat.zero_le _) dX0_next_12 ?_
    refine lv_iconst (v := 1) hx hb dX0_next_15 (by decide) ?_
    refine lv_iadd hx hb dX0_next_16 ?_
    refine tp_i (y := nI (stn x)) (stn_eq c9 (by omega)) ?_
    refine lv_istore (lv' := [(4, .int (nI (stn x))), (0, .ref h0), (1, .long ck), (3, .int x)]) hx hb dX0_next_17 hl (by decide) rfl (fun ls hl => ?_)
    have loop : ∀ (n : Nat) (j : Nat), j + n = tn → nxS t ck n j = nxt t tn ck x → ∀ ls : Array Slot, lv_has ls 6 [(0, .ref h0), (1, .long ck), (4, .int (nI j))] → W p l e (headSpec wsX0_next ({ frames := 1, cells := 0, slots := 0, locals := 22 })).room s m args below meth c s.heap [] 0 0 (MQ below (QcRead (oI (nxt t tn ck x))) args s 0 0 (fun _ => False)) (F0 m 19 ls []) := by
      intro n
      induction n with
      | zero =>
        intro j hj hk9 ls hl
        refine lv_iload hx hb dX0_next_19 (lv_at hl 2 rfl) ?_
        refine lv_aload_n hx hb dX0_next_21 rfl (lv_at hl 0 rfl) ?_
        refine va_get (D := (dC, dI)) (ci := 0) (v := .int (nI tn)) (C := RX0) (T := TX0) (N := 10) hx hb hts in_X0_next_X0 hown hK hP 0 rfl rfl 2 (by decide) (hts (.fieldLink RX0 26 "CausalGate" "throughCount" "I") (by decide +kernel)) (fun _ h9 => h9) rfl dX0_next_22 ?_
        refine lv_icmp_ge (tgt := 63) hx hb dX0_next_25 (by decide) (fun c_25 => ?_) (fun c_25 => ?_)
        · refine lv_iconst (v := -1) hx hb dX0_next_63 (by decide) ?_
          exact ri_ret hx hb hr hlocks (by rw [← hk9]; rfl) dX0_next_64
        · exact absurd (nI_le (by omega) (by omega)) c_25
      | succ n ih =>
        intro j hj hk9 ls hl
        refine lv_iload hx hb dX0_next_19 (lv_at hl 2 rfl) ?_
        refine lv_aload_n hx hb dX0_next_21 rfl (lv_at hl 0 rfl) ?_
        refine va_get (D := (dC, dI)) (ci := 0) (v := .int (nI tn)) (C := RX0) (T := TX0) (N := 10) hx hb hts in_X0_next_X0 hown hK hP 0 rfl rfl 2 (by decide) (hts (.fieldLink RX0 26 "CausalGate" "throughCount" "I") (by decide +kernel)) (fun _ h9 => h9) rfl dX0_next_22 ?_
        refine lv_icmp_ge (tgt := 63) hx hb dX0_next_25 (by decide) (fun c_25 => ?_) (fun c_25 => ?_)
        · exact absurd ((nI_leI (by omega) (by omega)).mp c_25) (by omega)
        · refine lv_aload_n hx hb dX0_next_28 rfl (lv_at hl 0 rfl) ?_
          refine va_get (D := (dC, dI)) (ci := 0) (v := .ref a0) (C := RX0) (T := TX0) (N := 10) hx hb hts in_X0_next_X0 hown hK hP 0 rfl rfl 0 (by decide) (hts (.fieldLink RX0 9 "CausalGate" "throughKeys" "[I") (by decide +kernel)) (fun _ h9 => h9) rfl dX0_next_29 ?_
          refine lv_iload hx hb dX0_next_32 (lv_at hl 2 rfl) ?_
          refine va_iald hx hb hK hP 1 0 rfl rfl (vp_in_nI (by omega) (by decide)) dX0_next_34 ?_
          refine tp_i (y := nI (t j).1) (by rw [nI_clamp (by omega)]) ?_
          have htj := ht _ (show j < tn by omega)
          refine lv_istore (lv' := [(5, .int (nI (t j).1)), (0, .ref h0), (1, .long ck), (4, .int (nI j))]) hx hb dX0_next_35 hl (by decide) rfl (fun ls hl => ?_)
          refine lv_iload hx hb dX0_next_37 (lv_at hl 0 rfl) ?_
          refine rd_i (W.runS (As := [.int (nI (t j).1)]) (rest := []) ⟨hx, hb, hml, hown, hts⟩ (k_seqOf l ((t j).1)) (va_cwS 1 hts gX0_next_X0_seqOf rfl rfl rfl (by decide +kernel) ⟨Nat.le_of_ble_eq_true rfl, Nat.le_of_ble_eq_true rfl⟩) preEq rfl rfl hl.1 rfl (lv_room (Nat.le_of_ble_eq_true rfl)) dX0_next_39 ⟨Nat.zero_le _, Nat.zero_le _⟩) ?_
          refine lv_lload_n hx hb dX0_next_42 rfl (lv_at hl 2 rfl) ?_
          refine lv_iload hx hb dX0_next_43 (lv_at hl 0 rfl) ?_
          refine rd_i (W.runS (As := [.int (nI (t j).1)]) (rest := [.long ck, .int (nI (((t j).1) % 256))]) ⟨hx, hb, hml, hown, hts⟩ (k_actorOf l ((t j).1) (by omega)) (va_cwS 1 hts gX0_next_X0_actorOf rfl rfl rfl (by decide +kernel) ⟨Nat.le_of_ble_eq_true rfl, Nat.le_of_ble_eq_true rfl⟩) preEq rfl rfl hl.1 rfl (lv_room (Nat.le_of_ble_eq_true rfl)) dX0_next_45 ⟨Nat.zero_le _, Nat.zero_le _⟩) ?_
          refine rd_i (W.runS (As := [.long ck, .int (nI (((t j).1) / 256))]) (rest := [.int (nI (((t j).1) % 256))]) ⟨hx, hb, hml, hown, hts⟩ (k_byteOf l ck (((t j).1) / 256) (by omega)) (va_cwS 2 hts gX0_next_X0_byteOf rfl rfl rfl (by decide +kernel) ⟨Nat.le_of_ble_eq_true rfl, Nat.le_of_ble_eq_true rfl⟩) preEq rfl rfl hl.1 rfl (lv_room (Nat.le_of_ble_eq_true rfl)) dX0_next_48 ⟨Nat.zero_le _, Nat.zero_le _⟩) ?_
          refine lv_icmp_le (tgt := 57) hx hb dX0_next_51 (by decide) (fun c_51 => ?_) (fun c_51 => ?_)
          · have c7 : ¬ by_ ck ((t j).1 / 256) < (t j).1 % 256 := Nat.not_lt.mpr ((nI_leI (by omega) (by have := by_lt ck ((t j).1 / 256); omega)).mp c_51)
            refine lv_iinc (v := (nI (j + 1))) (lv' := [(4, .int (nI (j + 1))), (5, .int (nI (t j).1)), (0, .ref h0), (1, .long ck)]) hx hb dX0_next_57 hl (k := 3) rfl (nI_1 j) (by decide) rfl (fun ls hl => ?_)
            refine lv_goto (tgt := 19) hx hb dX0_next_60 (by decide) ?_
            exact ih (j + 1) (by omega) (by rw [← hk9]; simp only [nxS]; rw [if_neg c7]) ls (lv_sub hl [2, 3, 0] rfl)
          · have c7 : by_ ck ((t j).1 / 256) < (t j).1 % 256 := Nat.lt_of_not_le fun q => c_51 (nI_le q (by have := by_lt ck ((t j).1 / 256); omega))
            refine lv_iload hx hb dX0_next_54 (lv_at hl 3 rfl) ?_
            exact ri_ret hx hb hr hlocks (by rw [← hk9]; simp only [nxS]; rw [if_pos c7]; rfl) dX0_next_56
    exact loop (tn - stn x) (stn x) (by have := stn_le c9 (by omega); omega) (by simp [nxt, c9]) ls (lv_sub hl [1, 2, 0] rfl)
  · have c9 := c_5
    refine lv_iconst (v := -1) hx hb dX0_next_8 (by decide) ?_
    exact ri_ret hx hb hr hlocks (by simp [nxt, c9, oI]) dX0_next_9

set_option maxRecDepth 20000 in
theorem in_X0_compare_X0 : ∀ w ∈ wsX00, w ∈ wsX0_compare := by decide +kernel

set_option maxHeartbeats 4000000 in
set_option maxRecDepth 100000 in
theorem k_compare (l : Launch) (dC : Nat → ClassId) (dI : Nat → Nat → Nat) (ca : Nat → ClassId) (h0 a0 a1 a2 a3 a4 : Nat) (t : TF) (tn : Nat) (w : WF) (wn : Nat) (g : Int64) (ko mw : Nat) (ck : Int64) : Met l yX0_compare wsX0_compare ({ frames := 1, cells := 0, slots := 0, locals := 22 }) (Pr [.ref h0, .long ck] (dC, dI) clS [(ca 0, .int), (ca 1, .int), (ca 2, .int), (ca 3, .long), (ca 4, .int)] [(h0, .inr (0, [.ref a0, .ref a1, .int (nI tn), .ref a2, .ref a3, .ref a4, .int (nI wn), .long g, .int (nI ko), .int (nI mw)])), (a0, .inl (ca 0, 512, .inl (fun z9 => nI (t z9).1))), (a1, .inl (ca 1, 512, .inl (fun z9 => (t z9).2))), (a2, .inl (ca 2, 65, .inl (fun z9 => nI (w z9).1))), (a3, .inl (ca 3, 65, .inr (.inl (fun z9 => (w z9).2.1)))), (a4, .inl (ca 4, 65, .inl (fun z9 => (w z9).2.2)))]) (QcRead (cmR (cmS g ck 8 0 false false))) 0 0 (fun _ => False) := by
  refine Met.ofW (cc := cX0_compare) (maxL := 8) (ret := (some .int)) (by decide) rfl ?_
  intro p e s m args below meth c s₁ B hml hv
  obtain ⟨hargs, hP, hK⟩ := hv
  have hx := B.exec
  have hb := B.bytes
  have hr := B.returns
  have hts := atoms_spec (ws := wsX0_compare) B.pre
  have hown : s.vm.findClass RX0 = some m.cls := findClass_of_methodNamed B.named
  have hlocks := B.notSynchronized
  have hP : va_P (dC, dI) clS [(h0, .inr (0, [.ref a0, .ref a1, .int (nI tn), .ref a2, .ref a3, .ref a4, .int (nI wn), .long g, .int (nI ko), .int (nI mw)])), (a0, .inl (ca 0, 512, .inl (fun z9 => nI (t z9).1))), (a1, .inl (ca 1, 512, .inl (fun z9 => (t z9).2))), (a2, .inl (ca 2, 65, .inl (fun z9 => nI (w z9).1))), (a3, .inl (ca 3, 65, .inr (.inl (fun z9 => (w z9).2.1)))), (a4, .inl (ca 4, 65, .inl (fun z9 => (w z9).2.2)))] s.heap := hP
  have hl := lv_entry ([.ref h0, .long ck]) (n := 8) (Nat.le_of_ble_eq_true rfl)
  have hE : entryFrame m args 8 = F0 m 0 ((lg_sl ([.ref h0, .long ck]) ++ List.replicate (8 - (lg_sl ([.ref h0, .long ck])).length) Slot.unset).toArray) [] := by rw [hargs]; exact lg_entry_eq m ([.ref h0, .long ck]) 8
  rw [hE]
  generalize (lg_sl ([.ref h0, .long ck]) ++ List.replicate (8 - (lg_sl ([.ref h0, .long ck])).length) Slot.unset).toArray = ls at hl ⊢
  have hl : lv_has ls 8 [(0, .ref h0), (1, .long ck)] := hl
  refine lv_iconst (v := 0) hx hb dX0_compare_0 (by decide) ?_
  refine tp_i (y := bI false) (rfl) ?_
  refine lv_istore_n (lv' := [(3, .int (bI false)), (0, .ref h0), (1, .long ck)]) hx hb dX0_compare_1 rfl hl (by decide) rfl (fun ls hl => ?_)
  refine lv_iconst (v := 0) hx hb dX0_compare_2 (by decide) ?_
  refine tp_i (y := bI false) (rfl) ?_
  refine lv_istore (lv' := [(4, .int (bI false)), (3, .int (bI false)), (0, .ref h0), (1, .long ck)]) hx hb dX0_compare_3 hl (by decide) rfl (fun ls hl => ?_)
  refine lv_iconst (v := 0) hx hb dX0_compare_5 (by decide) ?_
  refine tp_i (y := nI 0) (nI_0.symm) ?_
  refine lv_istore (lv' := [(5, .int (nI 0)), (4, .int (bI false)), (3, .int (bI false)), (0, .ref h0), (1, .long ck)]) hx hb dX0_compare_6 hl (by decide) rfl (fun ls hl => ?_)
  have loop : ∀ (n : Nat) (a : Nat) (m9 l9 : Bool), a + n = 8 → cmS g ck n a m9 l9 = cmS g ck 8 0 false false → ∀ ls : Array Slot, lv_has ls 8 [(0, .ref h0), (1, .long ck), (3, .int (bI m9)), (4, .int (bI l9)), (5, .int (nI a))] → W p l e (headSpec wsX0_compare ({ frames := 1, cells := 0, slots := 0, locals := 22 })).room s m args below meth c s.heap [] 0 0 (MQ below (QcRead (cmR (cmS g ck 8 0 false false))) args s 0 0 (fun _ => False)) (F0 m 8 ls []) := by
    intro n
    induction n with
    | zero =>
      intro a m9 l9 ha hk9 ls hl
      refine lv_iload hx hb dX0_compare_8 (lv_at hl 4 rfl) ?_
      refine lv_bipush (v := 8) hx hb dX0_compare_10 (by decide) ?_
      refine tp_i (y := nI 8) (rfl) ?_
      refine lv_icmp_ge (tgt := 76) hx hb dX0_compare_12 (by decide) (fun c_12 => ?_) (fun c_12 => ?_)
      · refine lv_iload_n hx hb dX0_compare_76 rfl (lv_at hl 2 rfl) ?_
        refine lv_if_eq (tgt := 91) hx hb dX0_compare_77 (by decide) (fun c_77 => ?_) (fun c_77 => ?_)
        · have hm9 : m9 = false := bI_0.mp c_77
          refine lv_iload hx hb dX0_compare_91 (lv_at hl 3 rfl) ?_
          refine lv_if_eq (tgt := 100) hx hb dX0_compare_93 (by decide) (fun c_93 => ?_) (fun c_93 => ?_)
          · have hl9 : l9 = false := bI_0.mp c_93
            refine lv_iconst (v := 0) hx hb dX0_compare_100 (by decide) ?_
            exact ri_ret hx hb hr hlocks (by rw [← hk9, hm9, hl9]; rfl) dX0_compare_101
          · have hl9 : l9 = true := by cases l9; exact absurd rfl c_93; rfl
            refine lv_iconst (v := 2) hx hb dX0_compare_96 (by decide) ?_
            refine lv_goto (tgt := 101) hx hb dX0_compare_97 (by decide) ?_
            exact ri_ret hx hb hr hlocks (by rw [← hk9, hm9, hl9]; rfl) dX0_compare_101
        · have hm9 : m9 = true := by cases m9; exact absurd rfl c_77; rfl
          refine lv_iload hx hb dX0_compare_80 (lv_at hl 3 rfl) ?_
          refine lv_if_eq (tgt := 89) hx hb dX0_compare_82 (by decide) (fun c_82 => ?_) (fun c_82 => ?_)
          · have hl9 : l9 = false := bI_0.mp c_82
            refine lv_iconst (v := 1) hx hb dX0_compare_89 (by decide) ?_
            exact ri_ret hx hb hr hlocks (by rw [← hk9, hm9, hl9]; rfl) dX0_compare_90
          · have hl9 : l9 = true := by cases l9; exact absurd rfl c_82; rfl
            refine lv_iconst (v := 3) hx hb dX0_compare_85 (by decide) ?_
            refine lv_goto (tgt := 90) hx hb dX0_compare_86 (by decide) ?_
            exact ri_ret hx hb hr hlocks (by rw [← hk9, hm9, hl9]; rfl) dX0_compare_90
      · exact absurd (nI_le (by omega) (by omega)) c_12
    | succ n ih =>
      intro a m9 l9 ha hk9 ls hl
      refine lv_iload hx hb dX0_compare_8 (lv_at hl 4 rfl) ?_
      refine lv_bipush (v := 8) hx hb dX0_compare_10 (by decide) ?_
      refine tp_i (y := nI 8) (rfl) ?_
      refine lv_icmp_ge (tgt := 76) hx hb dX0_compare_12 (by decide) (fun c_12 => ?_) (fun c_12 => ?_)
      · exact absurd ((nI_leI (by omega) (by omega)).mp c_12) (by omega)
      · refine lv_aload_n hx hb dX0_compare_15 rfl (lv_at hl 0 rfl) ?_
        refine va_get (D := (dC, dI)) (ci := 0) (v := .long g) (C := RX0) (T := TX0) (N := 10) hx hb hts in_X0_compare_X0 hown hK hP 0 rfl rfl 7 (by decide) (hts (.fieldLink RX0 33 "CausalGate" "gateClock" "J") (by decide +kernel)) (fun _ h9 => h9) rfl dX0_compare_16 ?_
        refine lv_iload hx hb dX0_compare_19 (lv_at hl 4 rfl) ?_
        refine rd_i (W.runS (As := [.long g, .int (nI a)]) (rest := []) ⟨hx, hb, hml, hown, hts⟩ (k_byteOf l g a (by omega)) (va_cwS 2 hts gX0_compare_X0_byteOf rfl rfl rfl (by decide +kernel) ⟨Nat.le_of_ble_eq_true rfl, Nat.le_of_ble_eq_true rfl⟩) preEq rfl rfl hl.1 rfl (lv_room (Nat.le_of_ble_eq_true rfl)) dX0_compare_21 ⟨Nat.zero_le _, Nat.zero_le _⟩) ?_
        refine lv_istore (lv' := [(6, .int (nI (by_ g a))), (0, .ref h0), (1, .long ck), (3, .int (bI m9)), (4, .int (bI l9)), (5, .int (nI a))]) hx hb dX0_compare_24 hl (by decide) rfl (fun ls hl => ?_)
        refine lv_lload_n hx hb dX0_compare_26 rfl (lv_at hl 2 rfl) ?_
        refine lv_iload hx hb dX0_compare_27 (lv_at hl 5 rfl) ?_
        refine rd_i (W.runS (As := [.long ck, .int (nI a)]) (rest := []) ⟨hx, hb, hml, hown, hts⟩ (k_byteOf l ck a (by omega)) (va_cwS 2 hts gX0_compare_X0_byteOf rfl rfl rfl (by decide +kernel) ⟨Nat.le_of_ble_eq_true rfl, Nat.le_of_ble_eq_true rfl⟩) preEq rfl rfl hl.1 rfl (lv_room (Nat.le_of_ble_eq_true rfl)) dX0_compare_29 ⟨Nat.zero_le _, Nat.zero_le _⟩) ?_
        refine lv_istore (lv' := [(7, .int (nI (by_ ck a))), (6, .int (nI (by_ g a))), (0, .ref h0), (1, .long ck), (3, .int (bI m9)), (4, .int (bI l9)), (5, .int (nI a))]) hx hb dX0_compare_32 hl (by decide) rfl (fun ls hl => ?_)
        refine lv_iload_n hx hb dX0_compare_34 rfl (lv_at hl 4 rfl) ?_
        refine lv_if_ne (tgt := 45) hx hb dX0_compare_35 (by decide) (fun c_35 => ?_) (fun c_35 => ?_)
        · have hm9 : m9 = true := by cases m9; exact absurd rfl c_35; rfl
          have e8 : (m9 || decide (by_ ck a < by_ g a)) = true := by simp [hm9]
          refine lv_iconst (v := 1) hx hb dX0_compare_45 (by decide) ?_
          refine tp_i (y := bI (m9 || decide (by_ ck a < by_ g a))) (by rw [e8]; rfl) ?_
          refine lv_goto (tgt := 50) hx hb dX0_compare_46 (by decide) ?_
          refine lv_istore_n (lv' := [(3, .int (bI (m9 || decide (by_ ck a < by_ g a)))), (7, .int (nI (by_ ck a))), (6, .int (nI (by_ g a))), (0, .ref h0), (1, .long ck), (4, .int (bI l9)), (5, .int (nI a))]) hx hb dX0_compare_50 rfl hl (by decide) rfl (fun ls hl => ?_)
          refine lv_iload hx hb dX0_compare_51 (lv_at hl 5 rfl) ?_
          refine lv_if_ne (tgt := 63) hx hb dX0_compare_53 (by decide) (fun c_53 => ?_) (fun c_53 => ?_)
          · have hl9 : l9 = true := by cases l9; exact absurd rfl c_53; rfl
            have e7 : (l9 || decide (by_ g a < by_ ck a)) = true := by simp [hl9]
            refine lv_iconst (v := 1) hx hb dX0_compare_63 (by decide) ?_
            refine tp_i (y := bI (l9 || decide (by_ g a < by_ ck a))) (by rw [e7]; rfl) ?_
            refine lv_goto (tgt := 68) hx hb dX0_compare_64 (by decide) ?_
            refine lv_istore (lv' := [(4, .int (bI (l9 || decide (by_ g a < by_ ck a)))), (3, .int (bI (m9 || decide (by_ ck a < by_ g a)))), (7, .int (nI (by_ ck a))), (6, .int (nI (by_ g a))), (0, .ref h0), (1, .long ck), (5, .int (nI a))]) hx hb dX0_compare_68 hl (by decide) rfl (fun ls hl => ?_)
            refine lv_iinc (v := (nI (a + 1))) (lv' := [(5, .int (nI (a + 1))), (4, .int (bI (l9 || decide (by_ g a < by_ ck a)))), (3, .int (bI (m9 || decide (by_ ck a < by_ g a)))), (7, .int (nI (by_ ck a))), (6, .int (nI (by_ g a))), (0, .ref h0), (1, .long ck)]) hx hb dX0_compare_70 hl (k := 6) rfl (nI_1 a) (by decide) rfl (fun ls hl => ?_)
            refine lv_goto (tgt := 8) hx hb dX0_compare_73 (by decide) ?_
            exact ih (a + 1) (m9 || decide (by_ ck a < by_ g a)) (l9 || decide (by_ g a < by_ ck a)) (by omega) (by rw [← hk9]; rfl) ls (lv_sub hl [5, 6, 2, 1, 0] rfl)
          · have hl9 : l9 = false := bI_0.mp c_53
            refine lv_iload hx hb dX0_compare_56 (lv_at hl 2 rfl) ?_
            refine lv_iload hx hb dX0_compare_58 (lv_at hl 1 rfl) ?_
            refine lv_icmp_ge (tgt := 67) hx hb dX0_compare_60 (by decide) (fun c_60 => ?_) (fun c_60 => ?_)
            · have e7 : (l9 || decide (by_ g a < by_ ck a)) = false := by simp [hl9]; exact (nI_leI (by have := by_lt g a; have := by_lt ck a; omega) (by have := by_lt g a; have := by_lt ck a; omega)).mp c_60
              refine lv_iconst (v := 0) hx hb dX0_compare_67 (by decide) ?_
              refine tp_i (y := bI (l9 || decide (by_ g a < by_ ck a))) (by rw [e7]; rfl) ?_
              refine lv_istore (lv' := [(4, .int (bI (l9 || decide (by_ g a < by_ ck a)))), (3, .int (bI (m9 || decide (by_ ck a < by_ g a)))), (7, .int (nI (by_ ck a))), (6, .int (nI (by_ g a))), (0, .ref h0), (1, .long ck), (5, .int (nI a))]) hx hb dX0_compare_68 hl (by decide) rfl (fun ls hl => ?_)
              refine lv_iinc (v := (nI (a + 1))) (lv' := [(5, .int (nI (a + 1))), (4, .int (bI (l9 || decide (by_ g a < by_ ck a)))), (3, .int (bI (m9 || decide (by_ ck a < by_ g a)))), (7, .int (nI (by_ ck a))), (6, .int (nI (by_ g a))), (0, .ref h0), (1, .long ck)]) hx hb dX0_compare_70 hl (k := 6) rfl (nI_1 a) (by decide) rfl (fun ls hl => ?_)
              refine lv_goto (tgt := 8) hx hb dX0_compare_73 (by decide) ?_
              exact ih (a + 1) (m9 || decide (by_ ck a < by_ g a)) (l9 || decide (by_ g a < by_ ck a)) (by omega) (by rw [← hk9]; rfl) ls (lv_sub hl [5, 6, 2, 1, 0] rfl)
            · have e7 : (l9 || decide (by_ g a < by_ ck a)) = true := by simp [hl9]; exact Nat.lt_of_not_le fun q => c_60 (nI_le q (by have := by_lt g a; have := by_lt ck a; omega))
              refine lv_iconst (v := 1) hx hb dX0_compare_63 (by decide) ?_
              refine tp_i (y := bI (l9 || decide (by_ g a < by_ ck a))) (by rw [e7]; rfl) ?_
              refine lv_goto (tgt := 68) hx hb dX0_compare_64 (by decide) ?_
              refine lv_istore (lv' := [(4, .int (bI (l9 || decide (by_ g a < by_ ck a)))), (3, .int (bI (m9 || decide (by_ ck a < by_ g a)))), (7, .int (nI (by_ ck a))), (6, .int (nI (by_ g a))), (0, .ref h0), (1, .long ck), (5, .int (nI a))]) hx hb dX0_compare_68 hl (by decide) rfl (fun ls hl => ?_)
              refine lv_iinc (v := (nI (a + 1))) (lv' := [(5, .int (nI (a + 1))), (4, .int (bI (l9 || decide (by_ g a < by_ ck a)))), (3, .int (bI (m9 || decide (by_ ck a < by_ g a)))), (7, .int (nI (by_ ck a))), (6, .int (nI (by_ g a))), (0, .ref h0), (1, .long ck)]) hx hb dX0_compare_70 hl (k := 6) rfl (nI_1 a) (by decide) rfl (fun ls hl => ?_)
              refine lv_goto (tgt := 8) hx hb dX0_compare_73 (by decide) ?_
              exact ih (a + 1) (m9 || decide (by_ ck a < by_ g a)) (l9 || decide (by_ g a < by_ ck a)) (by omega) (by rw [← hk9]; rfl) ls (lv_sub hl [5, 6, 2, 1, 0] rfl)
        · have hm9 : m9 = false := bI_0.mp c_35
          refine lv_iload hx hb dX0_compare_38 (lv_at hl 1 rfl) ?_
          refine lv_iload hx hb dX0_compare_40 (lv_at hl 0 rfl) ?_
          refine lv_icmp_le (tgt := 49) hx hb dX0_compare_42 (by decide) (fun c_42 => ?_) (fun c_42 => ?_)
          · have e8 : (m9 || decide (by_ ck a < by_ g a)) = false := by simp [hm9]; exact (nI_leI (by have := by_lt g a; have := by_lt ck a; omega) (by have := by_lt g a; have := by_lt ck a; omega)).mp c_42
            refine lv_iconst (v := 0) hx hb dX0_compare_49 (by decide) ?_
            refine tp_i (y := bI (m9 || decide (by_ ck a < by_ g a))) (by rw [e8]; rfl) ?_
            refine lv_istore_n (lv' := [(3, .int (bI (m9 || decide (by_ ck a < by_ g a)))), (7, .int (nI (by_ ck a))), (6, .int (nI (by_ g a))), (0, .ref h0), (1, .long ck), (4, .int (bI l9)), (5, .int (nI a))]) hx hb dX0_compare_50 rfl hl (by decide) rfl (fun ls hl => ?_)
            refine lv_iload hx hb dX0_compare_51 (lv_at hl 5 rfl) ?_
            refine lv_if_ne (tgt := 63) hx hb dX0_compare_53 (by decide) (fun c_53 => ?_) (fun c_53 => ?_)
            · have hl9 : l9 = true := by cases l9; exact absurd rfl c_53; rfl
              have e7 : (l9 || decide (by_ g a < by_ ck a)) = true := by simp [hl9]
              refine lv_iconst (v := 1) hx hb dX0_compare_63 (by decide) ?_
              refine tp_i (y := bI (l9 || decide (by_ g a < by_ ck a))) (by rw [e7]; rfl) ?_
              refine lv_goto (tgt := 68) hx hb dX0_compare_64 (by decide) ?_
              refine lv_istore (lv' := [(4, .int (bI (l9 || decide (by_ g a < by_ ck a)))), (3, .int (bI (m9 || decide (by_ ck a < by_ g a)))), (7, .int (nI (by_ ck a))), (6, .int (nI (by_ g a))), (0, .ref h0), (1, .long ck), (5, .int (nI a))]) hx hb dX0_compare_68 hl (by decide) rfl (fun ls hl => ?_)
              refine lv_iinc (v := (nI (a + 1))) (lv' := [(5, .int (nI (a + 1))), (4, .int (bI (l9 || decide (by_ g a < by_ ck a)))), (3, .int (bI (m9 || decide (by_ ck a < by_ g a)))), (7, .int (nI (by_ ck a))), (6, .int (nI (by_ g a))), (0, .ref h0), (1, .long ck)]) hx hb dX0_compare_70 hl (k := 6) rfl (nI_1 a) (by decide) rfl (fun ls hl => ?_)
              refine lv_goto (tgt := 8) hx hb dX0_compare_73 (by decide) ?_
              exact ih (a + 1) (m9 || decide (by_ ck a < by_ g a)) (l9 || decide (by_ g a < by_ ck a)) (by omega) (by rw [← hk9]; rfl) ls (lv_sub hl [5, 6, 2, 1, 0] rfl)
            · have hl9 : l9 = false := bI_0.mp c_53
              refine lv_iload hx hb dX0_compare_56 (lv_at hl 2 rfl) ?_
              refine lv_iload hx hb dX0_compare_58 (lv_at hl 1 rfl) ?_
              refine lv_icmp_ge (tgt := 67) hx hb dX0_compare_60 (by decide) (fun c_60 => ?_) (fun c_60 => ?_)
              · have e7 : (l9 || decide (by_ g a < by_ ck a)) = false := by simp [hl9]; exact (nI_leI (by have := by_lt g a; have := by_lt ck a; omega) (by have := by_lt g a; have := by_lt ck a; omega)).mp c_60
                refine lv_iconst (v := 0) hx hb dX0_compare_67 (by decide) ?_
                refine tp_i (y := bI (l9 || decide (by_ g a < by_ ck a))) (by rw [e7]; rfl) ?_
                refine lv_istore (lv' := [(4, .int (bI (l9 || decide (by_ g a < by_ ck a)))), (3, .int (bI (m9 || decide (by_ ck a < by_ g a)))), (7, .int (nI (by_ ck a))), (6, .int (nI (by_ g a))), (0, .ref h0), (1, .long ck), (5, .int (nI a))]) hx hb dX0_compare_68 hl (by decide) rfl (fun ls hl => ?_)
                refine lv_iinc (v := (nI (a + 1))) (lv' := [(5, .int (nI (a + 1))), (4, .int (bI (l9 || decide (by_ g a < by_ ck a)))), (3, .int (bI (m9 || decide (by_ ck a < by_ g a)))), (7, .int (nI (by_ ck a))), (6, .int (nI (by_ g a))), (0, .ref h0), (1, .long ck)]) hx hb dX0_compare_70 hl (k := 6) rfl (nI_1 a) (by decide) rfl (fun ls hl => ?_)
                refine lv_goto (tgt := 8) hx hb dX0_compare_73 (by decide) ?_
                exact ih (a + 1) (m9 || decide (by_ ck a < by_ g a)) (l9 || decide (by_ g a < by_ ck a)) (by omega) (by rw [← hk9]; rfl) ls (lv_sub hl [5, 6, 2, 1, 0] rfl)
              · have e7 : (l9 || decide (by_ g a < by_ ck a)) = true := by simp [hl9]; exact Nat.lt_of_not_le fun q => c_60 (nI_le q (by have := by_lt g a; have := by_lt ck a; omega))
                refine lv_iconst (v := 1) hx hb dX0_compare_63 (by decide) ?_
                refine tp_i (y := bI (l9 || decide (by_ g a < by_ ck a))) (by rw [e7]; rfl) ?_
                refine lv_goto (tgt := 68) hx hb dX0_compare_64 (by decide) ?_
                refine lv_istore (lv' := [(4, .int (bI (l9 || decide (by_ g a < by_ ck a)))), (3, .int (bI (m9 || decide (by_ ck a < by_ g a)))), (7, .int (nI (by_ ck a))), (6, .int (nI (by_ g a))), (0, .ref h0), (1, .long ck), (5, .int (nI a))]) hx hb dX0_compare_68 hl (by decide) rfl (fun ls hl => ?_)
                refine lv_iinc (v := (nI (a + 1))) (lv' := [(5, .int (nI (a + 1))), (4, .int (bI (l9 || decide (by_ g a < by_ ck a)))), (3, .int (bI (m9 || decide (by_ ck a < by_ g a)))), (7, .int (nI (by_ ck a))), (6, .int (nI (by_ g a))), (0, .ref h0), (1, .long ck)]) hx hb dX0_compare_70 hl (k := 6) rfl (nI_1 a) (by decide) rfl (fun ls hl => ?_)
                refine lv_goto (tgt := 8) hx hb dX0_compare_73 (by decide) ?_
                exact ih (a + 1) (m9 || decide (by_ ck a < by_ g a)) (l9 || decide (by_ g a < by_ ck a)) (by omega) (by rw [← hk9]; rfl) ls (lv_sub hl [5, 6, 2, 1, 0] rfl)
          · have e8 : (m9 || decide (by_ ck a < by_ g a)) = true := by simp [hm9]; exact Nat.lt_of_not_le fun q => c_42 (nI_le q (by have := by_lt g a; have := by_lt ck a; omega))
            refine lv_iconst (v := 1) hx hb dX0_compare_45 (by decide) ?_
            refine tp_i (y := bI (m9 || decide (by_ ck a < by_ g a))) (by rw [e8]; rfl) ?_
            refine lv_goto (tgt := 50) hx hb dX0_compare_46 (by decide) ?_
            refine lv_istore_n (lv' := [(3, .int (bI (m9 || decide (by_ ck a < by_ g a)))), (7, .int (nI (by_ ck a))), (6, .int (nI (by_ g a))), (0, .ref h0), (1, .long ck), (4, .int (bI l9)), (5, .int (nI a))]) hx hb dX0_compare_50 rfl hl (by decide) rfl (fun ls hl => ?_)
            refine lv_iload hx hb dX0_compare_51 (lv_at hl 5 rfl) ?_
            refine lv_if_ne (tgt := 63) hx hb dX0_compare_53 (by decide) (fun c_53 => ?_) (fun c_53 => ?_)
            · have hl9 : l9 = true := by cases l9; exact absurd rfl c_53; rfl
              have e7 : (l9 || decide (by_ g a < by_ ck a)) = true := by simp [hl9]
              refine lv_iconst (v := 1) hx hb dX0_compare_63 (by decide) ?_
              refine tp_i (y := bI (l9 || decide (by_ g a < by_ ck a))) (by rw [e7]; rfl) ?_
              refine lv_goto (tgt := 68) hx hb dX0_compare_64 (by decide) ?_
              refine lv_istore (lv' := [(4, .int (bI (l9 || decide (by_ g a < by_ ck a)))), (3, .int (bI (m9 || decide (by_ ck a < by_ g a)))), (7, .int (nI (by_ ck a))), (6, .int (nI (by_ g a))), (0, .ref h0), (1, .long ck), (5, .int (nI a))]) hx hb dX0_compare_68 hl (by decide) rfl (fun ls hl => ?_)
              refine lv_iinc (v := (nI (a + 1))) (lv' := [(5, .int (nI (a + 1))), (4, .int (bI (l9 || decide (by_ g a < by_ ck a)))), (3, .int (bI (m9 || decide (by_ ck a < by_ g a)))), (7, .int (nI (by_ ck a))), (6, .int (nI (by_ g a))), (0, .ref h0), (1, .long ck)]) hx hb dX0_compare_70 hl (k := 6) rfl (nI_1 a) (by decide) rfl (fun ls hl => ?_)
              refine lv_goto (tgt := 8) hx hb dX0_compare_73 (by decide) ?_
              exact ih (a + 1) (m9 || decide (by_ ck a < by_ g a)) (l9 || decide (by_ g a < by_ ck a)) (by omega) (by rw [← hk9]; rfl) ls (lv_sub hl [5, 6, 2, 1, 0] rfl)
            · have hl9 : l9 = false := bI_0.mp c_53
              refine lv_iload hx hb dX0_compare_56 (lv_at hl 2 rfl) ?_
              refine lv_iload hx hb dX0_compare_58 (lv_at hl 1 rfl) ?_
              refine lv_icmp_ge (tgt := 67) hx hb dX0_compare_60 (by decide) (fun c_60 => ?_) (fun c_60 => ?_)
              · have e7 : (l9 || decide (by_ g a < by_ ck a)) = false := by simp [hl9]; exact (nI_leI (by have := by_lt g a; have := by_lt ck a; omega) (by have := by_lt g a; have := by_lt ck a; omega)).mp c_60
                refine lv_iconst (v := 0) hx hb dX0_compare_67 (by decide) ?_
                refine tp_i (y := bI (l9 || decide (by_ g a < by_ ck a))) (by rw [e7]; rfl) ?_
                refine lv_istore (lv' := [(4, .int (bI (l9 || decide (by_ g a < by_ ck a)))), (3, .int (bI (m9 || decide (by_ ck a < by_ g a)))), (7, .int (nI (by_ ck a))), (6, .int (nI (by_ g a))), (0, .ref h0), (1, .long ck), (5, .int (nI a))]) hx hb dX0_compare_68 hl (by decide) rfl (fun ls hl => ?_)
                refine lv_iinc (v := (nI (a + 1))) (lv' := [(5, .int (nI (a + 1))), (4, .int (bI (l9 || decide (by_ g a < by_ ck a)))), (3, .int (bI (m9 || decide (by_ ck a < by_ g a)))), (7, .int (nI (by_ ck a))), (6, .int (nI (by_ g a))), (0, .ref h0), (1, .long ck)]) hx hb dX0_compare_70 hl (k := 6) rfl (nI_1 a) (by decide) rfl (fun ls hl => ?_)
                refine lv_goto (tgt := 8) hx hb dX0_compare_73 (by decide) ?_
                exact ih (a + 1) (m9 || decide (by_ ck a < by_ g a)) (l9 || decide (by_ g a < by_ ck a)) (by omega) (by rw [← hk9]; rfl) ls (lv_sub hl [5, 6, 2, 1, 0] rfl)
              · have e7 : (l9 || decide (by_ g a < by_ ck a)) = true := by simp [hl9]; exact Nat.lt_of_not_le fun q => c_60 (nI_le q (by have := by_lt g a; have := by_lt ck a; omega))
                refine lv_iconst (v := 1) hx hb dX0_compare_63 (by decide) ?_
                refine tp_i (y := bI (l9 || decide (by_ g a < by_ ck a))) (by rw [e7]; rfl) ?_
                refine lv_goto (tgt := 68) hx hb dX0_compare_64 (by decide) ?_
                refine lv_istore (lv' := [(4, .int (bI (l9 || decide (by_ g a < by_ ck a)))), (3, .int (bI (m9 || decide (by_ ck a < by_ g a)))), (7, .int (nI (by_ ck a))), (6, .int (nI (by_ g a))), (0, .ref h0), (1, .long ck), (5, .int (nI a))]) hx hb dX0_compare_68 hl (by decide) rfl (fun ls hl => ?_)
                refine lv_iinc (v := (nI (a + 1))) (lv' := [(5, .int (nI (a + 1))), (4, .int (bI (l9 || decide (by_ g a < by_ ck a)))), (3, .int (bI (m9 || decide (by_ ck a < by_ g a)))), (7, .int (nI (by_ ck a))), (6, .int (nI (by_ g a))), (0, .ref h0), (1, .long ck)]) hx hb dX0_compare_70 hl (k := 6) rfl (nI_1 a) (by decide) rfl (fun ls hl => ?_)
                refine lv_goto (tgt := 8) hx hb dX0_compare_73 (by decide) ?_
                exact ih (a + 1) (m9 || decide (by_ ck a < by_ g a)) (l9 || decide (by_ g a < by_ ck a)) (by omega) (by rw [← hk9]; rfl) ls (lv_sub hl [5, 6, 2, 1, 0] rfl)
  exact loop 8 0 false false (by omega) rfl ls (lv_sub hl [3, 4, 2, 1, 0] rfl)
end
section
set_option maxRecDepth 20000 in
theorem in_X0_clear_X0 : ∀ w ∈ wsX00, w ∈ wsX0_clear := by decide +kernel

set_option maxHeartbeats 4000000 in
set_option maxRecDepth 100000 in
theorem k_clear (l : Launch) (dC : Nat → ClassId) (dI : Nat → Nat → Nat) (ca : Nat → ClassId) (h0 a0 a1 a2 a3 a4 : Nat) (t : TF) (tn : Nat) (w : WF) (wn : Nat) (g : Int64) (ko mw : Nat) (sz : Nat)  : Met l yX0_clear wsX0_clear ({ frames := 0, cells := 0, slots := 0, locals := 0 }) (Pm [.ref h0] (dC, dI) clS [(ca 0, .int), (ca 1, .int), (ca 2, .int), (ca 3, .long), (ca 4, .int)] [(h0, .inr (0, [.ref a0, .ref a1, .int (nI tn), .ref a2, .ref a3, .ref a4, .int (nI wn), .long g, .int (nI ko), .int (nI mw)])), (a0, .inl (ca 0, 512, .inl (fun z9 => nI (t z9).1))), (a1, .inl (ca 1, 512, .inl (fun z9 => (t z9).2))), (a2, .inl (ca 2, 65, .inl (fun z9 => nI (w z9).1))), (a3, .inl (ca 3, 65, .inr (.inl (fun z9 => (w z9).2.1)))), (a4, .inl (ca 4, 65, .inl (fun z9 => (w z9).2.2)))] sz) (QmV (dC, dI) clS [(h0, .inr (0, [.ref a0, .ref a1, .int (nI tn), .ref a2, .ref a3, .ref a4, .int (nI wn), .long g, .int (nI ko), .int (nI mw)])), (a0, .inl (ca 0, 512, .inl (fun z9 => nI (t z9).1))), (a1, .inl (ca 1, 512, .inl (fun z9 => (t z9).2))), (a2, .inl (ca 2, 65, .inl (fun z9 => nI (w z9).1))), (a3, .inl (ca 3, 65, .inr (.inl (fun z9 => (w z9).2.1)))), (a4, .inl (ca 4, 65, .inl (fun z9 => (w z9).2.2)))] [(h0, .inr (0, [.ref a0, .ref a1, .int (nI 0), .ref a2, .ref a3, .ref a4, .int (nI 0), .long 0, .int (nI 0), .int (nI 0)])), (a0, .inl (ca 0, 512, .inl (fun z9 => nI (t z9).1))), (a1, .inl (ca 1, 512, .inl (fun z9 => (t z9).2))), (a2, .inl (ca 2, 65, .inl (fun z9 => nI (w z9).1))), (a3, .inl (ca 3, 65, .inr (.inl (fun z9 => (w z9).2.1)))), (a4, .inl (ca 4, 65, .inl (fun z9 => (w z9).2.2)))] sz) 0 0 (va_A [(h0, .inr (0, [.ref a0, .ref a1, .int (nI tn), .ref a2, .ref a3, .ref a4, .int (nI wn), .long g, .int (nI ko), .int (nI mw)])), (a0, .inl (ca 0, 512, .inl (fun z9 => nI (t z9).1))), (a1, .inl (ca 1, 512, .inl (fun z9 => (t z9).2))), (a2, .inl (ca 2, 65, .inl (fun z9 => nI (w z9).1))), (a3, .inl (ca 3, 65, .inr (.inl (fun z9 => (w z9).2.1)))), (a4, .inl (ca 4, 65, .inl (fun z9 => (w z9).2.2)))] sz) := by
  refine Met.ofW (cc := cX0_clear) (maxL := 1) (ret := none) (by decide) rfl ?_
  intro p e s m args below meth c s₁ B hml hv
  obtain ⟨hargs, hsz, hP, hK, hD0⟩ := hv
  have hx := B.exec
  have hb := B.bytes
  have hr := B.returns
  have hts := atoms_spec (ws := wsX0_clear) B.pre
  have hown : s.vm.findClass RX0 = some m.cls := findClass_of_methodNamed B.named
  have hlocks := B.notSynchronized
  subst hsz
  have hD := hD0.self (sz := s.heap.size)
  obtain ⟨A, hAe⟩ : ∃ A, A = va_A [(h0, .inr (0, [.ref a0, .ref a1, .int (nI tn), .ref a2, .ref a3, .ref a4, .int (nI wn), .long g, .int (nI ko), .int (nI mw)])), (a0, .inl (ca 0, 512, .inl (fun z9 => nI (t z9).1))), (a1, .inl (ca 1, 512, .inl (fun z9 => (t z9).2))), (a2, .inl (ca 2, 65, .inl (fun z9 => nI (w z9).1))), (a3, .inl (ca 3, 65, .inr (.inl (fun z9 => (w z9).2.1)))), (a4, .inl (ca 4, 65, .inl (fun z9 => (w z9).2.2)))] s.heap.size := ⟨_, rfl⟩
  rw [← hAe] at hD ⊢
  have hA : ∀ q : Nat, s.heap.size ≤ q → A q := fun q h => by rw [hAe]; exact Or.inr h
  have hS : va_S A s.heap s.heap [] := va_S.rf
  have hP : va_P (dC, dI) clS [(h0, .inr (0, [.ref a0, .ref a1, .int (nI tn), .ref a2, .ref a3, .ref a4, .int (nI wn), .long g, .int (nI ko), .int (nI mw)])), (a0, .inl (ca 0, 512, .inl (fun z9 => nI (t z9).1))), (a1, .inl (ca 1, 512, .inl (fun z9 => (t z9).2))), (a2, .inl (ca 2, 65, .inl (fun z9 => nI (w z9).1))), (a3, .inl (ca 3, 65, .inr (.inl (fun z9 => (w z9).2.1)))), (a4, .inl (ca 4, 65, .inl (fun z9 => (w z9).2.2)))] s.heap := hP
  have hl := lv_entry ([.ref h0]) (n := 1) (Nat.le_of_ble_eq_true rfl)
  have hE : entryFrame m args 1 = F0 m 0 ((lg_sl ([.ref h0]) ++ List.replicate (1 - (lg_sl ([.ref h0])).length) Slot.unset).toArray) [] := by rw [hargs]; exact lg_entry_eq m ([.ref h0]) 1
  rw [hE]
  generalize (lg_sl ([.ref h0]) ++ List.replicate (1 - (lg_sl ([.ref h0])).length) Slot.unset).toArray = ls at hl ⊢
  have hl : lv_has ls 1 [(0, .ref h0)] := hl
  refine lv_aload_n hx hb dX0_clear_0 rfl (lv_at hl 0 rfl) ?_
  refine lv_iconst (v := 0) hx hb dX0_clear_1 (by decide) ?_
  refine tp_i (y := nI 0) (nI_0.symm) ?_
  refine va_put (D := (dC, dI)) (ci := 0) (v := .int (nI 0)) (ty := .int) (C := RX0) (T := TX0) (N := 10) hx hb hts in_X0_clear_X0 tyX0 tyX0_ok nmX0 hown hK hP hD hS 0 rfl rfl 2 (by decide) (hts (.fieldLink RX0 26 "CausalGate" "throughCount" "I") (by decide +kernel)) (fun _ h9 => h9) rfl (by decide +kernel) rfl rfl (Nat.le_of_ble_eq_true rfl) dX0_clear_2 (fun H locs hP hD hS => ?_)
  have hP : va_P (dC, dI) clS [(h0, .inr (0, [.ref a0, .ref a1, .int (nI 0), .ref a2, .ref a3, .ref a4, .int (nI wn), .long g, .int (nI ko), .int (nI mw)])), (a0, .inl (ca 0, 512, .inl (fun z9 => nI (t z9).1))), (a1, .inl (ca 1, 512, .inl (fun z9 => (t z9).2))), (a2, .inl (ca 2, 65, .inl (fun z9 => nI (w z9).1))), (a3, .inl (ca 3, 65, .inr (.inl (fun z9 => (w z9).2.1)))), (a4, .inl (ca 4, 65, .inl (fun z9 => (w z9).2.2)))] H := hP
  have hD : va_D A [(h0, .inr (0, [.ref a0, .ref a1, .int (nI 0), .ref a2, .ref a3, .ref a4, .int (nI wn), .long g, .int (nI ko), .int (nI mw)])), (a0, .inl (ca 0, 512, .inl (fun z9 => nI (t z9).1))), (a1, .inl (ca 1, 512, .inl (fun z9 => (t z9).2))), (a2, .inl (ca 2, 65, .inl (fun z9 => nI (w z9).1))), (a3, .inl (ca 3, 65, .inr (.inl (fun z9 => (w z9).2.1)))), (a4, .inl (ca 4, 65, .inl (fun z9 => (w z9).2.2)))] := hD
  refine lv_aload_n hx hb dX0_clear_5 rfl (lv_at hl 0 rfl) ?_
  refine lv_iconst (v := 0) hx hb dX0_clear_6 (by decide) ?_
  refine tp_i (y := nI 0) (nI_0.symm) ?_
  refine va_put (D := (dC, dI)) (ci := 0) (v := .int (nI 0)) (ty := .int) (C := RX0) (T := TX0) (N := 10) hx hb hts in_X0_clear_X0 tyX0 tyX0_ok nmX0 hown hK hP hD hS 0 rfl rfl 6 (by decide) (hts (.fieldLink RX0 30 "CausalGate" "waitCount" "I") (by decide +kernel)) (fun _ h9 => h9) rfl (by decide +kernel) rfl rfl (Nat.le_of_ble_eq_true rfl) dX0_clear_7 (fun H locs hP hD hS => ?_)
  have hP : va_P (dC, dI) clS [(h0, .inr (0, [.ref a0, .ref a1, .int (nI 0), .ref a2, .ref a3, .ref a4, .int (nI 0), .long g, .int (nI ko), .int (nI mw)])), (a0, .inl (ca 0, 512, .inl (fun z9 => nI (t z9).1))), (a1, .inl (ca 1, 512, .inl (fun z9 => (t z9).2))), (a2, .inl (ca 2, 65, .inl (fun z9 => nI (w z9).1))), (a3, .inl (ca 3, 65, .inr (.inl (fun z9 => (w z9).2.1)))), (a4, .inl (ca 4, 65, .inl (fun z9 => (w z9).2.2)))] H := hP
  have hD : va_D A [(h0, .inr (0, [.ref a0, .ref a1, .int (nI 0), .ref a2, .ref a3, .ref a4, .int (nI 0), .long g, .int (nI ko), .int (nI mw)])), (a0, .inl (ca 0, 512, .inl (fun z9 => nI (t z9).1))), (a1, .inl (ca 1, 512, .inl (fun z9 => (t z9).2))), (a2, .inl (ca 2, 65, .inl (fun z9 => nI (w z9).1))), (a3, .inl (ca 3, 65, .inr (.inl (fun z9 => (w z9).2.1)))), (a4, .inl (ca 4, 65, .inl (fun z9 => (w z9).2.2)))] := hD
  refine lv_aload_n hx hb dX0_clear_10 rfl (lv_at hl 0 rfl) ?_
  refine lv_lconst (v := 0) hx hb dX0_clear_11 (by decide) ?_
  refine va_put (D := (dC, dI)) (ci := 0) (v := .long 0) (ty := .long) (C := RX0) (T := TX0) (N := 10) hx hb hts in_X0_clear_X0 tyX0 tyX0_ok nmX0 hown hK hP hD hS 0 rfl rfl 7 (by decide) (hts (.fieldLink RX0 33 "CausalGate" "gateClock" "J") (by decide +kernel)) (fun _ h9 => h9) rfl (by decide +kernel) rfl rfl (Nat.le_of_ble_eq_true rfl) dX0_clear_12 (fun H locs hP hD hS => ?_)
  have hP : va_P (dC, dI) clS [(h0, .inr (0, [.ref a0, .ref a1, .int (nI 0), .ref a2, .ref a3, .ref a4, .int (nI 0), .long 0, .int (nI ko), .int (nI mw)])), (a0, .inl (ca 0, 512, .inl (fun z9 => nI (t z9).1))), (a1, .inl (ca 1, 512, .inl (fun z9 => (t z9).2))), (a2, .inl (ca 2, 65, .inl (fun z9 => nI (w z9).1))), (a3, .inl (ca 3, 65, .inr (.inl (fun z9 => (w z9).2.1)))), (a4, .inl (ca 4, 65, .inl (fun z9 => (w z9).2.2)))] H := hP
  have hD : va_D A [(h0, .inr (0, [.ref a0, .ref a1, .int (nI 0), .ref a2, .ref a3, .ref a4, .int (nI 0), .long 0, .int (nI ko), .int (nI mw)])), (a0, .inl (ca 0, 512, .inl (fun z9 => nI (t z9).1))), (a1, .inl (ca 1, 512, .inl (fun z9 => (t z9).2))), (a2, .inl (ca 2, 65, .inl (fun z9 => nI (w z9).1))), (a3, .inl (ca 3, 65, .inr (.inl (fun z9 => (w z9).2.1)))), (a4, .inl (ca 4, 65, .inl (fun z9 => (w z9).2.2)))] := hD
  refine lv_aload_n hx hb dX0_clear_15 rfl (lv_at hl 0 rfl) ?_
  refine lv_iconst (v := 0) hx hb dX0_clear_16 (by decide) ?_
  refine tp_i (y := nI 0) (nI_0.symm) ?_
  refine va_put (D := (dC, dI)) (ci := 0) (v := .int (nI 0)) (ty := .int) (C := RX0) (T := TX0) (N := 10) hx hb hts in_X0_clear_X0 tyX0 tyX0_ok nmX0 hown hK hP hD hS 0 rfl rfl 8 (by decide) (hts (.fieldLink RX0 37 "CausalGate" "knownOffers" "I") (by decide +kernel)) (fun _ h9 => h9) rfl (by decide +kernel) rfl rfl (Nat.le_of_ble_eq_true rfl) dX0_clear_17 (fun H locs hP hD hS => ?_)
  have hP : va_P (dC, dI) clS [(h0, .inr (0, [.ref a0, .ref a1, .int (nI 0), .ref a2, .ref a3, .ref a4, .int (nI 0), .long 0, .int (nI 0), .int (nI mw)])), (a0, .inl (ca 0, 512, .inl (fun z9 => nI (t z9).1))), (a1, .inl (ca 1, 512, .inl (fun z9 => (t z9).2))), (a2, .inl (ca 2, 65, .inl (fun z9 => nI (w z9).1))), (a3, .inl (ca 3, 65, .inr (.inl (fun z9 => (w z9).2.1)))), (a4, .inl (ca 4, 65, .inl (fun z9 => (w z9).2.2)))] H := hP
  have hD : va_D A [(h0, .inr (0, [.ref a0, .ref a1, .int (nI 0), .ref a2, .ref a3, .ref a4, .int (nI 0), .long 0, .int (nI 0), .int (nI mw)])), (a0, .inl (ca 0, 512, .inl (fun z9 => nI (t z9).1))), (a1, .inl (ca 1, 512, .inl (fun z9 => (t z9).2))), (a2, .inl (ca 2, 65, .inl (fun z9 => nI (w z9).1))), (a3, .inl (ca 3, 65, .inr (.inl (fun z9 => (w z9).2.1)))), (a4, .inl (ca 4, 65, .inl (fun z9 => (w z9).2.2)))] := hD
  refine lv_aload_n hx hb dX0_clear_20 rfl (lv_at hl 0 rfl) ?_
  refine lv_iconst (v := 0) hx hb dX0_clear_21 (by decide) ?_
  refine tp_i (y := nI 0) (nI_0.symm) ?_
  refine va_put (D := (dC, dI)) (ci := 0) (v := .int (nI 0)) (ty := .int) (C := RX0) (T := TX0) (N := 10) hx hb hts in_X0_clear_X0 tyX0 tyX0_ok nmX0 hown hK hP hD hS 0 rfl rfl 9 (by decide) (hts (.fieldLink RX0 40 "CausalGate" "mostWaited" "I") (by decide +kernel)) (fun _ h9 => h9) rfl (by decide +kernel) rfl rfl (Nat.le_of_ble_eq_true rfl) dX0_clear_22 (fun H locs hP hD hS => ?_)
  have hP : va_P (dC, dI) clS [(h0, .inr (0, [.ref a0, .ref a1, .int (nI 0), .ref a2, .ref a3, .ref a4, .int (nI 0), .long 0, .int (nI 0), .int (nI 0)])), (a0, .inl (ca 0, 512, .inl (fun z9 => nI (t z9).1))), (a1, .inl (ca 1, 512, .inl (fun z9 => (t z9).2))), (a2, .inl (ca 2, 65, .inl (fun z9 => nI (w z9).1))), (a3, .inl (ca 3, 65, .inr (.inl (fun z9 => (w z9).2.1)))), (a4, .inl (ca 4, 65, .inl (fun z9 => (w z9).2.2)))] H := hP
  have hD : va_D A [(h0, .inr (0, [.ref a0, .ref a1, .int (nI 0), .ref a2, .ref a3, .ref a4, .int (nI 0), .long 0, .int (nI 0), .int (nI 0)])), (a0, .inl (ca 0, 512, .inl (fun z9 => nI (t z9).1))), (a1, .inl (ca 1, 512, .inl (fun z9 => (t z9).2))), (a2, .inl (ca 2, 65, .inl (fun z9 => nI (w z9).1))), (a3, .inl (ca 3, 65, .inr (.inl (fun z9 => (w z9).2.1)))), (a4, .inl (ca 4, 65, .inl (fun z9 => (w z9).2.2)))] := hD
  exact mv_ret hx hb hr hlocks hAe hP hD hS dX0_clear_25

set_option maxRecDepth 20000 in
theorem in_X0_moveWaiting_X0 : ∀ w ∈ wsX00, w ∈ wsX0_moveWaiting := by decide +kernel

set_option maxHeartbeats 4000000 in
set_option maxRecDepth 100000 in
theorem k_moveWaiting (l : Launch) (dC : Nat → ClassId) (dI : Nat → Nat → Nat) (ca : Nat → ClassId) (h0 a0 a1 a2 a3 a4 : Nat) (t : TF) (tn : Nat) (w : WF) (wn : Nat) (g : Int64) (ko mw : Nat) (sz : Nat) (i q : Nat) (hi : i < 65) (hq : q < 65) : Met l yX0_moveWaiting wsX0_moveWaiting ({ frames := 0, cells := 0, slots := 0, locals := 0 }) (Pm [.ref h0, .int (nI i), .int (nI q)] (dC, dI) clS [(ca 0, .int), (ca 1, .int), (ca 2, .int), (ca 3, .long), (ca 4, .int)] [(h0, .inr (0, [.ref a0, .ref a1, .int (nI tn), .ref a2, .ref a3, .ref a4, .int (nI wn), .long g, .int (nI ko), .int (nI mw)])), (a0, .inl (ca 0, 512, .inl (fun z9 => nI (t z9).1))), (a1, .inl (ca 1, 512, .inl (fun z9 => (t z9).2))), (a2, .inl (ca 2, 65, .inl (fun z9 => nI (w z9).1))), (a3, .inl (ca 3, 65, .inr (.inl (fun z9 => (w z9).2.1)))), (a4, .inl (ca 4, 65, .inl (fun z9 => (w z9).2.2)))] sz) (QmV (dC, dI) clS [(h0, .inr (0, [.ref a0, .ref a1, .int (nI tn), .ref a2, .ref a3, .ref a4, .int (nI wn), .long g, .int (nI ko), .int (nI mw)])), (a0, .inl (ca 0, 512, .inl (fun z9 => nI (t z9).1))), (a1, .inl (ca 1, 512, .inl (fun z9 => (t z9).2))), (a2, .inl (ca 2, 65, .inl (fun z9 => nI (w z9).1))), (a3, .inl (ca 3, 65, .inr (.inl (fun z9 => (w z9).2.1)))), (a4, .inl (ca 4, 65, .inl (fun z9 => (w z9).2.2)))] [(h0, .inr (0, [.ref a0, .ref a1, .int (nI tn), .ref a2, .ref a3, .ref a4, .int (nI wn), .long g, .int (nI ko), .int (nI mw)])), (a0, .inl (ca 0, 512, .inl (fun z9 => nI (t z9).1))), (a1, .inl (ca 1, 512, .inl (fun z9 => (t z9).2))), (a2, .inl (ca 2, 65, .inl (fun z9 => nI ((va_up w q (w i)) z9).1))), (a3, .inl (ca 3, 65, .inr (.inl (fun z9 => ((va_up w q (w i)) z9).2.1)))), (a4, .inl (ca 4, 65, .inl (fun z9 => ((va_up w q (w i)) z9).2.2)))] sz) 0 0 (va_A [(h0, .inr (0, [.ref a0, .ref a1, .int (nI tn), .ref a2, .ref a3, .ref a4, .int (nI wn), .long g, .int (nI ko), .int (nI mw)])), (a0, .inl (ca 0, 512, .inl (fun z9 => nI (t z9).1))), (a1, .inl (ca 1, 512, .inl (fun z9 => (t z9).2))), (a2, .inl (ca 2, 65, .inl (fun z9 => nI (w z9).1))), (a3, .inl (ca 3, 65, .inr (.inl (fun z9 => (w z9).2.1)))), (a4, .inl (ca 4, 65, .inl (fun z9 => (w z9).2.2)))] sz) := by
  refine Met.ofW (cc := cX0_moveWaiting) (maxL := 3) (ret := none) (by decide) rfl ?_
  intro p e s m args below meth c s₁ B hml hv
  obtain ⟨hargs, hsz, hP, hK, hD0⟩ := hv
  have hx := B.exec
  have hb := B.bytes
  have hr := B.returns
  have hts := atoms_spec (ws := wsX0_moveWaiting) B.pre
  have hown : s.vm.findClass RX0 = some m.cls := findClass_of_methodNamed B.named
  have hlocks := B.notSynchronized
  subst hsz
  have hD := hD0.self (sz := s.heap.size)
  obtain ⟨A, hAe⟩ : ∃ A, A = va_A [(h0, .inr (0, [.ref a0, .ref a1, .int (nI tn), .ref a2, .ref a3, .ref a4, .int (nI wn), .long g, .int (nI ko), .int (nI mw)])), (a0, .inl (ca 0, 512, .inl (fun z9 => nI (t z9).1))), (a1, .inl (ca 1, 512, .inl (fun z9 => (t z9).2))), (a2, .inl (ca 2, 65, .inl (fun z9 => nI (w z9).1))), (a3, .inl (ca 3, 65, .inr (.inl (fun z9 => (w z9).2.1)))), (a4, .inl (ca 4, 65, .inl (fun z9 => (w z9).2.2)))] s.heap.size := ⟨_, rfl⟩
  rw [← hAe] at hD ⊢
  have hA : ∀ q : Nat, s.heap.size ≤ q → A q := fun q h => by rw [hAe]; exact Or.inr h
  have hS : va_S A s.heap s.heap [] := va_S.rf
  have hP : va_P (dC, dI) clS [(h0, .inr (0, [.ref a0, .ref a1, .int (nI tn), .ref a2, .ref a3, .ref a4, .int (nI wn), .long g, .int (nI ko), .int (nI mw)])), (a0, .inl (ca 0, 512, .inl (fun z9 => nI (t z9).1))), (a1, .inl (ca 1, 512, .inl (fun z9 => (t z9).2))), (a2, .inl (ca 2, 65, .inl (fun z9 => nI (w z9).1))), (a3, .inl (ca 3, 65, .inr (.inl (fun z9 => (w z9).2.1)))), (a4, .inl (ca 4, 65, .inl (fun z9 => (w z9).2.2)))] s.heap := hP
  have hl := lv_entry ([.ref h0, .int (nI i), .int (nI q)]) (n := 3) (Nat.le_of_ble_eq_true rfl)
  have hE : entryFrame m args 3 = F0 m 0 ((lg_sl ([.ref h0, .int (nI i), .int (nI q)]) ++ List.replicate (3 - (lg_sl ([.ref h0, .int (nI i), .int (nI q)])).length) Slot.unset).toArray) [] := by rw [hargs]; exact lg_entry_eq m ([.ref h0, .int (nI i), .int (nI q)]) 3
  rw [hE]
  generalize (lg_sl ([.ref h0, .int (nI i), .int (nI q)]) ++ List.replicate (3 - (lg_sl ([.ref h0, .int (nI i), .int (nI q)])).length) Slot.unset).toArray = ls at hl ⊢
  have hl : lv_has ls 3 [(0, .ref h0), (1, .int (nI i)), (2, .int (nI q))] := hl
  refine lv_aload_n hx hb dX0_moveWaiting_0 rfl (lv_at hl 0 rfl) ?_
  refine va_get (D := (dC, dI)) (ci := 0) (v := .ref a2) (C := RX0) (T := TX0) (N := 10) hx hb hts in_X0_moveWaiting_X0 hown hK hP 0 rfl rfl 3 (by decide) (hts (.fieldLink RX0 16 "CausalGate" "waitKeys" "[I") (by decide +kernel)) (fun _ h9 => h9) rfl dX0_moveWaiting_1 ?_
  refine lv_iload_n hx hb dX0_moveWaiting_4 rfl (lv_at hl 2 rfl) ?_
  refine lv_aload_n hx hb dX0_moveWaiting_5 rfl (lv_at hl 0 rfl) ?_
  refine va_get (D := (dC, dI)) (ci := 0) (v := .ref a2) (C := RX0) (T := TX0) (N := 10) hx hb hts in_X0_moveWaiting_X0 hown hK hP 0 rfl rfl 3 (by decide) (hts (.fieldLink RX0 16 "CausalGate" "waitKeys" "[I") (by decide +kernel)) (fun _ h9 => h9) rfl dX0_moveWaiting_6 ?_
  refine lv_iload_n hx hb dX0_moveWaiting_9 rfl (lv_at hl 1 rfl) ?_
  refine va_iald hx hb hK hP 3 2 rfl rfl (vp_in_nI (by omega) (by decide)) dX0_moveWaiting_10 ?_
  refine tp_i (y := nI (w i).1) (by rw [nI_clamp (by omega)]) ?_
  refine va_iast hx hb hK hP hD hS 3 2 rfl rfl (vp_in_nI (by omega) (by decide)) dX0_moveWaiting_11 (fun H locs hP hD hS => ?_)
  rw [show upd (fun z9 => nI (w z9).1) (nI q).toNatClampNeg (nI (w i).1) = fun z9 => nI (va_up w q (w i) z9).1 from by rw [nI_clamp (by omega)]; exact up_k w q (w i)] at hP hD
  have hP : va_P (dC, dI) clS [(h0, .inr (0, [.ref a0, .ref a1, .int (nI tn), .ref a2, .ref a3, .ref a4, .int (nI wn), .long g, .int (nI ko), .int (nI mw)])), (a0, .inl (ca 0, 512, .inl (fun z9 => nI (t z9).1))), (a1, .inl (ca 1, 512, .inl (fun z9 => (t z9).2))), (a2, .inl (ca 2, 65, .inl (fun z9 => nI (va_up w q (w i) z9).1))), (a3, .inl (ca 3, 65, .inr (.inl (fun z9 => (w z9).2.1)))), (a4, .inl (ca 4, 65, .inl (fun z9 => (w z9).2.2)))] H := hP
  have hD : va_D A [(h0, .inr (0, [.ref a0, .ref a1, .int (nI tn), .ref a2, .ref a3, .ref a4, .int (nI wn), .long g, .int (nI ko), .int (nI mw)])), (a0, .inl (ca 0, 512, .inl (fun z9 => nI (t z9).1))), (a1, .inl (ca 1, 512, .inl (fun z9 => (t z9).2))), (a2, .inl (ca 2, 65, .inl (fun z9 => nI (va_up w q (w i) z9).1))), (a3, .inl (ca 3, 65, .inr (.inl (fun z9 => (w z9).2.1)))), (a4, .inl (ca 4, 65, .inl (fun z9 => (w z9).2.2)))] := hD
  refine lv_aload_n hx hb dX0_moveWaiting_12 rfl (lv_at hl 0 rfl) ?_
  refine va_get (D := (dC, dI)) (ci := 0) (v := .ref a3) (C := RX0) (T := TX0) (N := 10) hx hb hts in_X0_moveWaiting_X0 hown hK hP 0 rfl rfl 4 (by decide) (hts (.fieldLink RX0 19 "CausalGate" "waitClocks" "[J") (by decide +kernel)) (fun _ h9 => h9) rfl dX0_moveWaiting_13 ?_
  refine lv_iload_n hx hb dX0_moveWaiting_16 rfl (lv_at hl 2 rfl) ?_
  refine lv_aload_n hx hb dX0_moveWaiting_17 rfl (lv_at hl 0 rfl) ?_
  refine va_get (D := (dC, dI)) (ci := 0) (v := .ref a3) (C := RX0) (T := TX0) (N := 10) hx hb hts in_X0_moveWaiting_X0 hown hK hP 0 rfl rfl 4 (by decide) (hts (.fieldLink RX0 19 "CausalGate" "waitClocks" "[J") (by decide +kernel)) (fun _ h9 => h9) rfl dX0_moveWaiting_18 ?_
  refine lv_iload_n hx hb dX0_moveWaiting_21 rfl (lv_at hl 1 rfl) ?_
  refine va_lald hx hb hK hP 4 3 rfl rfl (vp_in_nI (by omega) (by decide)) dX0_moveWaiting_22 ?_
  refine tp_l (y := (w i).2.1) (by rw [nI_clamp (by omega)]) ?_
  refine va_last hx hb hK hP hD hS 4 3 rfl rfl (vp_in_nI (by omega) (by decide)) dX0_moveWaiting_23 (fun H locs hP hD hS => ?_)
  rw [show vp_updL (fun z9 => (w z9).2.1) (nI q).toNatClampNeg ((w i).2.1) = fun z9 => (va_up w q (w i) z9).2.1 from by rw [nI_clamp (by omega)]; exact up_c w q (w i)] at hP hD
  have hP : va_P (dC, dI) clS [(h0, .inr (0, [.ref a0, .ref a1, .int (nI tn), .ref a2, .ref a3, .ref a4, .int (nI wn), .long g, .int (nI ko), .int (nI mw)])), (a0, .inl (ca 0, 512, .inl (fun z9 => nI (t z9).1))), (a1, .inl (ca 1, 512, .inl (fun z9 => (t z9).2))), (a2, .inl (ca 2, 65, .inl (fun z9 => nI (va_up w q (w i) z9).1))), (a3, .inl (ca 3, 65, .inr (.inl (fun z9 => (va_up w q (w i) z9).2.1)))), (a4, .inl (ca 4, 65, .inl (fun z9 => (w z9).2.2)))] H := hP
  have hD : va_D A [(h0, .inr (0, [.ref a0, .ref a1, .int (nI tn), .ref a2, .ref a3, .ref a4, .int (nI wn), .long g, .int (nI ko), .int (nI mw)])), (a0, .inl (ca 0, 512, .inl (fun z9 => nI (t z9).1))), (a1, .inl (ca 1, 512, .inl (fun z9 => (t z9).2))), (a2, .inl (ca 2, 65, .inl (fun z9 => nI (va_up w q (w i) z9).1))), (a3, .inl (ca 3, 65, .inr (.inl (fun z9 => (va_up w q (w i) z9).2.1)))), (a4, .inl (ca 4, 65, .inl (fun z9 => (w z9).2.2)))] := hD
  refine lv_aload_n hx hb dX0_moveWaiting_24 rfl (lv_at hl 0 rfl) ?_
  refine va_get (D := (dC, dI)) (ci := 0) (v := .ref a4) (C := RX0) (T := TX0) (N := 10) hx hb hts in_X0_moveWaiting_X0 hown hK hP 0 rfl rfl 5 (by decide) (hts (.fieldLink RX0 23 "CausalGate" "waitLabels" "[I") (by decide +kernel)) (fun _ h9 => h9) rfl dX0_moveWaiting_25 ?_
  refine lv_iload_n hx hb dX0_moveWaiting_28 rfl (lv_at hl 2 rfl) ?_
  refine lv_aload_n hx hb dX0_moveWaiting_29 rfl (lv_at hl 0 rfl) ?_
  refine va_get (D := (dC, dI)) (ci := 0) (v := .ref a4) (C := RX0) (T := TX0) (N := 10) hx hb hts in_X0_moveWaiting_X0 hown hK hP 0 rfl rfl 5 (by decide) (hts (.fieldLink RX0 23 "CausalGate" "waitLabels" "[I") (by decide +kernel)) (fun _ h9 => h9) rfl dX0_moveWaiting_30 ?_
  refine lv_iload_n hx hb dX0_moveWaiting_33 rfl (lv_at hl 1 rfl) ?_
  refine va_iald hx hb hK hP 5 4 rfl rfl (vp_in_nI (by omega) (by decide)) dX0_moveWaiting_34 ?_
  refine tp_i (y := (w i).2.2) (by rw [nI_clamp (by omega)]) ?_
  refine va_iast hx hb hK hP hD hS 5 4 rfl rfl (vp_in_nI (by omega) (by decide)) dX0_moveWaiting_35 (fun H locs hP hD hS => ?_)
  rw [show upd (fun z9 => (w z9).2.2) (nI q).toNatClampNeg ((w i).2.2) = fun z9 => (va_up w q (w i) z9).2.2 from by rw [nI_clamp (by omega)]; exact up_l w q (w i)] at hP hD
  have hP : va_P (dC, dI) clS [(h0, .inr (0, [.ref a0, .ref a1, .int (nI tn), .ref a2, .ref a3, .ref a4, .int (nI wn), .long g, .int (nI ko), .int (nI mw)])), (a0, .inl (ca 0, 512, .inl (fun z9 => nI (t z9).1))), (a1, .inl (ca 1, 512, .inl (fun z9 => (t z9).2))), (a2, .inl (ca 2, 65, .inl (fun z9 => nI (va_up w q (w i) z9).1))), (a3, .inl (ca 3, 65, .inr (.inl (fun z9 => (va_up w q (w i) z9).2.1)))), (a4, .inl (ca 4, 65, .inl (fun z9 => (va_up w q (w i) z9).2.2)))] H := hP
  have hD : va_D A [(h0, .inr (0, [.ref a0, .ref a1, .int (nI tn), .ref a2, .ref a3, .ref a4, .int (nI wn), .long g, .int (nI ko), .int (nI mw)])), (a0, .inl (ca 0, 512, .inl (fun z9 => nI (t z9).1))), (a1, .inl (ca 1, 512, .inl (fun z9 => (t z9).2))), (a2, .inl (ca 2, 65, .inl (fun z9 => nI (va_up w q (w i) z9).1))), (a3, .inl (ca 3, 65, .inr (.inl (fun z9 => (va_up w q (w i) z9).2.1)))), (a4, .inl (ca 4, 65, .inl (fun z9 => (va_up w q (w i) z9).2.2)))] := hD
  exact mv_ret hx hb hr hlocks hAe hP hD hS dX0_moveWaiting_36

set_option maxRecDepth 20000 in
theorem in_X0_removeWaiting_X0 : ∀ w ∈ wsX00, w ∈ wsX0_removeWaiting := by decide +kernel

set_option maxHeartbeats 4000000 in
set_option maxRecDepth 100000 in
theorem k_removeWaiting (l : Launch) (dC : Nat → ClassId) (dI : Nat → Nat → Nat) (ca : Nat → ClassId) (h0 a0 a1 a2 a3 a4 : Nat) (t : TF) (tn : Nat) (w : WF) (wn : Nat) (g : Int64) (ko mw : Nat) (sz : Nat) (q : Nat) (hq : q < wn) (hwn : wn ≤ 65) : Met l yX0_removeWaiting wsX0_removeWaiting ({ frames := 1, cells := 0, slots := 0, locals := 22 }) (Pm [.ref h0, .int (nI q)] (dC, dI) clS [(ca 0, .int), (ca 1, .int), (ca 2, .int), (ca 3, .long), (ca 4, .int)] [(h0, .inr (0, [.ref a0, .ref a1, .int (nI tn), .ref a2, .ref a3, .ref a4, .int (nI wn), .long g, .int (nI ko), .int (nI mw)])), (a0, .inl (ca 0, 512, .inl (fun z9 => nI (t z9).1))), (a1, .inl (ca 1, 512, .inl (fun z9 => (t z9).2))), (a2, .inl (ca 2, 65, .inl (fun z9 => nI (w z9).1))), (a3, .inl (ca 3, 65, .inr (.inl (fun z9 => (w z9).2.1)))), (a4, .inl (ca 4, 65, .inl (fun z9 => (w z9).2.2)))] sz) (QmV (dC, dI) clS [(h0, .inr (0, [.ref a0, .ref a1, .int (nI tn), .ref a2, .ref a3, .ref a4, .int (nI wn), .long g, .int (nI ko), .int (nI mw)])), (a0, .inl (ca 0, 512, .inl (fun z9 => nI (t z9).1))), (a1, .inl (ca 1, 512, .inl (fun z9 => (t z9).2))), (a2, .inl (ca 2, 65, .inl (fun z9 => nI (w z9).1))), (a3, .inl (ca 3, 65, .inr (.inl (fun z9 => (w z9).2.1)))), (a4, .inl (ca 4, 65, .inl (fun z9 => (w z9).2.2)))] [(h0, .inr (0, [.ref a0, .ref a1, .int (nI tn), .ref a2, .ref a3, .ref a4, .int (nI (wn - 1)), .long g, .int (nI ko), .int (nI mw)])), (a0, .inl (ca 0, 512, .inl (fun z9 => nI (t z9).1))), (a1, .inl (ca 1, 512, .inl (fun z9 => (t z9).2))), (a2, .inl (ca 2, 65, .inl (fun z9 => nI ((rmS (wn - (q + 1)) (q + 1) w) z9).1))), (a3, .inl (ca 3, 65, .inr (.inl (fun z9 => ((rmS (wn - (q + 1)) (q + 1) w) z9).2.1)))), (a4, .inl (ca 4, 65, .inl (fun z9 => ((rmS (wn - (q + 1)) (q + 1) w) z9).2.2)))] sz) 0 0 (va_A [(h0, .inr (0, [.ref a0, .ref a1, .int (nI tn), .ref a2, .ref a3, .ref a4, .int (nI wn), .long g, .int (nI ko), .int (nI mw)])), (a0, .inl (ca 0, 512, .inl (fun z9 => nI (t z9).1))), (a1, .inl (ca 1, 512, .inl (fun z9 => (t z9).2))), (a2, .inl (ca 2, 65, .inl (fun z9 => nI (w z9).1))), (a3, .inl (ca 3, 65, .inr (.inl (fun z9 => (w z9).2.1)))), (a4, .inl (ca 4, 65, .inl (fun z9 => (w z9).2.2)))] sz) := by
  refine Met.ofW (cc := cX0_removeWaiting) (maxL := 3) (ret := none) (by decide) rfl ?_
  intro p e s m args below meth c s₁ B hml hv
  obtain ⟨hargs, hsz, hP, hK, hD0⟩ := hv
  have hx := B.exec
  have hb := B.bytes
  have hr := B.returns
  have hts := atoms_spec (ws := wsX0_removeWaiting) B.pre
  have hown : s.vm.findClass RX0 = some m.cls := findClass_of_methodNamed B.named
  have hlocks := B.notSynchronized
  subst hsz
  have hD := hD0.self (sz := s.heap.size)
  obtain ⟨A, hAe⟩ : ∃ A, A = va_A [(h0, .inr (0, [.ref a0, .ref a1, .int (nI tn), .ref a2, .ref a3, .ref a4, .int (nI wn), .long g, .int (nI ko), .int (nI mw)])), (a0, .inl (ca 0, 512, .inl (fun z9 => nI (t z9).1))), (a1, .inl (ca 1, 512, .inl (fun z9 => (t z9).2))), (a2, .inl (ca 2, 65, .inl (fun z9 => nI (w z9).1))), (a3, .inl (ca 3, 65, .inr (.inl (fun z9 => (w z9).2.1)))), (a4, .inl (ca 4, 65, .inl (fun z9 => (w z9).2.2)))] s.heap.size := ⟨_, rfl⟩
  rw [← hAe] at hD ⊢
  have hA : ∀ q : Nat, s.heap.size ≤ q → A q := fun q h => by rw [hAe]; exact Or.inr h
  have hS : va_S A s.heap s.heap [] := va_S.rf
  have hP : va_P (dC, dI) clS [(h0, .inr (0, [.ref a0, .ref a1, .int (nI tn), .ref a2, .ref a3, .ref a4, .int (nI wn), .long g, .int (nI ko), .int (nI mw)])), (a0, .inl (ca 0, 512, .inl (fun z9 => nI (t z9).1))), (a1, .inl (ca 1, 512, .inl (fun z9 => (t z9).2))), (a2, .inl (ca 2, 65, .inl (fun z9 => nI (w z9).1))), (a3, .inl (ca 3, 65, .inr (.inl (fun z9 => (w z9).2.1)))), (a4, .inl (ca 4, 65, .inl (fun z9 => (w z9).2.2)))] s.heap := hP
  have hl := lv_entry ([.ref h0, .int (nI q)]) (n := 3) (Nat.le_of_ble_eq_true rfl)
  have hE : entryFrame m args 3 = F0 m 0 ((lg_sl ([.ref h0, .int (nI q)]) ++ List.replicate (3 - (lg_sl ([.ref h0, .int (nI q)])).length) Slot.unset).toArray) [] := by rw [hargs]; exact lg_entry_eq m ([.ref h0, .int (nI q)]) 3
  rw [hE]
  generalize (lg_sl ([.ref h0, .int (nI q)]) ++ List.replicate (3 - (lg_sl ([.ref h0, .int (nI q)])).length) Slot.unset).toArray = ls at hl ⊢
  have hl : lv_has ls 3 [(0, .ref h0), (1, .int (nI q))] := hl
  refine lv_iload_n hx hb dX0_removeWaiting_0 rfl (lv_at hl 1 rfl) ?_
  refine lv_iconst (v := 1) hx hb dX0_removeWaiting_1 (by decide) ?_
  refine lv_iadd hx hb dX0_removeWaiting_2 ?_
  refine tp_i (y := nI (q + 1)) (nI_1 q) ?_
  refine lv_istore_n (lv' := [(2, .int (nI (q + 1))), (0, .ref h0), (1, .int (nI q))]) hx hb dX0_removeWaiting_3 rfl hl (by decide) rfl (fun ls hl => ?_)
  have loop : ∀ (n : Nat) (j : Nat) (v : WF), 1 ≤ j → j + n = wn → rmS n j v = rmS (wn - (q + 1)) (q + 1) w → ∀ (H : Heap) (locs : List Loc), va_P (dC, dI) clS [(h0, .inr (0, [.ref a0, .ref a1, .int (nI tn), .ref a2, .ref a3, .ref a4, .int (nI wn), .long g, .int (nI ko), .int (nI mw)])), (a0, .inl (ca 0, 512, .inl (fun z9 => nI (t z9).1))), (a1, .inl (ca 1, 512, .inl (fun z9 => (t z9).2))), (a2, .inl (ca 2, 65, .inl (fun z9 => nI (v z9).1))), (a3, .inl (ca 3, 65, .inr (.inl (fun z9 => (v z9).2.1)))), (a4, .inl (ca 4, 65, .inl (fun z9 => (v z9).2.2)))] H → va_D A [(h0, .inr (0, [.ref a0, .ref a1, .int (nI tn), .ref a2, .ref a3, .ref a4, .int (nI wn), .long g, .int (nI ko), .int (nI mw)])), (a0, .inl (ca 0, 512, .inl (fun z9 => nI (t z9).1))), (a1, .inl (ca 1, 512, .inl (fun z9 => (t z9).2))), (a2, .inl (ca 2, 65, .inl (fun z9 => nI (v z9).1))), (a3, .inl (ca 3, 65, .inr (.inl (fun z9 => (v z9).2.1)))), (a4, .inl (ca 4, 65, .inl (fun z9 => (v z9).2.2)))] → va_S A s.heap H locs → ∀ ls : Array Slot, lv_has ls 3 [(0, .ref h0), (1, .int (nI q)), (2, .int (nI j))] → W p l e (headSpec wsX0_removeWaiting ({ frames := 1, cells := 0, slots := 0, locals := 22 })).room s m args below meth c H locs 0 0 (MQ below (QmV (dC, dI) clS [(h0, .inr (0, [.ref a0, .ref a1, .int (nI tn), .ref a2, .ref a3, .ref a4, .int (nI wn), .long g, .int (nI ko), .int (nI mw)])), (a0, .inl (ca 0, 512, .inl (fun z9 => nI (t z9).1))), (a1, .inl (ca 1, 512, .inl (fun z9 => (t z9).2))), (a2, .inl (ca 2, 65, .inl (fun z9 => nI (w z9).1))), (a3, .inl (ca 3, 65, .inr (.inl (fun z9 => (w z9).2.1)))), (a4, .inl (ca 4, 65, .inl (fun z9 => (w z9).2.2)))] [(h0, .inr (0, [.ref a0, .ref a1, .int (nI tn), .ref a2, .ref a3, .ref a4, .int (nI (wn - 1)), .long g, .int (nI ko), .int (nI mw)])), (a0, .inl (ca 0, 512, .inl (fun z9 => nI (t z9).1))), (a1, .inl (ca 1, 512, .inl (fun z9 => (t z9).2))), (a2, .inl (ca 2, 65, .inl (fun z9 => nI ((rmS (wn - (q + 1)) (q + 1) w) z9).1))), (a3, .inl (ca 3, 65, .inr (.inl (fun z9 => ((rmS (wn - (q + 1)) (q + 1) w) z9).2.1)))), (a4, .inl (ca 4, 65, .inl (fun z9 => ((rmS (wn - (q + 1)) (q + 1) w) z9).2.2)))] s.heap.size) args s 0 0 A) (F0 m 4 ls []) := by
    intro n
    induction n with
    | zero =>
      intro j v hj1 hj hk9 H locs hP hD hS ls hl
      refine lv_iload_n hx hb dX0_removeWaiting_4 rfl (lv_at hl 2 rfl) ?_
      refine lv_aload_n hx hb dX0_removeWaiting_5 rfl (lv_at hl 0 rfl) ?_
      refine va_get (D := (dC, dI)) (ci := 0) (v := .int (nI wn)) (C := RX0) (T := TX0) (N := 10) hx hb hts in_X0_removeWaiting_X0 hown hK hP 0 rfl rfl 6 (by decide) (hts (.fieldLink RX0 30 "CausalGate" "waitCount" "I") (by decide +kernel)) (fun _ h9 => h9) rfl dX0_removeWaiting_6 ?_
      refine lv_icmp_ge (tgt := 26) hx hb dX0_removeWaiting_9 (by decide) (fun c_9 => ?_) (fun c_9 => ?_)
      · refine lv_aload_n hx hb dX0_removeWaiting_26 rfl (lv_at hl 0 rfl) ?_
        refine lv_dup hx hb dX0_removeWaiting_27 rfl ?_
        refine va_get (D := (dC, dI)) (ci := 0) (v := .int (nI wn)) (C := RX0) (T := TX0) (N := 10) hx hb hts in_X0_removeWaiting_X0 hown hK hP 0 rfl rfl 6 (by decide) (hts (.fieldLink RX0 30 "CausalGate" "waitCount" "I") (by decide +kernel)) (fun _ h9 => h9) rfl dX0_removeWaiting_28 ?_
        refine lv_iconst (v := 1) hx hb dX0_removeWaiting_31 (by decide) ?_
        refine lv_isub hx hb dX0_removeWaiting_32 ?_
        refine tp_i (y := nI (wn - 1)) (pk_sub (b := 1) (by omega)) ?_
        refine va_put (D := (dC, dI)) (ci := 0) (v := .int (nI (wn - 1))) (ty := .int) (C := RX0) (T := TX0) (N := 10) hx hb hts in_X0_removeWaiting_X0 tyX0 tyX0_ok nmX0 hown hK hP hD hS 0 rfl rfl 6 (by decide) (hts (.fieldLink RX0 30 "CausalGate" "waitCount" "I") (by decide +kernel)) (fun _ h9 => h9) rfl (by decide +kernel) rfl rfl (Nat.le_of_ble_eq_true rfl) dX0_removeWaiting_33 (fun H locs hP hD hS => ?_)
        have hP : va_P (dC, dI) clS [(h0, .inr (0, [.ref a0, .ref a1, .int (nI tn), .ref a2, .ref a3, .ref a4, .int (nI (wn - 1)), .long g, .int (nI ko), .int (nI mw)])), (a0, .inl (ca 0, 512, .inl (fun z9 => nI (t z9).1))), (a1, .inl (ca 1, 512, .inl (fun z9 => (t z9).2))), (a2, .inl (ca 2, 65, .inl (fun z9 => nI (v z9).1))), (a3, .inl (ca 3, 65, .inr (.inl (fun z9 => (v z9).2.1)))), (a4, .inl (ca 4, 65, .inl (fun z9 => (v z9).2.2)))] H := hP
        have hD : va_D A [(h0, .inr (0, [.ref a0, .ref a1, .int (nI tn), .ref a2, .ref a3, .ref a4, .int (nI (wn - 1)), .long g, .int (nI ko), .int (nI mw)])), (a0, .inl (ca 0, 512, .inl (fun z9 => nI (t z9).1))), (a1, .inl (ca 1, 512, .inl (fun z9 => (t z9).2))), (a2, .inl (ca 2, 65, .inl (fun z9 => nI (v z9).1))), (a3, .inl (ca 3, 65, .inr (.inl (fun z9 => (v z9).2.1)))), (a4, .inl (ca 4, 65, .inl (fun z9 => (v z9).2.2)))] := hD
        have hk8 : v = rmS (wn - (q + 1)) (q + 1) w := hk9
        subst hk8
        exact mv_ret hx hb hr hlocks hAe hP hD hS dX0_removeWaiting_36
      · exact absurd (nI_le (by omega) (by omega)) c_9
    | succ n ih =>
      intro j v hj1 hj hk9 H locs hP hD hS ls hl
      refine lv_iload_n hx hb dX0_removeWaiting_4 rfl (lv_at hl 2 rfl) ?_
      refine lv_aload_n hx hb dX0_removeWaiting_5 rfl (lv_at hl 0 rfl) ?_
      refine va_get (D := (dC, dI)) (ci := 0) (v := .int (nI wn)) (C := RX0) (T := TX0) (N := 10) hx hb hts in_X0_removeWaiting_X0 hown hK hP 0 rfl rfl 6 (by decide) (hts (.fieldLink RX0 30 "CausalGate" "waitCount" "I") (by decide +kernel)) (fun _ h9 => h9) rfl dX0_removeWaiting_6 ?_
      refine lv_icmp_ge (tgt := 26) hx hb dX0_removeWaiting_9 (by decide) (fun c_9 => ?_) (fun c_9 => ?_)
      · exact absurd ((nI_leI (by omega) (by omega)).mp c_9) (by omega)
      · refine lv_aload_n hx hb dX0_removeWaiting_12 rfl (lv_at hl 0 rfl) ?_
        refine lv_iload_n hx hb dX0_removeWaiting_13 rfl (lv_at hl 2 rfl) ?_
        refine lv_iload_n hx hb dX0_removeWaiting_14 rfl (lv_at hl 2 rfl) ?_
        refine lv_iconst (v := 1) hx hb dX0_removeWaiting_15 (by decide) ?_
        refine lv_isub hx hb dX0_removeWaiting_16 ?_
        refine tp_i (y := nI (j - 1)) (pk_sub (b := 1) (by omega)) ?_
        refine mt_v (wc := [(h0, .inr (0, [.ref a0, .ref a1, .int (nI tn), .ref a2, .ref a3, .ref a4, .int (nI wn), .long g, .int (nI ko), .int (nI mw)])), (a0, .inl (ca 0, 512, .inl (fun z9 => nI (t z9).1))), (a1, .inl (ca 1, 512, .inl (fun z9 => (t z9).2))), (a2, .inl (ca 2, 65, .inl (fun z9 => nI (v z9).1))), (a3, .inl (ca 3, 65, .inr (.inl (fun z9 => (v z9).2.1)))), (a4, .inl (ca 4, 65, .inl (fun z9 => (v z9).2.2)))]) (wr := []) (w1 := [(h0, .inr (0, [.ref a0, .ref a1, .int (nI tn), .ref a2, .ref a3, .ref a4, .int (nI wn), .long g, .int (nI ko), .int (nI mw)])), (a0, .inl (ca 0, 512, .inl (fun z9 => nI (t z9).1))), (a1, .inl (ca 1, 512, .inl (fun z9 => (t z9).2))), (a2, .inl (ca 2, 65, .inl (fun z9 => nI ((va_up v (j - 1) (v j)) z9).1))), (a3, .inl (ca 3, 65, .inr (.inl (fun z9 => ((va_up v (j - 1) (v j)) z9).2.1)))), (a4, .inl (ca 4, 65, .inl (fun z9 => ((va_up v (j - 1) (v j)) z9).2.2)))]) [0, 1, 2, 3, 4, 5] [] hP hD hS hA rfl rfl (by decide) (by decide) (va_runV (mc := 0) (ms := 0) (As := [.int (nI j), .int (nI (j - 1))]) (rest := []) ⟨hx, hb, hml, hown, hts⟩ (k_moveWaiting l dC dI ca h0 a0 a1 a2 a3 a4 t tn v wn g ko mw _ j (j - 1) (by omega) (by omega)) (cwV 2 hts gX0_removeWaiting_X0_moveWaiting rfl rfl rfl (by decide +kernel) ⟨Nat.le_of_ble_eq_true rfl, Nat.le_of_ble_eq_true rfl⟩) (pm_V (ci := 0) (q0 := 0) hK (hP.sub (ws' := [(h0, .inr (0, [.ref a0, .ref a1, .int (nI tn), .ref a2, .ref a3, .ref a4, .int (nI wn), .long g, .int (nI ko), .int (nI mw)])), (a0, .inl (ca 0, 512, .inl (fun z9 => nI (t z9).1))), (a1, .inl (ca 1, 512, .inl (fun z9 => (t z9).2))), (a2, .inl (ca 2, 65, .inl (fun z9 => nI (v z9).1))), (a3, .inl (ca 3, 65, .inr (.inl (fun z9 => (v z9).2.1)))), (a4, .inl (ca 4, 65, .inl (fun z9 => (v z9).2.2)))]) [0, 1, 2, 3, 4, 5] rfl) (hD.sub (ws' := [(h0, .inr (0, [.ref a0, .ref a1, .int (nI tn), .ref a2, .ref a3, .ref a4, .int (nI wn), .long g, .int (nI ko), .int (nI mw)])), (a0, .inl (ca 0, 512, .inl (fun z9 => nI (t z9).1))), (a1, .inl (ca 1, 512, .inl (fun z9 => (t z9).2))), (a2, .inl (ca 2, 65, .inl (fun z9 => nI (v z9).1))), (a3, .inl (ca 3, 65, .inr (.inl (fun z9 => (v z9).2.1)))), (a4, .inl (ca 4, 65, .inl (fun z9 => (v z9).2.2)))]) [0, 1, 2, 3, 4, 5] (by decide) rfl) rfl rfl) rfl rfl hl.1 rfl (lv_room (Nat.le_of_ble_eq_true rfl)) dX0_removeWaiting_17 ⟨Nat.zero_le _, Nat.zero_le _⟩) (fun H locs hP hD hS => ?_)
        have hP : va_P (dC, dI) clS [(h0, .inr (0, [.ref a0, .ref a1, .int (nI tn), .ref a2, .ref a3, .ref a4, .int (nI wn), .long g, .int (nI ko), .int (nI mw)])), (a0, .inl (ca 0, 512, .inl (fun z9 => nI (t z9).1))), (a1, .inl (ca 1, 512, .inl (fun z9 => (t z9).2))), (a2, .inl (ca 2, 65, .inl (fun z9 => nI ((va_up v (j - 1) (v j)) z9).1))), (a3, .inl (ca 3, 65, .inr (.inl (fun z9 => ((va_up v (j - 1) (v j)) z9).2.1)))), (a4, .inl (ca 4, 65, .inl (fun z9 => ((va_up v (j - 1) (v j)) z9).2.2)))] H := hP
        have hD : va_D A [(h0, .inr (0, [.ref a0, .ref a1, .int (nI tn), .ref a2, .ref a3, .ref a4, .int (nI wn), .long g, .int (nI ko), .int (nI mw)])), (a0, .inl (ca 0, 512, .inl (fun z9 => nI (t z9).1))), (a1, .inl (ca 1, 512, .inl (fun z9 => (t z9).2))), (a2, .inl (ca 2, 65, .inl (fun z9 => nI ((va_up v (j - 1) (v j)) z9).1))), (a3, .inl (ca 3, 65, .inr (.inl (fun z9 => ((va_up v (j - 1) (v j)) z9).2.1)))), (a4, .inl (ca 4, 65, .inl (fun z9 => ((va_up v (j - 1) (v j)) z9).2.2)))] := hD
        refine lv_iinc (v := (nI (j + 1))) (lv' := [(2, .int (nI (j + 1))), (0, .ref h0), (1, .int (nI q))]) hx hb dX0_removeWaiting_20 hl (k := 2) rfl (nI_1 j) (by decide) rfl (fun ls hl => ?_)
        refine lv_goto (tgt := 4) hx hb dX0_removeWaiting_23 (by decide) ?_
        exact ih (j + 1) (va_up v (j - 1) (v j)) (by omega) (by omega) (by rw [← hk9]; rfl) _ _ hP hD hS ls (lv_sub hl [1, 2, 0] rfl)
  exact loop (wn - (q + 1)) (q + 1) w (by omega) (by omega) rfl _ _ hP hD hS ls (lv_sub hl [1, 2, 0] rfl)

set_option maxRecDepth 20000 in
theorem in_X0_insertWaiting_X0 : ∀ w ∈ wsX00, w ∈ wsX0_insertWaiting := by decide +kernel

set_option maxHeartbeats 4000000 in
set_option maxRecDepth 100000 in
theorem k_insertWaiting (l : Launch) (dC : Nat → ClassId) (dI : Nat → Nat → Nat) (ca : Nat → ClassId) (h0 a0 a1 a2 a3 a4 : Nat) (t : TF) (tn : Nat) (w : WF) (wn : Nat) (g : Int64) (ko mw : Nat) (sz : Nat) (k : Nat) (ck : Int64) (lb : Int32) (hk : k < 2048) (hwn : wn < 65) (hw : ∀ j, j < wn → (w j).1 < 2048) : Met l yX0_insertWaiting wsX0_insertWaiting ({ frames := 1, cells := 0, slots := 0, locals := 22 }) (Pm [.ref h0, .int (nI k), .long ck, .int lb] (dC, dI) clS [(ca 0, .int), (ca 1, .int), (ca 2, .int), (ca 3, .long), (ca 4, .int)] [(h0, .inr (0, [.ref a0, .ref a1, .int (nI tn), .ref a2, .ref a3, .ref a4, .int (nI wn), .long g, .int (nI ko), .int (nI mw)])), (a0, .inl (ca 0, 512, .inl (fun z9 => nI (t z9).1))), (a1, .inl (ca 1, 512, .inl (fun z9 => (t z9).2))), (a2, .inl (ca 2, 65, .inl (fun z9 => nI (w z9).1))), (a3, .inl (ca 3, 65, .inr (.inl (fun z9 => (w z9).2.1)))), (a4, .inl (ca 4, 65, .inl (fun z9 => (w z9).2.2)))] sz) (QmV (dC, dI) clS [(h0, .inr (0, [.ref a0, .ref a1, .int (nI tn), .ref a2, .ref a3, .ref a4, .int (nI wn), .long g, .int (nI ko), .int (nI mw)])), (a0, .inl (ca 0, 512, .inl (fun z9 => nI (t z9).1))), (a1, .inl (ca 1, 512, .inl (fun z9 => (t z9).2))), (a2, .inl (ca 2, 65, .inl (fun z9 => nI (w z9).1))), (a3, .inl (ca 3, 65, .inr (.inl (fun z9 => (w z9).2.1)))), (a4, .inl (ca 4, 65, .inl (fun z9 => (w z9).2.2)))] [(h0, .inr (0, [.ref a0, .ref a1, .int (nI tn), .ref a2, .ref a3, .ref a4, .int (nI (wn + 1)), .long g, .int (nI ko), .int (nI mw)])), (a0, .inl (ca 0, 512, .inl (fun z9 => nI (t z9).1))), (a1, .inl (ca 1, 512, .inl (fun z9 => (t z9).2))), (a2, .inl (ca 2, 65, .inl (fun z9 => nI ((va_up (inS k wn w).1 (inS k wn w).2 (k, ck, lb)) z9).1))), (a3, .inl (ca 3, 65, .inr (.inl (fun z9 => ((va_up (inS k wn w).1 (inS k wn w).2 (k, ck, lb)) z9).2.1)))), (a4, .inl (ca 4, 65, .inl (fun z9 => ((va_up (inS k wn w).1 (inS k wn w).2 (k, ck, lb)) z9).2.2)))] sz) 0 0 (va_A [(h0, .inr (0, [.ref a0, .ref a1, .int (nI tn), .ref a2, .ref a3, .ref a4, .int (nI wn), .long g, .int (nI ko), .int (nI mw)])), (a0, .inl (ca 0, 512, .inl (fun z9 => nI (t z9).1))), (a1, .inl (ca 1, 512, .inl (fun z9 => (t z9).2))), (a2, .inl (ca 2, 65, .inl (fun z9 => nI (w z9).1))), (a3, .inl (ca 3, 65, .inr (.inl (fun z9 => (w z9).2.1)))), (a4, .inl (ca 4, 65, .inl (fun z9 => (w z9).2.2)))] sz) := by
  refine Met.ofW (cc := cX0_insertWaiting) (maxL := 6) (ret := none) (by decide) rfl ?_
  intro p e s m args below meth c s₁ B hml hv
  obtain ⟨hargs, hsz, hP, hK, hD0⟩ := hv
  have hx := B.exec
  have hb := B.bytes
  have hr := B.returns
  have hts := atoms_spec (ws := wsX0_insertWaiting) B.pre
  have hown : s.vm.findClass RX0 = some m.cls := findClass_of_methodNamed B.named
  have hlocks := B.notSynchronized
  subst hsz
  have hD := hD0.self (sz := s.heap.size)
  obtain ⟨A, hAe⟩ : ∃ A, A = va_A [(h0, .inr (0, [.ref a0, .ref a1, .int (nI tn), .ref a2, .ref a3, .ref a4, .int (nI wn), .long g, .int (nI ko), .int (nI mw)])), (a0, .inl (ca 0, 512, .inl (fun z9 => nI (t z9).1))), (a1, .inl (ca 1, 512, .inl (fun z9 => (t z9).2))), (a2, .inl (ca 2, 65, .inl (fun z9 => nI (w z9).1))), (a3, .inl (ca 3, 65, .inr (.inl (fun z9 => (w z9).2.1)))), (a4, .inl (ca 4, 65, .inl (fun z9 => (w z9).2.2)))] s.heap.size := ⟨_, rfl⟩
  rw [← hAe] at hD ⊢
  have hA : ∀ q : Nat, s.heap.size ≤ q → A q := fun q h => by rw [hAe]; exact Or.inr h
  have hS : va_S A s.heap s.heap [] := va_S.rf
  have hP : va_P (dC, dI) clS [(h0, .inr (0, [.ref a0, .ref a1, .int (nI tn), .ref a2, .ref a3, .ref a4, .int (nI wn), .long g, .int (nI ko), .int (nI mw)])), (a0, .inl (ca 0, 512, .inl (fun z9 => nI (t z9).1))), (a1, .inl (ca 1, 512, .inl (fun z9 => (t z9).2))), (a2, .inl (ca 2, 65, .inl (fun z9 => nI (w z9).1))), (a3, .inl (ca 3, 65, .inr (.inl (fun z9 => (w z9).2.1)))), (a4, .inl (ca 4, 65, .inl (fun z9 => (w z9).2.2)))] s.heap := hP
  have hl := lv_entry ([.ref h0, .int (nI k), .long ck, .int lb]) (n := 6) (Nat.le_of_ble_eq_true rfl)
  have hE : entryFrame m args 6 = F0 m 0 ((lg_sl ([.ref h0, .int (nI k), .long ck, .int lb]) ++ List.replicate (6 - (lg_sl ([.ref h0, .int (nI k), .long ck, .int lb])).length) Slot.unset).toArray) [] := by rw [hargs]; exact lg_entry_eq m ([.ref h0, .int (nI k), .long ck, .int lb]) 6
  rw [hE]
  generalize (lg_sl ([.ref h0, .int (nI k), .long ck, .int lb]) ++ List.replicate (6 - (lg_sl ([.ref h0, .int (nI k), .long ck, .int lb])).length) Slot.unset).toArray = ls at hl ⊢
  have hl : lv_has ls 6 [(0, .ref h0), (1, .int (nI k)), (2, .long ck), (4, .int lb)] := hl
  refine lv_aload_n hx hb dX0_insertWaiting_0 rfl (lv_at hl 0 rfl) ?_
  refine va_get (D := (dC, dI)) (ci := 0) (v := .int (nI wn)) (C := RX0) (T := TX0) (N := 10) hx hb hts in_X0_insertWaiting_X0 hown hK hP 0 rfl rfl 6 (by decide) (hts (.fieldLink RX0 30 "CausalGate" "waitCount" "I") (by decide +kernel)) (fun _ h9 => h9) rfl dX0_insertWaiting_1 ?_
  refine lv_istore (lv' := [(5, .int (nI wn)), (0, .ref h0), (1, .int (nI k)), (2, .long ck), (4, .int lb)]) hx hb dX0_insertWaiting_4 hl (by decide) rfl (fun ls hl => ?_)
  have loop : ∀ (n : Nat) (v : WF), n ≤ wn → (∀ j, j < n → (v j).1 < 2048) → inS k n v = inS k wn w → ∀ (H : Heap) (locs : List Loc), va_P (dC, dI) clS [(h0, .inr (0, [.ref a0, .ref a1, .int (nI tn), .ref a2, .ref a3, .ref a4, .int (nI wn), .long g, .int (nI ko), .int (nI mw)])), (a0, .inl (ca 0, 512, .inl (fun z9 => nI (t z9).1))), (a1, .inl (ca 1, 512, .inl (fun z9 => (t z9).2))), (a2, .inl (ca 2, 65, .inl (fun z9 => nI (v z9).1))), (a3, .inl (ca 3, 65, .inr (.inl (fun z9 => (v z9).2.1)))), (a4, .inl (ca 4, 65, .inl (fun z9 => (v z9).2.2)))] H → va_D A [(h0, .inr (0, [.ref a0, .ref a1, .int (nI tn), .ref a2, .ref a3, .ref a4, .int (nI wn), .long g, .int (nI ko), .int (nI mw)])), (a0, .inl (ca 0, 512, .inl (fun z9 => nI (t z9).1))), (a1, .inl (ca 1, 512, .inl (fun z9 => (t z9).2))), (a2, .inl (ca 2, 65, .inl (fun z9 => nI (v z9).1))), (a3, .inl (ca 3, 65, .inr (.inl (fun z9 => (v z9).2.1)))), (a4, .inl (ca 4, 65, .inl (fun z9 => (v z9).2.2)))] → va_S A s.heap H locs → ∀ ls : Array Slot, lv_has ls 6 [(0, .ref h0), (1, .int (nI k)), (2, .long ck), (4, .int lb), (5, .int (nI n))] → W p l e (headSpec wsX0_insertWaiting ({ frames := 1, cells := 0, slots := 0, locals := 22 })).room s m args below meth c H locs 0 0 (MQ below (QmV (dC, dI) clS [(h0, .inr (0, [.ref a0, .ref a1, .int (nI tn), .ref a2, .ref a3, .ref a4, .int (nI wn), .long g, .int (nI ko), .int (nI mw)])), (a0, .inl (ca 0, 512, .inl (fun z9 => nI (t z9).1))), (a1, .inl (ca 1, 512, .inl (fun z9 => (t z9).2))), (a2, .inl (ca 2, 65, .inl (fun z9 => nI (w z9).1))), (a3, .inl (ca 3, 65, .inr (.inl (fun z9 => (w z9).2.1)))), (a4, .inl (ca 4, 65, .inl (fun z9 => (w z9).2.2)))] [(h0, .inr (0, [.ref a0, .ref a1, .int (nI tn), .ref a2, .ref a3, .ref a4, .int (nI (wn + 1)), .long g, .int (nI ko), .int (nI mw)])), (a0, .inl (ca 0, 512, .inl (fun z9 => nI (t z9).1))), (a1, .inl (ca 1, 512, .inl (fun z9 => (t z9).2))), (a2, .inl (ca 2, 65, .inl (fun z9 => nI ((va_up (inS k wn w).1 (inS k wn w).2 (k, ck, lb)) z9).1))), (a3, .inl (ca 3, 65, .inr (.inl (fun z9 => ((va_up (inS k wn w).1 (inS k wn w).2 (k, ck, lb)) z9).2.1)))), (a4, .inl (ca 4, 65, .inl (fun z9 => ((va_up (inS k wn w).1 (inS k wn w).2 (k, ck, lb)) z9).2.2)))] s.heap.size) args s 0 0 A) (F0 m 6 ls []) := by
    intro n
    induction n with
    | zero =>
      intro v hn hv hk9 H locs hP hD hS ls hl
      refine lv_iload hx hb dX0_insertWaiting_6 (lv_at hl 4 rfl) ?_
      refine lv_if_le (tgt := 40) hx hb dX0_insertWaiting_8 (by decide) (fun c_8 => ?_) (fun c_8 => ?_)
      · have hk8 : inS k wn w = (v, 0) := hk9.symm
        refine lv_aload_n hx hb dX0_insertWaiting_40 rfl (lv_at hl 0 rfl) ?_
        refine va_get (D := (dC, dI)) (ci := 0) (v := .ref a2) (C := RX0) (T := TX0) (N := 10) hx hb hts in_X0_insertWaiting_X0 hown hK hP 0 rfl rfl 3 (by decide) (hts (.fieldLink RX0 16 "CausalGate" "waitKeys" "[I") (by decide +kernel)) (fun _ h9 => h9) rfl dX0_insertWaiting_41 ?_
        refine lv_iload hx hb dX0_insertWaiting_44 (lv_at hl 4 rfl) ?_
        refine lv_iload_n hx hb dX0_insertWaiting_46 rfl (lv_at hl 1 rfl) ?_
        refine va_iast hx hb hK hP hD hS 3 2 rfl rfl (vp_in_nI (by omega) (by decide)) dX0_insertWaiting_47 (fun H locs hP hD hS => ?_)
        rw [show upd (fun z9 => nI (v z9).1) (nI 0).toNatClampNeg (nI k) = fun z9 => nI (va_up v 0 (k, ck, lb) z9).1 from by rw [nI_clamp (by omega)]; exact up_k v 0 (k, ck, lb)] at hP hD
        have hP : va_P (dC, dI) clS [(h0, .inr (0, [.ref a0, .ref a1, .int (nI tn), .ref a2, .ref a3, .ref a4, .int (nI wn), .long g, .int (nI ko), .int (nI mw)])), (a0, .inl (ca 0, 512, .inl (fun z9 => nI (t z9).1))), (a1, .inl (ca 1, 512, .inl (fun z9 => (t z9).2))), (a2, .inl (ca 2, 65, .inl (fun z9 => nI (va_up v 0 (k, ck, lb) z9).1))), (a3, .inl (ca 3, 65, .inr (.inl (fun z9 => (v z9).2.1)))), (a4, .inl (ca 4, 65, .inl (fun z9 => (v z9).2.2)))] H := hP
        have hD : va_D A [(h0, .inr (0, [.ref a0, .ref a1, .int (nI tn), .ref a2, .ref a3, .ref a4, .int (nI wn), .long g, .int (nI ko), .int (nI mw)])), (a0, .inl (ca 0, 512, .inl (fun z9 => nI (t z9).1))), (a1, .inl (ca 1, 512, .inl (fun z9 => (t z9).2))), (a2, .inl (ca 2, 65, .inl (fun z9 => nI (va_up v 0 (k, ck, lb) z9).1))), (a3, .inl (ca 3, 65, .inr (.inl (fun z9 => (v z9).2.1)))), (a4, .inl (ca 4, 65, .inl (fun z9 => (v z9).2.2)))] := hD
        refine lv_aload_n hx hb dX0_insertWaiting_48 rfl (lv_at hl 0 rfl) ?_
        refine va_get (D := (dC, dI)) (ci := 0) (v := .ref a3) (C := RX0) (T := TX0) (N := 10) hx hb hts in_X0_insertWaiting_X0 hown hK hP 0 rfl rfl 4 (by decide) (hts (.fieldLink RX0 19 "CausalGate" "waitClocks" "[J") (by decide +kernel)) (fun _ h9 => h9) rfl dX0_insertWaiting_49 ?_
        refine lv_iload hx hb dX0_insertWaiting_52 (lv_at hl 4 rfl) ?_
        refine lv_lload_n hx hb dX0_insertWaiting_54 rfl (lv_at hl 2 rfl) ?_
        refine va_last hx hb hK hP hD hS 4 3 rfl rfl (vp_in_nI (by omega) (by decide)) dX0_insertWaiting_55 (fun H locs hP hD hS => ?_)
        rw [show vp_updL (fun z9 => (v z9).2.1) (nI 0).toNatClampNeg ck = fun z9 => (va_up v 0 (k, ck, lb) z9).2.1 from by rw [nI_clamp (by omega)]; exact up_c v 0 (k, ck, lb)] at hP hD
        have hP : va_P (dC, dI) clS [(h0, .inr (0, [.ref a0, .ref a1, .int (nI tn), .ref a2, .ref a3, .ref a4, .int (nI wn), .long g, .int (nI ko), .int (nI mw)])), (a0, .inl (ca 0, 512, .inl (fun z9 => nI (t z9).1))), (a1, .inl (ca 1, 512, .inl (fun z9 => (t z9).2))), (a2, .inl (ca 2, 65, .inl (fun z9 => nI (va_up v 0 (k, ck, lb) z9).1))), (a3, .inl (ca 3, 65, .inr (.inl (fun z9 => (va_up v 0 (k, ck, lb) z9).2.1)))), (a4, .inl (ca 4, 65, .inl (fun z9 => (v z9).2.2)))] H := hP
        have hD : va_D A [(h0, .inr (0, [.ref a0, .ref a1, .int (nI tn), .ref a2, .ref a3, .ref a4, .int (nI wn), .long g, .int (nI ko), .int (nI mw)])), (a0, .inl (ca 0, 512, .inl (fun z9 => nI (t z9).1))), (a1, .inl (ca 1, 512, .inl (fun z9 => (t z9).2))), (a2, .inl (ca 2, 65, .inl (fun z9 => nI (va_up v 0 (k, ck, lb) z9).1))), (a3, .inl (ca 3, 65, .inr (.inl (fun z9 => (va_up v 0 (k, ck, lb) z9).2.1)))), (a4, .inl (ca 4, 65, .inl (fun z9 => (v z9).2.2)))] := hD
        refine lv_aload_n hx hb dX0_insertWaiting_56 rfl (lv_at hl 0 rfl) ?_
        refine va_get (D := (dC, dI)) (ci := 0) (v := .ref a4) (C := RX0) (T := TX0) (N := 10) hx hb hts in_X0_insertWaiting_X0 hown hK hP 0 rfl rfl 5 (by decide) (hts (.fieldLink RX0 23 "CausalGate" "waitLabels" "[I") (by decide +kernel)) (fun _ h9 => h9) rfl dX0_insertWaiting_57 ?_
        refine lv_iload hx hb dX0_insertWaiting_60 (lv_at hl 4 rfl) ?_
        refine lv_iload hx hb dX0_insertWaiting_62 (lv_at hl 3 rfl) ?_
        refine va_iast hx hb hK hP hD hS 5 4 rfl rfl (vp_in_nI (by omega) (by decide)) dX0_insertWaiting_64 (fun H locs hP hD hS => ?_)
        rw [show upd (fun z9 => (v z9).2.2) (nI 0).toNatClampNeg lb = fun z9 => (va_up v 0 (k, ck, lb) z9).2.2 from by rw [nI_clamp (by omega)]; exact up_l v 0 (k, ck, lb)] at hP hD
        have hP : va_P (dC, dI) clS [(h0, .inr (0, [.ref a0, .ref a1, .int (nI tn), .ref a2, .ref a3, .ref a4, .int (nI wn), .long g, .int (nI ko), .int (nI mw)])), (a0, .inl (ca 0, 512, .inl (fun z9 => nI (t z9).1))), (a1, .inl (ca 1, 512, .inl (fun z9 => (t z9).2))), (a2, .inl (ca 2, 65, .inl (fun z9 => nI (va_up v 0 (k, ck, lb) z9).1))), (a3, .inl (ca 3, 65, .inr (.inl (fun z9 => (va_up v 0 (k, ck, lb) z9).2.1)))), (a4, .inl (ca 4, 65, .inl (fun z9 => (va_up v 0 (k, ck, lb) z9).2.2)))] H := hP
        have hD : va_D A [(h0, .inr (0, [.ref a0, .ref a1, .int (nI tn), .ref a2, .ref a3, .ref a4, .int (nI wn), .long g, .int (nI ko), .int (nI mw)])), (a0, .inl (ca 0, 512, .inl (fun z9 => nI (t z9).1))), (a1, .inl (ca 1, 512, .inl (fun z9 => (t z9).2))), (a2, .inl (ca 2, 65, .inl (fun z9 => nI (va_up v 0 (k, ck, lb) z9).1))), (a3, .inl (ca 3, 65, .inr (.inl (fun z9 => (va_up v 0 (k, ck, lb) z9).2.1)))), (a4, .inl (ca 4, 65, .inl (fun z9 => (va_up v 0 (k, ck, lb) z9).2.2)))] := hD
        refine lv_aload_n hx hb dX0_insertWaiting_65 rfl (lv_at hl 0 rfl) ?_
        refine lv_dup hx hb dX0_insertWaiting_66 rfl ?_
        refine va_get (D := (dC, dI)) (ci := 0) (v := .int (nI wn)) (C := RX0) (T := TX0) (N := 10) hx hb hts in_X0_insertWaiting_X0 hown hK hP 0 rfl rfl 6 (by decide) (hts (.fieldLink RX0 30 "CausalGate" "waitCount" "I") (by decide +kernel)) (fun _ h9 => h9) rfl dX0_insertWaiting_67 ?_
        refine lv_iconst (v := 1) hx hb dX0_insertWaiting_70 (by decide) ?_
        refine lv_iadd hx hb dX0_insertWaiting_71 ?_
        refine tp_i (y := nI (wn + 1)) (nI_1 wn) ?_
        refine va_put (D := (dC, dI)) (ci := 0) (v := .int (nI (wn + 1))) (ty := .int) (C := RX0) (T := TX0) (N := 10) hx hb hts in_X0_insertWaiting_X0 tyX0 tyX0_ok nmX0 hown hK hP hD hS 0 rfl rfl 6 (by decide) (hts (.fieldLink RX0 30 "CausalGate" "waitCount" "I") (by decide +kernel)) (fun _ h9 => h9) rfl (by decide +kernel) rfl rfl (Nat.le_of_ble_eq_true rfl) dX0_insertWaiting_72 (fun H locs hP hD hS => ?_)
        have hP : va_P (dC, dI) clS [(h0, .inr (0, [.ref a0, .ref a1, .int (nI tn), .ref a2, .ref a3, .ref a4, .int (nI (wn + 1)), .long g, .int (nI ko), .int (nI mw)])), (a0, .inl (ca 0, 512, .inl (fun z9 => nI (t z9).1))), (a1, .inl (ca 1, 512, .inl (fun z9 => (t z9).2))), (a2, .inl (ca 2, 65, .inl (fun z9 => nI (va_up v 0 (k, ck, lb) z9).1))), (a3, .inl (ca 3, 65, .inr (.inl (fun z9 => (va_up v 0 (k, ck, lb) z9).2.1)))), (a4, .inl (ca 4, 65, .inl (fun z9 => (va_up v 0 (k, ck, lb) z9).2.2)))] H := hP
        have hD : va_D A [(h0, .inr (0, [.ref a0, .ref a1, .int (nI tn), .ref a2, .ref a3, .ref a4, .int (nI (wn + 1)), .long g, .int (nI ko), .int (nI mw)])), (a0, .inl (ca 0, 512, .inl (fun z9 => nI (t z9).1))), (a1, .inl (ca 1, 512, .inl (fun z9 => (t z9).2))), (a2, .inl (ca 2, 65, .inl (fun z9 => nI (va_up v 0 (k, ck, lb) z9).1))), (a3, .inl (ca 3, 65, .inr (.inl (fun z9 => (va_up v 0 (k, ck, lb) z9).2.1)))), (a4, .inl (ca 4, 65, .inl (fun z9 => (va_up v 0 (k, ck, lb) z9).2.2)))] := hD
        rw [hk8]
        exact mv_ret hx hb hr hlocks hAe hP hD hS dX0_insertWaiting_75
      · exact absurd (by decide) c_8
    | succ n ih =>
      intro v hn hv hk9 H locs hP hD hS ls hl
      refine lv_iload hx hb dX0_insertWaiting_6 (lv_at hl 4 rfl) ?_
      refine lv_if_le (tgt := 40) hx hb dX0_insertWaiting_8 (by decide) (fun c_8 => ?_) (fun c_8 => ?_)
      · exact absurd c_8 (nI_nle (by omega) (by omega))
      · refine lv_aload_n hx hb dX0_insertWaiting_11 rfl (lv_at hl 0 rfl) ?_
        refine va_get (D := (dC, dI)) (ci := 0) (v := .ref a2) (C := RX0) (T := TX0) (N := 10) hx hb hts in_X0_insertWaiting_X0 hown hK hP 0 rfl rfl 3 (by decide) (hts (.fieldLink RX0 16 "CausalGate" "waitKeys" "[I") (by decide +kernel)) (fun _ h9 => h9) rfl dX0_insertWaiting_12 ?_
        refine lv_iload hx hb dX0_insertWaiting_15 (lv_at hl 4 rfl) ?_
        refine lv_iconst (v := 1) hx hb dX0_insertWaiting_17 (by decide) ?_
        refine lv_isub hx hb dX0_insertWaiting_18 ?_
        refine tp_i (y := nI n) (nI_pred n) ?_
        refine va_iald hx hb hK hP 3 2 rfl rfl (vp_in_nI (by omega) (by decide)) dX0_insertWaiting_19 ?_
        refine tp_i (y := nI (v n).1) (by rw [nI_clamp (by omega)]) ?_
        have hvn := hv n (by omega)
        refine lv_iload_n hx hb dX0_insertWaiting_20 rfl (lv_at hl 1 rfl) ?_
        refine lv_icmp_le (tgt := 40) hx hb dX0_insertWaiting_21 (by decide) (fun c_21 => ?_) (fun c_21 => ?_)
        · have hk8 : inS k wn w = (v, n + 1) := by rw [← hk9]; simp only [inS]; rw [if_neg (Nat.not_lt.mpr ((nI_leI (by omega) (by omega)).mp c_21))]
          refine lv_aload_n hx hb dX0_insertWaiting_40 rfl (lv_at hl 0 rfl) ?_
          refine va_get (D := (dC, dI)) (ci := 0) (v := .ref a2) (C := RX0) (T := TX0) (N := 10) hx hb hts in_X0_insertWaiting_X0 hown hK hP 0 rfl rfl 3 (by decide) (hts (.fieldLink RX0 16 "CausalGate" "waitKeys" "[I") (by decide +kernel)) (fun _ h9 => h9) rfl dX0_insertWaiting_41 ?_
          refine lv_iload hx hb dX0_insertWaiting_44 (lv_at hl 4 rfl) ?_
          refine lv_iload_n hx hb dX0_insertWaiting_46 rfl (lv_at hl 1 rfl) ?_
          refine va_iast hx hb hK hP hD hS 3 2 rfl rfl (vp_in_nI (by omega) (by decide)) dX0_insertWaiting_47 (fun H locs hP hD hS => ?_)
          rw [show upd (fun z9 => nI (v z9).1) (nI (n + 1)).toNatClampNeg (nI k) = fun z9 => nI (va_up v (n + 1) (k, ck, lb) z9).1 from by rw [nI_clamp (by omega)]; exact up_k v (n + 1) (k, ck, lb)] at hP hD
          have hP : va_P (dC, dI) clS [(h0, .inr (0, [.ref a0, .ref a1, .int (nI tn), .ref a2, .ref a3, .ref a4, .int (nI wn), .long g, .int (nI ko), .int (nI mw)])), (a0, .inl (ca 0, 512, .inl (fun z9 => nI (t z9).1))), (a1, .inl (ca 1, 512, .inl (fun z9 => (t z9).2))), (a2, .inl (ca 2, 65, .inl (fun z9 => nI (va_up v (n + 1) (k, ck, lb) z9).1))), (a3, .inl (ca 3, 65, .inr (.inl (fun z9 => (v z9).2.1)))), (a4, .inl (ca 4, 65, .inl (fun z9 => (v z9).2.2)))] H := hP
          have hD : va_D A [(h0, .inr (0, [.ref a0, .ref a1, .int (nI tn), .ref a2, .ref a3, .ref a4, .int (nI wn), .long g, .int (nI ko), .int (nI mw)])), (a0, .inl (ca 0, 512, .inl (fun z9 => nI (t z9).1))), (a1, .inl (ca 1, 512, .inl (fun z9 => (t z9).2))), (a2, .inl (ca 2, 65, .inl (fun z9 => nI (va_up v (n + 1) (k, ck, lb) z9).1))), (a3, .inl (ca 3, 65, .inr (.inl (fun z9 => (v z9).2.1)))), (a4, .inl (ca 4, 65, .inl (fun z9 => (v z9).2.2)))] := hD
          refine lv_aload_n hx hb dX0_insertWaiting_48 rfl (lv_at hl 0 rfl) ?_
          refine va_get (D := (dC, dI)) (ci := 0) (v := .ref a3) (C := RX0) (T := TX0) (N := 10) hx hb hts in_X0_insertWaiting_X0 hown hK hP 0 rfl rfl 4 (by decide) (hts (.fieldLink RX0 19 "CausalGate" "waitClocks" "[J") (by decide +kernel)) (fun _ h9 => h9) rfl dX0_insertWaiting_49 ?_
          refine lv_iload hx hb dX0_insertWaiting_52 (lv_at hl 4 rfl) ?_
          refine lv_lload_n hx hb dX0_insertWaiting_54 rfl (lv_at hl 2 rfl) ?_
          refine va_last hx hb hK hP hD hS 4 3 rfl rfl (vp_in_nI (by omega) (by decide)) dX0_insertWaiting_55 (fun H locs hP hD hS => ?_)
          rw [show vp_updL (fun z9 => (v z9).2.1) (nI (n + 1)).toNatClampNeg ck = fun z9 => (va_up v (n + 1) (k, ck, lb) z9).2.1 from by rw [nI_clamp (by omega)]; exact up_c v (n + 1) (k, ck, lb)] at hP hD
          have hP : va_P (dC, dI) clS [(h0, .inr (0, [.ref a0, .ref a1, .int (nI tn), .ref a2, .ref a3, .ref a4, .int (nI wn), .long g, .int (nI ko), .int (nI mw)])), (a0, .inl (ca 0, 512, .inl (fun z9 => nI (t z9).1))), (a1, .inl (ca 1, 512, .inl (fun z9 => (t z9).2))), (a2, .inl (ca 2, 65, .inl (fun z9 => nI (va_up v (n + 1) (k, ck, lb) z9).1))), (a3, .inl (ca 3, 65, .inr (.inl (fun z9 => (va_up v (n + 1) (k, ck, lb) z9).2.1)))), (a4, .inl (ca 4, 65, .inl (fun z9 => (v z9).2.2)))] H := hP
          have hD : va_D A [(h0, .inr (0, [.ref a0, .ref a1, .int (nI tn), .ref a2, .ref a3, .ref a4, .int (nI wn), .long g, .int (nI ko), .int (nI mw)])), (a0, .inl (ca 0, 512, .inl (fun z9 => nI (t z9).1))), (a1, .inl (ca 1, 512, .inl (fun z9 => (t z9).2))), (a2, .inl (ca 2, 65, .inl (fun z9 => nI (va_up v (n + 1) (k, ck, lb) z9).1))), (a3, .inl (ca 3, 65, .inr (.inl (fun z9 => (va_up v (n + 1) (k, ck, lb) z9).2.1)))), (a4, .inl (ca 4, 65, .inl (fun z9 => (v z9).2.2)))] := hD
          refine lv_aload_n hx hb dX0_insertWaiting_56 rfl (lv_at hl 0 rfl) ?_
          refine va_get (D := (dC, dI)) (ci := 0) (v := .ref a4) (C := RX0) (T := TX0) (N := 10) hx hb hts in_X0_insertWaiting_X0 hown hK hP 0 rfl rfl 5 (by decide) (hts (.fieldLink RX0 23 "CausalGate" "waitLabels" "[I") (by decide +kernel)) (fun _ h9 => h9) rfl dX0_insertWaiting_57 ?_
          refine lv_iload hx hb dX0_insertWaiting_60 (lv_at hl 4 rfl) ?_
          refine lv_iload hx hb dX0_insertWaiting_62 (lv_at hl 3 rfl) ?_
          refine va_iast hx hb hK hP hD hS 5 4 rfl rfl (vp_in_nI (by omega) (by decide)) dX0_insertWaiting_64 (fun H locs hP hD hS => ?_)
          rw [show upd (fun z9 => (v z9).2.2) (nI (n + 1)).toNatClampNeg lb = fun z9 => (va_up v (n + 1) (k, ck, lb) z9).2.2 from by rw [nI_clamp (by omega)]; exact up_l v (n + 1) (k, ck, lb)] at hP hD
          have hP : va_P (dC, dI) clS [(h0, .inr (0, [.ref a0, .ref a1, .int (nI tn), .ref a2, .ref a3, .ref a4, .int (nI wn), .long g, .int (nI ko), .int (nI mw)])), (a0, .inl (ca 0, 512, .inl (fun z9 => nI (t z9).1))), (a1, .inl (ca 1, 512, .inl (fun z9 => (t z9).2))), (a2, .inl (ca 2, 65, .inl (fun z9 => nI (va_up v (n + 1) (k, ck, lb) z9).1))), (a3, .inl (ca 3, 65, .inr (.inl (fun z9 => (va_up v (n + 1) (k, ck, lb) z9).2.1)))), (a4, .inl (ca 4, 65, .inl (fun z9 => (va_up v (n + 1) (k, ck, lb) z9).2.2)))] H := hP
          have hD : va_D A [(h0, .inr (0, [.ref a0, .ref a1, .int (nI tn), .ref a2, .ref a3, .ref a4, .int (nI wn), .long g, .int (nI ko), .int (nI mw)])), (a0, .inl (ca 0, 512, .inl (fun z9 => nI (t z9).1))), (a1, .inl (ca 1, 512, .inl (fun z9 => (t z9).2))), (a2, .inl (ca 2, 65, .inl (fun z9 => nI (va_up v (n + 1) (k, ck, lb) z9).1))), (a3, .inl (ca 3, 65, .inr (.inl (fun z9 => (va_up v (n + 1) (k, ck, lb) z9).2.1)))), (a4, .inl (ca 4, 65, .inl (fun z9 => (va_up v (n + 1) (k, ck, lb) z9).2.2)))] := hD
          refine lv_aload_n hx hb dX0_insertWaiting_65 rfl (lv_at hl 0 rfl) ?_
          refine lv_dup hx hb dX0_insertWaiting_66 rfl ?_
          refine va_get (D := (dC, dI)) (ci := 0) (v := .int (nI wn)) (C := RX0) (T := TX0) (N := 10) hx hb hts in_X0_insertWaiting_X0 hown hK hP 0 rfl rfl 6 (by decide) (hts (.fieldLink RX0 30 "CausalGate" "waitCount" "I") (by decide +kernel)) (fun _ h9 => h9) rfl dX0_insertWaiting_67 ?_
          refine lv_iconst (v := 1) hx hb dX0_insertWaiting_70 (by decide) ?_
          refine lv_iadd hx hb dX0_insertWaiting_71 ?_
          refine tp_i (y := nI (wn + 1)) (nI_1 wn) ?_
          refine va_put (D := (dC, dI)) (ci := 0) (v := .int (nI (wn + 1))) (ty := .int) (C := RX0) (T := TX0) (N := 10) hx hb hts in_X0_insertWaiting_X0 tyX0 tyX0_ok nmX0 hown hK hP hD hS 0 rfl rfl 6 (by decide) (hts (.fieldLink RX0 30 "CausalGate" "waitCount" "I") (by decide +kernel)) (fun _ h9 => h9) rfl (by decide +kernel) rfl rfl (Nat.le_of_ble_eq_true rfl) dX0_insertWaiting_72 (fun H locs hP hD hS => ?_)
          have hP : va_P (dC, dI) clS [(h0, .inr (0, [.ref a0, .ref a1, .int (nI tn), .ref a2, .ref a3, .ref a4, .int (nI (wn + 1)), .long g, .int (nI ko), .int (nI mw)])), (a0, .inl (ca 0, 512, .inl (fun z9 => nI (t z9).1))), (a1, .inl (ca 1, 512, .inl (fun z9 => (t z9).2))), (a2, .inl (ca 2, 65, .inl (fun z9 => nI (va_up v (n + 1) (k, ck, lb) z9).1))), (a3, .inl (ca 3, 65, .inr (.inl (fun z9 => (va_up v (n + 1) (k, ck, lb) z9).2.1)))), (a4, .inl (ca 4, 65, .inl (fun z9 => (va_up v (n + 1) (k, ck, lb) z9).2.2)))] H := hP
          have hD : va_D A [(h0, .inr (0, [.ref a0, .ref a1, .int (nI tn), .ref a2, .ref a3, .ref a4, .int (nI (wn + 1)), .long g, .int (nI ko), .int (nI mw)])), (a0, .inl (ca 0, 512, .inl (fun z9 => nI (t z9).1))), (a1, .inl (ca 1, 512, .inl (fun z9 => (t z9).2))), (a2, .inl (ca 2, 65, .inl (fun z9 => nI (va_up v (n + 1) (k, ck, lb) z9).1))), (a3, .inl (ca 3, 65, .inr (.inl (fun z9 => (va_up v (n + 1) (k, ck, lb) z9).2.1)))), (a4, .inl (ca 4, 65, .inl (fun z9 => (va_up v (n + 1) (k, ck, lb) z9).2.2)))] := hD
          rw [hk8]
          exact mv_ret hx hb hr hlocks hAe hP hD hS dX0_insertWaiting_75
        · have c7 : k < (v n).1 := Nat.lt_of_not_le fun q => c_21 (nI_le q (by omega))
          refine lv_aload_n hx hb dX0_insertWaiting_24 rfl (lv_at hl 0 rfl) ?_
          refine lv_iload hx hb dX0_insertWaiting_25 (lv_at hl 4 rfl) ?_
          refine lv_iconst (v := 1) hx hb dX0_insertWaiting_27 (by decide) ?_
          refine lv_isub hx hb dX0_insertWaiting_28 ?_
          refine tp_i (y := nI n) (nI_pred n) ?_
          refine lv_iload hx hb dX0_insertWaiting_29 (lv_at hl 4 rfl) ?_
          refine mt_v (wc := [(h0, .inr (0, [.ref a0, .ref a1, .int (nI tn), .ref a2, .ref a3, .ref a4, .int (nI wn), .long g, .int (nI ko), .int (nI mw)])), (a0, .inl (ca 0, 512, .inl (fun z9 => nI (t z9).1))), (a1, .inl (ca 1, 512, .inl (fun z9 => (t z9).2))), (a2, .inl (ca 2, 65, .inl (fun z9 => nI (v z9).1))), (a3, .inl (ca 3, 65, .inr (.inl (fun z9 => (v z9).2.1)))), (a4, .inl (ca 4, 65, .inl (fun z9 => (v z9).2.2)))]) (wr := []) (w1 := [(h0, .inr (0, [.ref a0, .ref a1, .int (nI tn), .ref a2, .ref a3, .ref a4, .int (nI wn), .long g, .int (nI ko), .int (nI mw)])), (a0, .inl (ca 0, 512, .inl (fun z9 => nI (t z9).1))), (a1, .inl (ca 1, 512, .inl (fun z9 => (t z9).2))), (a2, .inl (ca 2, 65, .inl (fun z9 => nI ((va_up v (n + 1) (v n)) z9).1))), (a3, .inl (ca 3, 65, .inr (.inl (fun z9 => ((va_up v (n + 1) (v n)) z9).2.1)))), (a4, .inl (ca 4, 65, .inl (fun z9 => ((va_up v (n + 1) (v n)) z9).2.2)))]) [0, 1, 2, 3, 4, 5] [] hP hD hS hA rfl rfl (by decide) (by decide) (va_runV (mc := 0) (ms := 0) (As := [.int (nI n), .int (nI (n + 1))]) (rest := []) ⟨hx, hb, hml, hown, hts⟩ (k_moveWaiting l dC dI ca h0 a0 a1 a2 a3 a4 t tn v wn g ko mw _ n (n + 1) (by omega) (by omega)) (cwV 2 hts gX0_insertWaiting_X0_moveWaiting rfl rfl rfl (by decide +kernel) ⟨Nat.le_of_ble_eq_true rfl, Nat.le_of_ble_eq_true rfl⟩) (pm_V (ci := 0) (q0 := 0) hK (hP.sub (ws' := [(h0, .inr (0, [.ref a0, .ref a1, .int (nI tn), .ref a2, .ref a3, .ref a4, .int (nI wn), .long g, .int (nI ko), .int (nI mw)])), (a0, .inl (ca 0, 512, .inl (fun z9 => nI (t z9).1))), (a1, .inl (ca 1, 512, .inl (fun z9 => (t z9).2))), (a2, .inl (ca 2, 65, .inl (fun z9 => nI (v z9).1))), (a3, .inl (ca 3, 65, .inr (.inl (fun z9 => (v z9).2.1)))), (a4, .inl (ca 4, 65, .inl (fun z9 => (v z9).2.2)))]) [0, 1, 2, 3, 4, 5] rfl) (hD.sub (ws' := [(h0, .inr (0, [.ref a0, .ref a1, .int (nI tn), .ref a2, .ref a3, .ref a4, .int (nI wn), .long g, .int (nI ko), .int (nI mw)])), (a0, .inl (ca 0, 512, .inl (fun z9 => nI (t z9).1))), (a1, .inl (ca 1, 512, .inl (fun z9 => (t z9).2))), (a2, .inl (ca 2, 65, .inl (fun z9 => nI (v z9).1))), (a3, .inl (ca 3, 65, .inr (.inl (fun z9 => (v z9).2.1)))), (a4, .inl (ca 4, 65, .inl (fun z9 => (v z9).2.2)))]) [0, 1, 2, 3, 4, 5] (by decide) rfl) rfl rfl) rfl rfl hl.1 rfl (lv_room (Nat.le_of_ble_eq_true rfl)) dX0_insertWaiting_31 ⟨Nat.zero_le _, Nat.zero_le _⟩) (fun H locs hP hD hS => ?_)
          have hP : va_P (dC, dI) clS [(h0, .inr (0, [.ref a0, .ref a1, .int (nI tn), .ref a2, .ref a3, .ref a4, .int (nI wn), .long g, .int (nI ko), .int (nI mw)])), (a0, .inl (ca 0, 512, .inl (fun z9 => nI (t z9).1))), (a1, .inl (ca 1, 512, .inl (fun z9 => (t z9).2))), (a2, .inl (ca 2, 65, .inl (fun z9 => nI ((va_up v (n + 1) (v n)) z9).1))), (a3, .inl (ca 3, 65, .inr (.inl (fun z9 => ((va_up v (n + 1) (v n)) z9).2.1)))), (a4, .inl (ca 4, 65, .inl (fun z9 => ((va_up v (n + 1) (v n)) z9).2.2)))] H := hP
          have hD : va_D A [(h0, .inr (0, [.ref a0, .ref a1, .int (nI tn), .ref a2, .ref a3, .ref a4, .int (nI wn), .long g, .int (nI ko), .int (nI mw)])), (a0, .inl (ca 0, 512, .inl (fun z9 => nI (t z9).1))), (a1, .inl (ca 1, 512, .inl (fun z9 => (t z9).2))), (a2, .inl (ca 2, 65, .inl (fun z9 => nI ((va_up v (n + 1) (v n)) z9).1))), (a3, .inl (ca 3, 65, .inr (.inl (fun z9 => ((va_up v (n + 1) (v n)) z9).2.1)))), (a4, .inl (ca 4, 65, .inl (fun z9 => ((va_up v (n + 1) (v n)) z9).2.2)))] := hD
          refine lv_iinc (v := (nI n)) (lv' := [(5, .int (nI n)), (0, .ref h0), (1, .int (nI k)), (2, .long ck), (4, .int lb)]) hx hb dX0_insertWaiting_34 hl (k := 4) rfl (pk_m1 n) (by decide) rfl (fun ls hl => ?_)
          refine lv_goto (tgt := 6) hx hb dX0_insertWaiting_37 (by decide) ?_
          exact ih (va_up v (n + 1) (v n)) (by omega) (fun j hj => by rw [va_up_ne _ _ (by omega)]; exact hv j (by omega)) (by rw [← hk9]; simp only [inS]; rw [if_pos c7]) _ _ hP hD hS ls (lv_sub hl [1, 2, 3, 4, 0] rfl)
  exact loop wn w (Nat.le_refl _) hw rfl _ _ hP hD hS ls (lv_sub hl [1, 2, 3, 4, 0] rfl)

set_option maxRecDepth 20000 in
theorem in_X0_letThrough_X0 : ∀ w ∈ wsX00, w ∈ wsX0_letThrough := by decide +kernel

set_option maxHeartbeats 4000000 in
set_option maxRecDepth 100000 in
theorem k_letThrough (l : Launch) (dC : Nat → ClassId) (dI : Nat → Nat → Nat) (ca : Nat → ClassId) (h0 a0 a1 a2 a3 a4 : Nat) (t : TF) (tn : Nat) (w : WF) (wn : Nat) (g : Int64) (ko mw : Nat) (sz : Nat) (q : Nat) (hq : q < wn) (hwn : wn ≤ 65) (hw : ∀ j, j < wn → (w j).1 < 2048) (htn : tn < 512) : Met l yX0_letThrough wsX0_letThrough ({ frames := 2, cells := 0, slots := 0, locals := 44 }) (Pm [.ref h0, .int (nI q)] (dC, dI) clS [(ca 0, .int), (ca 1, .int), (ca 2, .int), (ca 3, .long), (ca 4, .int)] [(h0, .inr (0, [.ref a0, .ref a1, .int (nI tn), .ref a2, .ref a3, .ref a4, .int (nI wn), .long g, .int (nI ko), .int (nI mw)])), (a0, .inl (ca 0, 512, .inl (fun z9 => nI (t z9).1))), (a1, .inl (ca 1, 512, .inl (fun z9 => (t z9).2))), (a2, .inl (ca 2, 65, .inl (fun z9 => nI (w z9).1))), (a3, .inl (ca 3, 65, .inr (.inl (fun z9 => (w z9).2.1)))), (a4, .inl (ca 4, 65, .inl (fun z9 => (w z9).2.2)))] sz) (QmV (dC, dI) clS [(h0, .inr (0, [.ref a0, .ref a1, .int (nI tn), .ref a2, .ref a3, .ref a4, .int (nI wn), .long g, .int (nI ko), .int (nI mw)])), (a0, .inl (ca 0, 512, .inl (fun z9 => nI (t z9).1))), (a1, .inl (ca 1, 512, .inl (fun z9 => (t z9).2))), (a2, .inl (ca 2, 65, .inl (fun z9 => nI (w z9).1))), (a3, .inl (ca 3, 65, .inr (.inl (fun z9 => (w z9).2.1)))), (a4, .inl (ca 4, 65, .inl (fun z9 => (w z9).2.2)))] [(h0, .inr (0, [.ref a0, .ref a1, .int (nI (tn + 1)), .ref a2, .ref a3, .ref a4, .int (nI (wn - 1)), .long (ltG g (w q).1), .int (nI ko), .int (nI mw)])), (a0, .inl (ca 0, 512, .inl (fun z9 => nI ((va_up t tn ((w q).1, (w q).2.2)) z9).1))), (a1, .inl (ca 1, 512, .inl (fun z9 => ((va_up t tn ((w q).1, (w q).2.2)) z9).2))), (a2, .inl (ca 2, 65, .inl (fun z9 => nI ((rmS (wn - (q + 1)) (q + 1) w) z9).1))), (a3, .inl (ca 3, 65, .inr (.inl (fun z9 => ((rmS (wn - (q + 1)) (q + 1) w) z9).2.1)))), (a4, .inl (ca 4, 65, .inl (fun z9 => ((rmS (wn - (q + 1)) (q + 1) w) z9).2.2)))] sz) 0 0 (va_A [(h0, .inr (0, [.ref a0, .ref a1, .int (nI tn), .ref a2, .ref a3, .ref a4, .int (nI wn), .long g, .int (nI ko), .int (nI mw)])), (a0, .inl (ca 0, 512, .inl (fun z9 => nI (t z9).1))), (a1, .inl (ca 1, 512, .inl (fun z9 => (t z9).2))), (a2, .inl (ca 2, 65, .inl (fun z9 => nI (w z9).1))), (a3, .inl (ca 3, 65, .inr (.inl (fun z9 => (w z9).2.1)))), (a4, .inl (ca 4, 65, .inl (fun z9 => (w z9).2.2)))] sz) := by
  refine Met.ofW (cc := cX0_letThrough) (maxL := 2) (ret := none) (by decide) rfl ?_
  intro p e s m args below meth c s₁ B hml hv
  obtain ⟨hargs, hsz, hP, hK, hD0⟩ := hv
  have hx := B.exec
  have hb := B.bytes
  have hr := B.returns
  have hts := atoms_spec (ws := wsX0_letThrough) B.pre
  have hown : s.vm.findClass RX0 = some m.cls := findClass_of_methodNamed B.named
  have hlocks := B.notSynchronized
  subst hsz
  have hD := hD0.self (sz := s.heap.size)
  obtain ⟨A, hAe⟩ : ∃ A, A = va_A [(h0, .inr (0, [.ref a0, .ref a1, .int (nI tn), .ref a2, .ref a3, .ref a4, .int (nI wn), .long g, .int (nI ko), .int (nI mw)])), (a0, .inl (ca 0, 512, .inl (fun z9 => nI (t z9).1))), (a1, .inl (ca 1, 512, .inl (fun z9 => (t z9).2))), (a2, .inl (ca 2, 65, .inl (fun z9 => nI (w z9).1))), (a3, .inl (ca 3, 65, .inr (.inl (fun z9 => (w z9).2.1)))), (a4, .inl (ca 4, 65, .inl (fun z9 => (w z9).2.2)))] s.heap.size := ⟨_, rfl⟩
  rw [← hAe] at hD ⊢
  have hA : ∀ q : Nat, s.heap.size ≤ q → A q := fun q h => by rw [hAe]; exact Or.inr h
  have hS : va_S A s.heap s.heap [] := va_S.rf
  have hP : va_P (dC, dI) clS [(h0, .inr (0, [.ref a0, .ref a1, .int (nI tn), .ref a2, .ref a3, .ref a4, .int (nI wn), .long g, .int (nI ko), .int (nI mw)])), (a0, .inl (ca 0, 512, .inl (fun z9 => nI (t z9).1))), (a1, .inl (ca 1, 512, .inl (fun z9 => (t z9).2))), (a2, .inl (ca 2, 65, .inl (fun z9 => nI (w z9).1))), (a3, .inl (ca 3, 65, .inr (.inl (fun z9 => (w z9).2.1)))), (a4, .inl (ca 4, 65, .inl (fun z9 => (w z9).2.2)))] s.heap := hP
  have hl := lv_entry ([.ref h0, .int (nI q)]) (n := 2) (Nat.le_of_ble_eq_true rfl)
  have hE : entryFrame m args 2 = F0 m 0 ((lg_sl ([.ref h0, .int (nI q)]) ++ List.replicate (2 - (lg_sl ([.ref h0, .int (nI q)])).length) Slot.unset).toArray) [] := by rw [hargs]; exact lg_entry_eq m ([.ref h0, .int (nI q)]) 2
  rw [hE]
  generalize (lg_sl ([.ref h0, .int (nI q)]) ++ List.replicate (2 - (lg_sl ([.ref h0, .int (nI q)])).length) Slot.unset).toArray = ls at hl ⊢
  have hl : lv_has ls 2 [(0, .ref h0), (1, .int (nI q))] := hl
  have hwq := hw q hq
  refine lv_aload_n hx hb dX0_letThrough_0 rfl (lv_at hl 0 rfl) ?_
  refine va_get (D := (dC, dI)) (ci := 0) (v := .ref a0) (C := RX0) (T := TX0) (N := 10) hx hb hts in_X0_letThrough_X0 hown hK hP 0 rfl rfl 0 (by decide) (hts (.fieldLink RX0 9 "CausalGate" "throughKeys" "[I") (by decide +kernel)) (fun _ h9 => h9) rfl dX0_letThrough_1 ?_
  refine lv_aload_n hx hb dX0_letThrough_4 rfl (lv_at hl 0 rfl) ?_
  refine va_get (D := (dC, dI)) (ci := 0) (v := .int (nI tn)) (C := RX0) (T := TX0) (N := 10) hx hb hts in_X0_letThrough_X0 hown hK hP 0 rfl rfl 2 (by decide) (hts (.fieldLink RX0 26 "CausalGate" "throughCount" "I") (by decide +kernel)) (fun _ h9 => h9) rfl dX0_letThrough_5 ?_
  refine lv_aload_n hx hb dX0_letThrough_8 rfl (lv_at hl 0 rfl) ?_
  refine va_get (D := (dC, dI)) (ci := 0) (v := .ref a2) (C := RX0) (T := TX0) (N := 10) hx hb hts in_X0_letThrough_X0 hown hK hP 0 rfl rfl 3 (by decide) (hts (.fieldLink RX0 16 "CausalGate" "waitKeys" "[I") (by decide +kernel)) (fun _ h9 => h9) rfl dX0_letThrough_9 ?_
  refine lv_iload_n hx hb dX0_letThrough_12 rfl (lv_at hl 1 rfl) ?_
  refine va_iald hx hb hK hP 3 2 rfl rfl (vp_in_nI (by omega) (by decide)) dX0_letThrough_13 ?_
  refine tp_i (y := nI (w q).1) (by rw [nI_clamp (by omega)]) ?_
  refine va_iast hx hb hK hP hD hS 1 0 rfl rfl (vp_in_nI (by omega) (by decide)) dX0_letThrough_14 (fun H locs hP hD hS => ?_)
  rw [show upd (fun z9 => nI (t z9).1) (nI tn).toNatClampNeg (nI (w q).1) = fun z9 => nI (va_up t tn ((w q).1, (w q).2.2) z9).1 from by rw [nI_clamp (by omega)]; exact ut_k t tn ((w q).1, (w q).2.2)] at hP hD
  have hP : va_P (dC, dI) clS [(h0, .inr (0, [.ref a0, .ref a1, .int (nI tn), .ref a2, .ref a3, .ref a4, .int (nI wn), .long g, .int (nI ko), .int (nI mw)])), (a0, .inl (ca 0, 512, .inl (fun z9 => nI (va_up t tn ((w q).1, (w q).2.2) z9).1))), (a1, .inl (ca 1, 512, .inl (fun z9 => (t z9).2))), (a2, .inl (ca 2, 65, .inl (fun z9 => nI (w z9).1))), (a3, .inl (ca 3, 65, .inr (.inl (fun z9 => (w z9).2.1)))), (a4, .inl (ca 4, 65, .inl (fun z9 => (w z9).2.2)))] H := hP
  have hD : va_D A [(h0, .inr (0, [.ref a0, .ref a1, .int (nI tn), .ref a2, .ref a3, .ref a4, .int (nI wn), .long g, .int (nI ko), .int (nI mw)])), (a0, .inl (ca 0, 512, .inl (fun z9 => nI (va_up t tn ((w q).1, (w q).2.2) z9).1))), (a1, .inl (ca 1, 512, .inl (fun z9 => (t z9).2))), (a2, .inl (ca 2, 65, .inl (fun z9 => nI (w z9).1))), (a3, .inl (ca 3, 65, .inr (.inl (fun z9 => (w z9).2.1)))), (a4, .inl (ca 4, 65, .inl (fun z9 => (w z9).2.2)))] := hD
  refine lv_aload_n hx hb dX0_letThrough_15 rfl (lv_at hl 0 rfl) ?_
  refine va_get (D := (dC, dI)) (ci := 0) (v := .ref a1) (C := RX0) (T := TX0) (N := 10) hx hb hts in_X0_letThrough_X0 hown hK hP 0 rfl rfl 1 (by decide) (hts (.fieldLink RX0 13 "CausalGate" "throughLabels" "[I") (by decide +kernel)) (fun _ h9 => h9) rfl dX0_letThrough_16 ?_
  refine lv_aload_n hx hb dX0_letThrough_19 rfl (lv_at hl 0 rfl) ?_
  refine va_get (D := (dC, dI)) (ci := 0) (v := .int (nI tn)) (C := RX0) (T := TX0) (N := 10) hx hb hts in_X0_letThrough_X0 hown hK hP 0 rfl rfl 2 (by decide) (hts (.fieldLink RX0 26 "CausalGate" "throughCount" "I") (by decide +kernel)) (fun _ h9 => h9) rfl dX0_letThrough_20 ?_
  refine lv_aload_n hx hb dX0_letThrough_23 rfl (lv_at hl 0 rfl) ?_
  refine va_get (D := (dC, dI)) (ci := 0) (v := .ref a4) (C := RX0) (T := TX0) (N := 10) hx hb hts in_X0_letThrough_X0 hown hK hP 0 rfl rfl 5 (by decide) (hts (.fieldLink RX0 23 "CausalGate" "waitLabels" "[I") (by decide +kernel)) (fun _ h9 => h9) rfl dX0_letThrough_24 ?_
  refine lv_iload_n hx hb dX0_letThrough_27 rfl (lv_at hl 1 rfl) ?_
  refine va_iald hx hb hK hP 5 4 rfl rfl (vp_in_nI (by omega) (by decide)) dX0_letThrough_28 ?_
  refine tp_i (y := (w q).2.2) (by rw [nI_clamp (by omega)]) ?_
  refine va_iast hx hb hK hP hD hS 2 1 rfl rfl (vp_in_nI (by omega) (by decide)) dX0_letThrough_29 (fun H locs hP hD hS => ?_)
  rw [show upd (fun z9 => (t z9).2) (nI tn).toNatClampNeg ((w q).2.2) = fun z9 => (va_up t tn ((w q).1, (w q).2.2) z9).2 from by rw [nI_clamp (by omega)]; exact ut_l t tn ((w q).1, (w q).2.2)] at hP hD
  have hP : va_P (dC, dI) clS [(h0, .inr (0, [.ref a0, .ref a1, .int (nI tn), .ref a2, .ref a3, .ref a4, .int (nI wn), .long g, .int (nI ko), .int (nI mw)])), (a0, .inl (ca 0, 512, .inl (fun z9 => nI (va_up t tn ((w q).1, (w q).2.2) z9).1))), (a1, .inl (ca 1, 512, .inl (fun z9 => (va_up t tn ((w q).1, (w q).2.2) z9).2))), (a2, .inl (ca 2, 65, .inl (fun z9 => nI (w z9).1))), (a3, .inl (ca 3, 65, .inr (.inl (fun z9 => (w z9).2.1)))), (a4, .inl (ca 4, 65, .inl (fun z9 => (w z9).2.2)))] H := hP
  have hD : va_D A [(h0, .inr (0, [.ref a0, .ref a1, .int (nI tn), .ref a2, .ref a3, .ref a4, .int (nI wn), .long g, .int (nI ko), .int (nI mw)])), (a0, .inl (ca 0, 512, .inl (fun z9 => nI (va_up t tn ((w q).1, (w q).2.2) z9).1))), (a1, .inl (ca 1, 512, .inl (fun z9 => (va_up t tn ((w q).1, (w q).2.2) z9).2))), (a2, .inl (ca 2, 65, .inl (fun z9 => nI (w z9).1))), (a3, .inl (ca 3, 65, .inr (.inl (fun z9 => (w z9).2.1)))), (a4, .inl (ca 4, 65, .inl (fun z9 => (w z9).2.2)))] := hD
  refine lv_aload_n hx hb dX0_letThrough_30 rfl (lv_at hl 0 rfl) ?_
  refine lv_dup hx hb dX0_letThrough_31 rfl ?_
  refine va_get (D := (dC, dI)) (ci := 0) (v := .int (nI tn)) (C := RX0) (T := TX0) (N := 10) hx hb hts in_X0_letThrough_X0 hown hK hP 0 rfl rfl 2 (by decide) (hts (.fieldLink RX0 26 "CausalGate" "throughCount" "I") (by decide +kernel)) (fun _ h9 => h9) rfl dX0_letThrough_32 ?_
  refine lv_iconst (v := 1) hx hb dX0_letThrough_35 (by decide) ?_
  refine lv_iadd hx hb dX0_letThrough_36 ?_
  refine tp_i (y := nI (tn + 1)) (nI_1 tn) ?_
  refine va_put (D := (dC, dI)) (ci := 0) (v := .int (nI (tn + 1))) (ty := .int) (C := RX0) (T := TX0) (N := 10) hx hb hts in_X0_letThrough_X0 tyX0 tyX0_ok nmX0 hown hK hP hD hS 0 rfl rfl 2 (by decide) (hts (.fieldLink RX0 26 "CausalGate" "throughCount" "I") (by decide +kernel)) (fun _ h9 => h9) rfl (by decide +kernel) rfl rfl (Nat.le_of_ble_eq_true rfl) dX0_letThrough_37 (fun H locs hP hD hS => ?_)
  have hP : va_P (dC, dI) clS [(h0, .inr (0, [.ref a0, .ref a1, .int (nI (tn + 1)), .ref a2, .ref a3, .ref a4, .int (nI wn), .long g, .int (nI ko), .int (nI mw)])), (a0, .inl (ca 0, 512, .inl (fun z9 => nI (va_up t tn ((w q).1, (w q).2.2) z9).1))), (a1, .inl (ca 1, 512, .inl (fun z9 => (va_up t tn ((w q).1, (w q).2.2) z9).2))), (a2, .inl (ca 2, 65, .inl (fun z9 => nI (w z9).1))), (a3, .inl (ca 3, 65, .inr (.inl (fun z9 => (w z9).2.1)))), (a4, .inl (ca 4, 65, .inl (fun z9 => (w z9).2.2)))] H := hP
  have hD : va_D A [(h0, .inr (0, [.ref a0, .ref a1, .int (nI (tn + 1)), .ref a2, .ref a3, .ref a4, .int (nI wn), .long g, .int (nI ko), .int (nI mw)])), (a0, .inl (ca 0, 512, .inl (fun z9 => nI (va_up t tn ((w q).1, (w q).2.2) z9).1))), (a1, .inl (ca 1, 512, .inl (fun z9 => (va_up t tn ((w q).1, (w q).2.2) z9).2))), (a2, .inl (ca 2, 65, .inl (fun z9 => nI (w z9).1))), (a3, .inl (ca 3, 65, .inr (.inl (fun z9 => (w z9).2.1)))), (a4, .inl (ca 4, 65, .inl (fun z9 => (w z9).2.2)))] := hD
  refine lv_aload_n hx hb dX0_letThrough_40 rfl (lv_at hl 0 rfl) ?_
  refine lv_dup hx hb dX0_letThrough_41 rfl ?_
  refine va_get (D := (dC, dI)) (ci := 0) (v := .long g) (C := RX0) (T := TX0) (N := 10) hx hb hts in_X0_letThrough_X0 hown hK hP 0 rfl rfl 7 (by decide) (hts (.fieldLink RX0 33 "CausalGate" "gateClock" "J") (by decide +kernel)) (fun _ h9 => h9) rfl dX0_letThrough_42 ?_
  refine lv_lconst (v := 1) hx hb dX0_letThrough_45 (by decide) ?_
  refine lv_bipush (v := 8) hx hb dX0_letThrough_46 (by decide) ?_
  refine lv_aload_n hx hb dX0_letThrough_48 rfl (lv_at hl 0 rfl) ?_
  refine va_get (D := (dC, dI)) (ci := 0) (v := .ref a2) (C := RX0) (T := TX0) (N := 10) hx hb hts in_X0_letThrough_X0 hown hK hP 0 rfl rfl 3 (by decide) (hts (.fieldLink RX0 16 "CausalGate" "waitKeys" "[I") (by decide +kernel)) (fun _ h9 => h9) rfl dX0_letThrough_49 ?_
  refine lv_iload_n hx hb dX0_letThrough_52 rfl (lv_at hl 1 rfl) ?_
  refine va_iald hx hb hK hP 3 2 rfl rfl (vp_in_nI (by omega) (by decide)) dX0_letThrough_53 ?_
  refine tp_i (y := nI (w q).1) (by rw [nI_clamp (by omega)]) ?_
  refine rd_i (W.runS (As := [.int (nI (w q).1)]) (rest := [.int 8, .long 1, .long g, .ref h0]) ⟨hx, hb, hml, hown, hts⟩ (k_actorOf l ((w q).1) (by omega)) (va_cwS 1 hts gX0_letThrough_X0_actorOf rfl rfl rfl (by decide +kernel) ⟨Nat.le_of_ble_eq_true rfl, Nat.le_of_ble_eq_true rfl⟩) preEq rfl rfl hl.1 rfl (lv_room (Nat.le_of_ble_eq_true rfl)) dX0_letThrough_54 ⟨Nat.zero_le _, Nat.zero_le _⟩) ?_
  refine lv_imul hx hb dX0_letThrough_57 ?_
  refine tp_i (y := nI (8 * ((w q).1 / 256))) (pk_mul 8 _) ?_
  refine lv_lshl (v := lN (2 ^ (8 * ((w q).1 / 256)))) hx hb dX0_letThrough_58 (one_shl (by omega)) ?_
  refine lv_ladd hx hb dX0_letThrough_59 ?_
  refine tp_l (y := ltG g (w q).1) (rfl) ?_
  refine va_put (D := (dC, dI)) (ci := 0) (v := .long (ltG g (w q).1)) (ty := .long) (C := RX0) (T := TX0) (N := 10) hx hb hts in_X0_letThrough_X0 tyX0 tyX0_ok nmX0 hown hK hP hD hS 0 rfl rfl 7 (by decide) (hts (.fieldLink RX0 33 "CausalGate" "gateClock" "J") (by decide +kernel)) (fun _ h9 => h9) rfl (by decide +kernel) rfl rfl (Nat.le_of_ble_eq_true rfl) dX0_letThrough_60 (fun H locs hP hD hS => ?_)
  have hP : va_P (dC, dI) clS [(h0, .inr (0, [.ref a0, .ref a1, .int (nI (tn + 1)), .ref a2, .ref a3, .ref a4, .int (nI wn), .long (ltG g (w q).1), .int (nI ko), .int (nI mw)])), (a0, .inl (ca 0, 512, .inl (fun z9 => nI (va_up t tn ((w q).1, (w q).2.2) z9).1))), (a1, .inl (ca 1, 512, .inl (fun z9 => (va_up t tn ((w q).1, (w q).2.2) z9).2))), (a2, .inl (ca 2, 65, .inl (fun z9 => nI (w z9).1))), (a3, .inl (ca 3, 65, .inr (.inl (fun z9 => (w z9).2.1)))), (a4, .inl (ca 4, 65, .inl (fun z9 => (w z9).2.2)))] H := hP
  have hD : va_D A [(h0, .inr (0, [.ref a0, .ref a1, .int (nI (tn + 1)), .ref a2, .ref a3, .ref a4, .int (nI wn), .long (ltG g (w q).1), .int (nI ko), .int (nI mw)])), (a0, .inl (ca 0, 512, .inl (fun z9 => nI (va_up t tn ((w q).1, (w q).2.2) z9).1))), (a1, .inl (ca 1, 512, .inl (fun z9 => (va_up t tn ((w q).1, (w q).2.2) z9).2))), (a2, .inl (ca 2, 65, .inl (fun z9 => nI (w z9).1))), (a3, .inl (ca 3, 65, .inr (.inl (fun z9 => (w z9).2.1)))), (a4, .inl (ca 4, 65, .inl (fun z9 => (w z9).2.2)))] := hD
  refine lv_aload_n hx hb dX0_letThrough_63 rfl (lv_at hl 0 rfl) ?_
  refine lv_iload_n hx hb dX0_letThrough_64 rfl (lv_at hl 1 rfl) ?_
  refine mt_v (wc := [(h0, .inr (0, [.ref a0, .ref a1, .int (nI (tn + 1)), .ref a2, .ref a3, .ref a4, .int (nI wn), .long (ltG g (w q).1), .int (nI ko), .int (nI mw)])), (a0, .inl (ca 0, 512, .inl (fun z9 => nI (va_up t tn ((w q).1, (w q).2.2) z9).1))), (a1, .inl (ca 1, 512, .inl (fun z9 => (va_up t tn ((w q).1, (w q).2.2) z9).2))), (a2, .inl (ca 2, 65, .inl (fun z9 => nI (w z9).1))), (a3, .inl (ca 3, 65, .inr (.inl (fun z9 => (w z9).2.1)))), (a4, .inl (ca 4, 65, .inl (fun z9 => (w z9).2.2)))]) (wr := []) (w1 := [(h0, .inr (0, [.ref a0, .ref a1, .int (nI (tn + 1)), .ref a2, .ref a3, .ref a4, .int (nI (wn - 1)), .long (ltG g (w q).1), .int (nI ko), .int (nI mw)])), (a0, .inl (ca 0, 512, .inl (fun z9 => nI ((va_up t tn ((w q).1, (w q).2.2)) z9).1))), (a1, .inl (ca 1, 512, .inl (fun z9 => ((va_up t tn ((w q).1, (w q).2.2)) z9).2))), (a2, .inl (ca 2, 65, .inl (fun z9 => nI ((rmS (wn - (q + 1)) (q + 1) w) z9).1))), (a3, .inl (ca 3, 65, .inr (.inl (fun z9 => ((rmS (wn - (q + 1)) (q + 1) w) z9).2.1)))), (a4, .inl (ca 4, 65, .inl (fun z9 => ((rmS (wn - (q + 1)) (q + 1) w) z9).2.2)))]) [0, 1, 2, 3, 4, 5] [] hP hD hS hA rfl rfl (by decide) (by decide) (va_runV (mc := 0) (ms := 0) (As := [.int (nI q)]) (rest := []) ⟨hx, hb, hml, hown, hts⟩ (k_removeWaiting l dC dI ca h0 a0 a1 a2 a3 a4 (va_up t tn ((w q).1, (w q).2.2)) (tn + 1) w wn (ltG g (w q).1) ko mw _ q (by omega) (by omega)) (cwV 1 hts gX0_letThrough_X0_removeWaiting rfl rfl rfl (by decide +kernel) ⟨Nat.le_of_ble_eq_true rfl, Nat.le_of_ble_eq_true rfl⟩) (pm_V (ci := 0) (q0 := 0) hK (hP.sub (ws' := [(h0, .inr (0, [.ref a0, .ref a1, .int (nI (tn + 1)), .ref a2, .ref a3, .ref a4, .int (nI wn), .long (ltG g (w q).1), .int (nI ko), .int (nI mw)])), (a0, .inl (ca 0, 512, .inl (fun z9 => nI (va_up t tn ((w q).1, (w q).2.2) z9).1))), (a1, .inl (ca 1, 512, .inl (fun z9 => (va_up t tn ((w q).1, (w q).2.2) z9).2))), (a2, .inl (ca 2, 65, .inl (fun z9 => nI (w z9).1))), (a3, .inl (ca 3, 65, .inr (.inl (fun z9 => (w z9).2.1)))), (a4, .inl (ca 4, 65, .inl (fun z9 => (w z9).2.2)))]) [0, 1, 2, 3, 4, 5] rfl) (hD.sub (ws' := [(h0, .inr (0, [.ref a0, .ref a1, .int (nI (tn + 1)), .ref a2, .ref a3, .ref a4, .int (nI wn), .long (ltG g (w q).1), .int (nI ko), .int (nI mw)])), (a0, .inl (ca 0, 512, .inl (fun z9 => nI (va_up t tn ((w q).1, (w q).2.2) z9).1))), (a1, .inl (ca 1, 512, .inl (fun z9 => (va_up t tn ((w q).1, (w q).2.2) z9).2))), (a2, .inl (ca 2, 65, .inl (fun z9 => nI (w z9).1))), (a3, .inl (ca 3, 65, .inr (.inl (fun z9 => (w z9).2.1)))), (a4, .inl (ca 4, 65, .inl (fun z9 => (w z9).2.2)))]) [0, 1, 2, 3, 4, 5] (by decide) rfl) rfl rfl) rfl rfl hl.1 rfl (lv_room (Nat.le_of_ble_eq_true rfl)) dX0_letThrough_65 ⟨Nat.zero_le _, Nat.zero_le _⟩) (fun H locs hP hD hS => ?_)
  have hP : va_P (dC, dI) clS [(h0, .inr (0, [.ref a0, .ref a1, .int (nI (tn + 1)), .ref a2, .ref a3, .ref a4, .int (nI (wn - 1)), .long (ltG g (w q).1), .int (nI ko), .int (nI mw)])), (a0, .inl (ca 0, 512, .inl (fun z9 => nI ((va_up t tn ((w q).1, (w q).2.2)) z9).1))), (a1, .inl (ca 1, 512, .inl (fun z9 => ((va_up t tn ((w q).1, (w q).2.2)) z9).2))), (a2, .inl (ca 2, 65, .inl (fun z9 => nI ((rmS (wn - (q + 1)) (q + 1) w) z9).1))), (a3, .inl (ca 3, 65, .inr (.inl (fun z9 => ((rmS (wn - (q + 1)) (q + 1) w) z9).2.1)))), (a4, .inl (ca 4, 65, .inl (fun z9 => ((rmS (wn - (q + 1)) (q + 1) w) z9).2.2)))] H := hP
  have hD : va_D A [(h0, .inr (0, [.ref a0, .ref a1, .int (nI (tn + 1)), .ref a2, .ref a3, .ref a4, .int (nI (wn - 1)), .long (ltG g (w q).1), .int (nI ko), .int (nI mw)])), (a0, .inl (ca 0, 512, .inl (fun z9 => nI ((va_up t tn ((w q).1, (w q).2.2)) z9).1))), (a1, .inl (ca 1, 512, .inl (fun z9 => ((va_up t tn ((w q).1, (w q).2.2)) z9).2))), (a2, .inl (ca 2, 65, .inl (fun z9 => nI ((rmS (wn - (q + 1)) (q + 1) w) z9).1))), (a3, .inl (ca 3, 65, .inr (.inl (fun z9 => ((rmS (wn - (q + 1)) (q + 1) w) z9).2.1)))), (a4, .inl (ca 4, 65, .inl (fun z9 => ((rmS (wn - (q + 1)) (q + 1) w) z9).2.2)))] := hD
  exact mv_ret hx hb hr hlocks hAe hP hD hS dX0_letThrough_68

set_option maxRecDepth 20000 in
theorem in_X0_letThroughAllThatCan_X0 : ∀ w ∈ wsX00, w ∈ wsX0_letThroughAllThatCan := by decide +kernel

set_option maxHeartbeats 4000000 in
set_option maxRecDepth 100000 in
theorem k_letThroughAllThatCan (l : Launch) (dC : Nat → ClassId) (dI : Nat → Nat → Nat) (ca : Nat → ClassId) (h0 a0 a1 a2 a3 a4 : Nat) (t : TF) (tn : Nat) (w : WF) (wn : Nat) (g : Int64) (ko mw : Nat) (sz : Nat) (hwn : wn ≤ 65) (hw : ∀ j, j < wn → (w j).1 < 2048) (htn : tn ≤ 512) : Met l yX0_letThroughAllThatCan wsX0_letThroughAllThatCan ({ frames := 5, cells := 0, slots := 0, locals := 112 }) (Pm [.ref h0] (dC, dI) clS [(ca 0, .int), (ca 1, .int), (ca 2, .int), (ca 3, .long), (ca 4, .int)] [(h0, .inr (0, [.ref a0, .ref a1, .int (nI tn), .ref a2, .ref a3, .ref a4, .int (nI wn), .long g, .int (nI ko), .int (nI mw)])), (a0, .inl (ca 0, 512, .inl (fun z9 => nI (t z9).1))), (a1, .inl (ca 1, 512, .inl (fun z9 => (t z9).2))), (a2, .inl (ca 2, 65, .inl (fun z9 => nI (w z9).1))), (a3, .inl (ca 3, 65, .inr (.inl (fun z9 => (w z9).2.1)))), (a4, .inl (ca 4, 65, .inl (fun z9 => (w z9).2.2)))] sz) (QmI (nI (ltS 65 (t, tn, w, wn, g) 0).2) (dC, dI) clS [(h0, .inr (0, [.ref a0, .ref a1, .int (nI tn), .ref a2, .ref a3, .ref a4, .int (nI wn), .long g, .int (nI ko), .int (nI mw)])), (a0, .inl (ca 0, 512, .inl (fun z9 => nI (t z9).1))), (a1, .inl (ca 1, 512, .inl (fun z9 => (t z9).2))), (a2, .inl (ca 2, 65, .inl (fun z9 => nI (w z9).1))), (a3, .inl (ca 3, 65, .inr (.inl (fun z9 => (w z9).2.1)))), (a4, .inl (ca 4, 65, .inl (fun z9 => (w z9).2.2)))] [(h0, .inr (0, [.ref a0, .ref a1, .int (nI ((ltS 65 (t, tn, w, wn, g) 0).1.2.1)), .ref a2, .ref a3, .ref a4, .int (nI ((ltS 65 (t, tn, w, wn, g) 0).1.2.2.2.1)), .long ((ltS 65 (t, tn, w, wn, g) 0).1.2.2.2.2), .int (nI ko), .int (nI mw)])), (a0, .inl (ca 0, 512, .inl (fun z9 => nI (((ltS 65 (t, tn, w, wn, g) 0).1.1) z9).1))), (a1, .inl (ca 1, 512, .inl (fun z9 => (((ltS 65 (t, tn, w, wn, g) 0).1.1) z9).2))), (a2, .inl (ca 2, 65, .inl (fun z9 => nI (((ltS 65 (t, tn, w, wn, g) 0).1.2.2.1) z9).1))), (a3, .inl (ca 3, 65, .inr (.inl (fun z9 => (((ltS 65 (t, tn, w, wn, g) 0).1.2.2.1) z9).2.1)))), (a4, .inl (ca 4, 65, .inl (fun z9 => (((ltS 65 (t, tn, w, wn, g) 0).1.2.2.1) z9).2.2)))] sz) 0 0 (va_A [(h0, .inr (0, [.ref a0, .ref a1, .int (nI tn), .ref a2, .ref a3, .ref a4, .int (nI wn), .long g, .int (nI ko), .int (nI mw)])), (a0, .inl (ca 0, 512, .inl (fun z9 => nI (t z9).1))), (a1, .inl (ca 1, 512, .inl (fun z9 => (t z9).2))), (a2, .inl (ca 2, 65, .inl (fun z9 => nI (w z9).1))), (a3, .inl (ca 3, 65, .inr (.inl (fun z9 => (w z9).2.1)))), (a4, .inl (ca 4, 65, .inl (fun z9 => (w z9).2.2)))] sz) := by
  refine Met.ofW (cc := cX0_letThroughAllThatCan) (maxL := 3) (ret := (some .int)) (by decide) rfl ?_
  intro p e s m args below meth c s₁ B hml hv
  obtain ⟨hargs, hsz, hP, hK, hD0⟩ := hv
  have hx := B.exec
  have hb := B.bytes
  have hr := B.returns
  have hts := atoms_spec (ws := wsX0_letThroughAllThatCan) B.pre
  have hown : s.vm.findClass RX0 = some m.cls := findClass_of_methodNamed B.named
  have hlocks := B.notSynchronized
  subst hsz
  have hD := hD0.self (sz := s.heap.size)
  obtain ⟨A, hAe⟩ : ∃ A, A = va_A [(h0, .inr (0, [.ref a0, .ref a1, .int (nI tn), .ref a2, .ref a3, .ref a4, .int (nI wn), .long g, .int (nI ko), .int (nI mw)])), (a0, .inl (ca 0, 512, .inl (fun z9 => nI (t z9).1))), (a1, .inl (ca 1, 512, .inl (fun z9 => (t z9).2))), (a2, .inl (ca 2, 65, .inl (fun z9 => nI (w z9).1))), (a3, .inl (ca 3, 65, .inr (.inl (fun z9 => (w z9).2.1)))), (a4, .inl (ca 4, 65, .inl (fun z9 => (w z9).2.2)))] s.heap.size := ⟨_, rfl⟩
  rw [← hAe] at hD ⊢
  have hA : ∀ q : Nat, s.heap.size ≤ q → A q := fun q h => by rw [hAe]; exact Or.inr h
  have hS : va_S A s.heap s.heap [] := va_S.rf
  have hP : va_P (dC, dI) clS [(h0, .inr (0, [.ref a0, .ref a1, .int (nI tn), .ref a2, .ref a3, .ref a4, .int (nI wn), .long g, .int (nI ko), .int (nI mw)])), (a0, .inl (ca 0, 512, .inl (fun z9 => nI (t z9).1))), (a1, .inl (ca 1, 512, .inl (fun z9 => (t z9).2))), (a2, .inl (ca 2, 65, .inl (fun z9 => nI (w z9).1))), (a3, .inl (ca 3, 65, .inr (.inl (fun z9 => (w z9).2.1)))), (a4, .inl (ca 4, 65, .inl (fun z9 => (w z9).2.2)))] s.heap := hP
  have hl := lv_entry ([.ref h0]) (n := 3) (Nat.le_of_ble_eq_true rfl)
  have hE : entryFrame m args 3 = F0 m 0 ((lg_sl ([.ref h0]) ++ List.replicate (3 - (lg_sl ([.ref h0])).length) Slot.unset).toArray) [] := by rw [hargs]; exact lg_entry_eq m ([.ref h0]) 3
  rw [hE]
  generalize (lg_sl ([.ref h0]) ++ List.replicate (3 - (lg_sl ([.ref h0])).length) Slot.unset).toArray = ls at hl ⊢
  have hl : lv_has ls 3 [(0, .ref h0)] := hl
  refine lv_iconst (v := 0) hx hb dX0_letThroughAllThatCan_0 (by decide) ?_
  refine tp_i (y := nI 0) (nI_0.symm) ?_
  refine lv_istore_n (lv' := [(1, .int (nI 0)), (0, .ref h0)]) hx hb dX0_letThroughAllThatCan_1 rfl hl (by decide) rfl (fun ls hl => ?_)
  have loop : ∀ (n : Nat) (x : Nat) (t1 : TF) (tn1 : Nat) (w1 : WF) (wn1 : Nat) (g1 : Int64), x + n = 65 → wn1 ≤ 65 → tn1 ≤ 512 → (∀ j, j < wn1 → (w1 j).1 < 2048) → ltS n (t1, tn1, w1, wn1, g1) x = ltS 65 (t, tn, w, wn, g) 0 → ∀ (H : Heap) (locs : List Loc), va_P (dC, dI) clS [(h0, .inr (0, [.ref a0, .ref a1, .int (nI tn1), .ref a2, .ref a3, .ref a4, .int (nI wn1), .long g1, .int (nI ko), .int (nI mw)])), (a0, .inl (ca 0, 512, .inl (fun z9 => nI (t1 z9).1))), (a1, .inl (ca 1, 512, .inl (fun z9 => (t1 z9).2))), (a2, .inl (ca 2, 65, .inl (fun z9 => nI (w1 z9).1))), (a3, .inl (ca 3, 65, .inr (.inl (fun z9 => (w1 z9).2.1)))), (a4, .inl (ca 4, 65, .inl (fun z9 => (w1 z9).2.2)))] H → va_D A [(h0, .inr (0, [.ref a0, .ref a1, .int (nI tn1), .ref a2, .ref a3, .ref a4, .int (nI wn1), .long g1, .int (nI ko), .int (nI mw)])), (a0, .inl (ca 0, 512, .inl (fun z9 => nI (t1 z9).1))), (a1, .inl (ca 1, 512, .inl (fun z9 => (t1 z9).2))), (a2, .inl (ca 2, 65, .inl (fun z9 => nI (w1 z9).1))), (a3, .inl (ca 3, 65, .inr (.inl (fun z9 => (w1 z9).2.1)))), (a4, .inl (ca 4, 65, .inl (fun z9 => (w1 z9).2.2)))] → va_S A s.heap H locs → ∀ ls : Array Slot, lv_has ls 3 [(0, .ref h0), (1, .int (nI x))] → W p l e (headSpec wsX0_letThroughAllThatCan ({ frames := 5, cells := 0, slots := 0, locals := 112 })).room s m args below meth c H locs 0 0 (MQ below (QmI (nI (ltS 65 (t, tn, w, wn, g) 0).2) (dC, dI) clS [(h0, .inr (0, [.ref a0, .ref a1, .int (nI tn), .ref a2, .ref a3, .ref a4, .int (nI wn), .long g, .int (nI ko), .int (nI mw)])), (a0, .inl (ca 0, 512, .inl (fun z9 => nI (t z9).1))), (a1, .inl (ca 1, 512, .inl (fun z9 => (t z9).2))), (a2, .inl (ca 2, 65, .inl (fun z9 => nI (w z9).1))), (a3, .inl (ca 3, 65, .inr (.inl (fun z9 => (w z9).2.1)))), (a4, .inl (ca 4, 65, .inl (fun z9 => (w z9).2.2)))] [(h0, .inr (0, [.ref a0, .ref a1, .int (nI ((ltS 65 (t, tn, w, wn, g) 0).1.2.1)), .ref a2, .ref a3, .ref a4, .int (nI ((ltS 65 (t, tn, w, wn, g) 0).1.2.2.2.1)), .long ((ltS 65 (t, tn, w, wn, g) 0).1.2.2.2.2), .int (nI ko), .int (nI mw)])), (a0, .inl (ca 0, 512, .inl (fun z9 => nI (((ltS 65 (t, tn, w, wn, g) 0).1.1) z9).1))), (a1, .inl (ca 1, 512, .inl (fun z9 => (((ltS 65 (t, tn, w, wn, g) 0).1.1) z9).2))), (a2, .inl (ca 2, 65, .inl (fun z9 => nI (((ltS 65 (t, tn, w, wn, g) 0).1.2.2.1) z9).1))), (a3, .inl (ca 3, 65, .inr (.inl (fun z9 => (((ltS 65 (t, tn, w, wn, g) 0).1.2.2.1) z9).2.1)))), (a4, .inl (ca 4, 65, .inl (fun z9 => (((ltS 65 (t, tn, w, wn, g) 0).1.2.2.1) z9).2.2)))] s.heap.size) args s 0 0 A) (F0 m 2 ls []) := by
    intro n
    induction n with
    | zero =>
      intro x t1 tn1 w1 wn1 g1 hx9 hwn1 htn1 hw1 hk9 H locs hP hD hS ls hl
      refine lv_iload_n hx hb dX0_letThroughAllThatCan_2 rfl (lv_at hl 1 rfl) ?_
      refine lv_bipush (v := 65) hx hb dX0_letThroughAllThatCan_3 (by decide) ?_
      refine tp_i (y := nI 65) (rfl) ?_
      refine lv_icmp_ge (tgt := 31) hx hb dX0_letThroughAllThatCan_5 (by decide) (fun c_5 => ?_) (fun c_5 => ?_)
      · refine lv_iload_n hx hb dX0_letThroughAllThatCan_31 rfl (lv_at hl 1 rfl) ?_
        rw [← hk9]
        exact mi_ret hx hb hr hlocks (rfl) hAe hP hD hS dX0_letThroughAllThatCan_32
      · exact absurd (nI_le (by omega) (by omega)) c_5
    | succ n ih =>
      intro x t1 tn1 w1 wn1 g1 hx9 hwn1 htn1 hw1 hk9 H locs hP hD hS ls hl
      refine lv_iload_n hx hb dX0_letThroughAllThatCan_2 rfl (lv_at hl 1 rfl) ?_
      refine lv_bipush (v := 65) hx hb dX0_letThroughAllThatCan_3 (by decide) ?_
      refine tp_i (y := nI 65) (rfl) ?_
      refine lv_icmp_ge (tgt := 31) hx hb dX0_letThroughAllThatCan_5 (by decide) (fun c_5 => ?_) (fun c_5 => ?_)
      · exact absurd ((nI_leI (by omega) (by omega)).mp c_5) (by omega)
      · refine lv_aload_n hx hb dX0_letThroughAllThatCan_8 rfl (lv_at hl 0 rfl) ?_
        refine rd_i (W.runV (As := []) (rest := []) ⟨hx, hb, hml, hown, hts⟩ (k_firstThatCanComeThrough l dC dI ca h0 a0 a1 a2 a3 a4 t1 tn1 w1 wn1 g1 ko mw hwn1 hw1 htn1) (cwV 0 hts gX0_letThroughAllThatCan_X0_firstThatCanComeThrough rfl rfl rfl (by decide +kernel) ⟨Nat.le_of_ble_eq_true rfl, Nat.le_of_ble_eq_true rfl⟩) (pr_V (ci := 0) (q0 := 0) hK hP rfl rfl) rfl rfl hl.1 rfl (lv_room (Nat.le_of_ble_eq_true rfl)) dX0_letThroughAllThatCan_9 ⟨Nat.zero_le _, Nat.zero_le _⟩) ?_
        refine lv_istore_n (lv' := [(2, .int (oI (fs tn1 g1 w1 wn1 0))), (0, .ref h0), (1, .int (nI x))]) hx hb dX0_letThroughAllThatCan_12 rfl hl (by decide) rfl (fun ls hl => ?_)
        refine lv_iload_n hx hb dX0_letThroughAllThatCan_13 rfl (lv_at hl 0 rfl) ?_
        refine lv_iconst (v := -1) hx hb dX0_letThroughAllThatCan_14 (by decide) ?_
        refine lv_icmp_ne (tgt := 20) hx hb dX0_letThroughAllThatCan_15 (by decide) (fun c_15 => ?_) (fun c_15 => ?_)
        · obtain ⟨q, hq⟩ : ∃ q, fs tn1 g1 w1 wn1 0 = some q := by cases hq : fs tn1 g1 w1 wn1 0 with
            | none => exact absurd (by rw [hq]; rfl) c_15
            | some q => exact ⟨q, rfl⟩
          have hq1 := fs_lt hq
          have hq2 := fs_tn hq
          rw [hq] at hl
          have hl : lv_has ls 3 [(2, .int (nI q)), (0, .ref h0), (1, .int (nI x))] := hl
          refine lv_aload_n hx hb dX0_letThroughAllThatCan_20 rfl (lv_at hl 1 rfl) ?_
          refine lv_iload_n hx hb dX0_letThroughAllThatCan_21 rfl (lv_at hl 0 rfl) ?_
          refine mt_v (wc := [(h0, .inr (0, [.ref a0, .ref a1, .int (nI tn1), .ref a2, .ref a3, .ref a4, .int (nI wn1), .long g1, .int (nI ko), .int (nI mw)])), (a0, .inl (ca 0, 512, .inl (fun z9 => nI (t1 z9).1))), (a1, .inl (ca 1, 512, .inl (fun z9 => (t1 z9).2))), (a2, .inl (ca 2, 65, .inl (fun z9 => nI (w1 z9).1))), (a3, .inl (ca 3, 65, .inr (.inl (fun z9 => (w1 z9).2.1)))), (a4, .inl (ca 4, 65, .inl (fun z9 => (w1 z9).2.2)))]) (wr := []) (w1 := [(h0, .inr (0, [.ref a0, .ref a1, .int (nI (tn1 + 1)), .ref a2, .ref a3, .ref a4, .int (nI (wn1 - 1)), .long (ltG g1 (w1 q).1), .int (nI ko), .int (nI mw)])), (a0, .inl (ca 0, 512, .inl (fun z9 => nI ((va_up t1 tn1 ((w1 q).1, (w1 q).2.2)) z9).1))), (a1, .inl (ca 1, 512, .inl (fun z9 => ((va_up t1 tn1 ((w1 q).1, (w1 q).2.2)) z9).2))), (a2, .inl (ca 2, 65, .inl (fun z9 => nI ((rmS (wn1 - (q + 1)) (q + 1) w1) z9).1))), (a3, .inl (ca 3, 65, .inr (.inl (fun z9 => ((rmS (wn1 - (q + 1)) (q + 1) w1) z9).2.1)))), (a4, .inl (ca 4, 65, .inl (fun z9 => ((rmS (wn1 - (q + 1)) (q + 1) w1) z9).2.2)))]) [0, 1, 2, 3, 4, 5] [] hP hD hS hA rfl rfl (by decide) (by decide) (va_runV (mc := 0) (ms := 0) (As := [.int (nI q)]) (rest := []) ⟨hx, hb, hml, hown, hts⟩ (k_letThrough l dC dI ca h0 a0 a1 a2 a3 a4 t1 tn1 w1 wn1 g1 ko mw _ q (by omega) hwn1 hw1 hq2) (cwV 1 hts gX0_letThroughAllThatCan_X0_letThrough rfl rfl rfl (by decide +kernel) ⟨Nat.le_of_ble_eq_true rfl, Nat.le_of_ble_eq_true rfl⟩) (pm_V (ci := 0) (q0 := 0) hK (hP.sub (ws' := [(h0, .inr (0, [.ref a0, .ref a1, .int (nI tn1), .ref a2, .ref a3, .ref a4, .int (nI wn1), .long g1, .int (nI ko), .int (nI mw)])), (a0, .inl (ca 0, 512, .inl (fun z9 => nI (t1 z9).1))), (a1, .inl (ca 1, 512, .inl (fun z9 => (t1 z9).2))), (a2, .inl (ca 2, 65, .inl (fun z9 => nI (w1 z9).1))), (a3, .inl (ca 3, 65, .inr (.inl (fun z9 => (w1 z9).2.1)))), (a4, .inl (ca 4, 65, .inl (fun z9 => (w1 z9).2.2)))]) [0, 1, 2, 3, 4, 5] rfl) (hD.sub (ws' := [(h0, .inr (0, [.ref a0, .ref a1, .int (nI tn1), .ref a2, .ref a3, .ref a4, .int (nI wn1), .long g1, .int (nI ko), .int (nI mw)])), (a0, .inl (ca 0, 512, .inl (fun z9 => nI (t1 z9).1))), (a1, .inl (ca 1, 512, .inl (fun z9 => (t1 z9).2))), (a2, .inl (ca 2, 65, .inl (fun z9 => nI (w1 z9).1))), (a3, .inl (ca 3, 65, .inr (.inl (fun z9 => (w1 z9).2.1)))), (a4, .inl (ca 4, 65, .inl (fun z9 => (w1 z9).2.2)))]) [0, 1, 2, 3, 4, 5] (by decide) rfl) rfl rfl) rfl rfl hl.1 rfl (lv_room (Nat.le_of_ble_eq_true rfl)) dX0_letThroughAllThatCan_22 ⟨Nat.zero_le _, Nat.zero_le _⟩) (fun H locs hP hD hS => ?_)
          have hP : va_P (dC, dI) clS [(h0, .inr (0, [.ref a0, .ref a1, .int (nI (tn1 + 1)), .ref a2, .ref a3, .ref a4, .int (nI (wn1 - 1)), .long (ltG g1 (w1 q).1), .int (nI ko), .int (nI mw)])), (a0, .inl (ca 0, 512, .inl (fun z9 => nI ((va_up t1 tn1 ((w1 q).1, (w1 q).2.2)) z9).1))), (a1, .inl (ca 1, 512, .inl (fun z9 => ((va_up t1 tn1 ((w1 q).1, (w1 q).2.2)) z9).2))), (a2, .inl (ca 2, 65, .inl (fun z9 => nI ((rmS (wn1 - (q + 1)) (q + 1) w1) z9).1))), (a3, .inl (ca 3, 65, .inr (.inl (fun z9 => ((rmS (wn1 - (q + 1)) (q + 1) w1) z9).2.1)))), (a4, .inl (ca 4, 65, .inl (fun z9 => ((rmS (wn1 - (q + 1)) (q + 1) w1) z9).2.2)))] H := hP
          have hD : va_D A [(h0, .inr (0, [.ref a0, .ref a1, .int (nI (tn1 + 1)), .ref a2, .ref a3, .ref a4, .int (nI (wn1 - 1)), .long (ltG g1 (w1 q).1), .int (nI ko), .int (nI mw)])), (a0, .inl (ca 0, 512, .inl (fun z9 => nI ((va_up t1 tn1 ((w1 q).1, (w1 q).2.2)) z9).1))), (a1, .inl (ca 1, 512, .inl (fun z9 => ((va_up t1 tn1 ((w1 q).1, (w1 q).2.2)) z9).2))), (a2, .inl (ca 2, 65, .inl (fun z9 => nI ((rmS (wn1 - (q + 1)) (q + 1) w1) z9).1))), (a3, .inl (ca 3, 65, .inr (.inl (fun z9 => ((rmS (wn1 - (q + 1)) (q + 1) w1) z9).2.1)))), (a4, .inl (ca 4, 65, .inl (fun z9 => ((rmS (wn1 - (q + 1)) (q + 1) w1) z9).2.2)))] := hD
          refine lv_iinc (v := (nI (x + 1))) (lv' := [(1, .int (nI (x + 1))), (2, .int (nI q)), (0, .ref h0)]) hx hb dX0_letThroughAllThatCan_25 hl (k := 2) rfl (nI_1 x) (by decide) rfl (fun ls hl => ?_)
          refine lv_goto (tgt := 2) hx hb dX0_letThroughAllThatCan_28 (by decide) ?_
          exact ih (x + 1) _ _ _ _ _ (by omega) (by omega) (by omega) (rmS_keys hw1 (by omega)) (by rw [← hk9]; simp only [ltS]; rw [hq]; rfl) _ _ hP hD hS ls (lv_sub hl [2, 0] rfl)
        · have c8 : fs tn1 g1 w1 wn1 0 = none := (oI_m1 (fun a h => by have := fs_lt h; omega)).mp c_15
          have hk8 : ltS 65 (t, tn, w, wn, g) 0 = ((t1, tn1, w1, wn1, g1), x) := by rw [← hk9]; simp only [ltS]; rw [c8]
          refine lv_iload_n hx hb dX0_letThroughAllThatCan_18 rfl (lv_at hl 2 rfl) ?_
          rw [hk8]
          exact mi_ret hx hb hr hlocks (rfl) hAe hP hD hS dX0_letThroughAllThatCan_19
  exact loop 65 0 t tn w wn g (by omega) hwn htn hw rfl _ _ hP hD hS ls (lv_sub hl [1, 0] rfl)

set_option maxRecDepth 20000 in
theorem in_X0_forget_X0 : ∀ w ∈ wsX00, w ∈ wsX0_forget := by decide +kernel

set_option maxHeartbeats 4000000 in
set_option maxRecDepth 100000 in
theorem k_forget (l : Launch) (dC : Nat → ClassId) (dI : Nat → Nat → Nat) (ca : Nat → ClassId) (h0 a0 a1 a2 a3 a4 : Nat) (t : TF) (tn : Nat) (w : WF) (wn : Nat) (g : Int64) (ko mw : Nat) (sz : Nat) (hwn : wn ≤ 65) (hw : ∀ j, j < wn → (w j).1 < 2048) (x : Int32) : Met l yX0_forget wsX0_forget ({ frames := 1, cells := 0, slots := 0, locals := 22 }) (Pm [.ref h0, .int x] (dC, dI) clS [(ca 0, .int), (ca 1, .int), (ca 2, .int), (ca 3, .long), (ca 4, .int)] [(h0, .inr (0, [.ref a0, .ref a1, .int (nI tn), .ref a2, .ref a3, .ref a4, .int (nI wn), .long g, .int (nI ko), .int (nI mw)])), (a0, .inl (ca 0, 512, .inl (fun z9 => nI (t z9).1))), (a1, .inl (ca 1, 512, .inl (fun z9 => (t z9).2))), (a2, .inl (ca 2, 65, .inl (fun z9 => nI (w z9).1))), (a3, .inl (ca 3, 65, .inr (.inl (fun z9 => (w z9).2.1)))), (a4, .inl (ca 4, 65, .inl (fun z9 => (w z9).2.2)))] sz) (QmI (nI (wn - (fgS x wn 0 0 w).2)) (dC, dI) clS [(h0, .inr (0, [.ref a0, .ref a1, .int (nI tn), .ref a2, .ref a3, .ref a4, .int (nI wn), .long g, .int (nI ko), .int (nI mw)])), (a0, .inl (ca 0, 512, .inl (fun z9 => nI (t z9).1))), (a1, .inl (ca 1, 512, .inl (fun z9 => (t z9).2))), (a2, .inl (ca 2, 65, .inl (fun z9 => nI (w z9).1))), (a3, .inl (ca 3, 65, .inr (.inl (fun z9 => (w z9).2.1)))), (a4, .inl (ca 4, 65, .inl (fun z9 => (w z9).2.2)))] [(h0, .inr (0, [.ref a0, .ref a1, .int (nI tn), .ref a2, .ref a3, .ref a4, .int (nI ((fgS x wn 0 0 w).2)), .long g, .int (nI ko), .int (nI mw)])), (a0, .inl (ca 0, 512, .inl (fun z9 => nI (t z9).1))), (a1, .inl (ca 1, 512, .inl (fun z9 => (t z9).2))), (a2, .inl (ca 2, 65, .inl (fun z9 => nI (((fgS x wn 0 0 w).1) z9).1))), (a3, .inl (ca 3, 65, .inr (.inl (fun z9 => (((fgS x wn 0 0 w).1) z9).2.1)))), (a4, .inl (ca 4, 65, .inl (fun z9 => (((fgS x wn 0 0 w).1) z9).2.2)))] sz) 0 0 (va_A [(h0, .inr (0, [.ref a0, .ref a1, .int (nI tn), .ref a2, .ref a3, .ref a4, .int (nI wn), .long g, .int (nI ko), .int (nI mw)])), (a0, .inl (ca 0, 512, .inl (fun z9 => nI (t z9).1))), (a1, .inl (ca 1, 512, .inl (fun z9 => (t z9).2))), (a2, .inl (ca 2, 65, .inl (fun z9 => nI (w z9).1))), (a3, .inl (ca 3, 65, .inr (.inl (fun z9 => (w z9).2.1)))), (a4, .inl (ca 4, 65, .inl (fun z9 => (w z9).2.2)))] sz) := by
  refine Met.ofW (cc := cX0_forget) (maxL := 4) (ret := (some .int)) (by decide) rfl ?_
  intro p e s m args below meth c s₁ B hml hv
  obtain ⟨hargs, hsz, hP, hK, hD0⟩ := hv
  have hx := B.exec
  have hb := B.bytes
  have hr := B.returns
  have hts := atoms_spec (ws := wsX0_forget) B.pre
  have hown : s.vm.findClass RX0 = some m.cls := findClass_of_methodNamed B.named
  have hlocks := B.notSynchronized
  subst hsz
  have hD := hD0.self (sz := s.heap.size)
  obtain ⟨A, hAe⟩ : ∃ A, A = va_A [(h0, .inr (0, [.ref a0, .ref a1, .int (nI tn), .ref a2, .ref a3, .ref a4, .int (nI wn), .long g, .int (nI ko), .int (nI mw)])), (a0, .inl (ca 0, 512, .inl (fun z9 => nI (t z9).1))), (a1, .inl (ca 1, 512, .inl (fun z9 => (t z9).2))), (a2, .inl (ca 2, 65, .inl (fun z9 => nI (w z9).1))), (a3, .inl (ca 3, 65, .inr (.inl (fun z9 => (w z9).2.1)))), (a4, .inl (ca 4, 65, .inl (fun z9 => (w z9).2.2)))] s.heap.size := ⟨_, rfl⟩
  rw [← hAe] at hD ⊢
  have hA : ∀ q : Nat, s.heap.size ≤ q → A q := fun q h => by rw [hAe]; exact Or.inr h
  have hS : va_S A s.heap s.heap [] := va_S.rf
  have hP : va_P (dC, dI) clS [(h0, .inr (0, [.ref a0, .ref a1, .int (nI tn), .ref a2, .ref a3, .ref a4, .int (nI wn), .long g, .int (nI ko), .int (nI mw)])), (a0, .inl (ca 0, 512, .inl (fun z9 => nI (t z9).1))), (a1, .inl (ca 1, 512, .inl (fun z9 => (t z9).2))), (a2, .inl (ca 2, 65, .inl (fun z9 => nI (w z9).1))), (a3, .inl (ca 3, 65, .inr (.inl (fun z9 => (w z9).2.1)))), (a4, .inl (ca 4, 65, .inl (fun z9 => (w z9).2.2)))] s.heap := hP
  have hl := lv_entry ([.ref h0, .int x]) (n := 4) (Nat.le_of_ble_eq_true rfl)
  have hE : entryFrame m args 4 = F0 m 0 ((lg_sl ([.ref h0, .int x]) ++ List.replicate (4 - (lg_sl ([.ref h0, .int x])).length) Slot.unset).toArray) [] := by rw [hargs]; exact lg_entry_eq m ([.ref h0, .int x]) 4
  rw [hE]
  generalize (lg_sl ([.ref h0, .int x]) ++ List.replicate (4 - (lg_sl ([.ref h0, .int x])).length) Slot.unset).toArray = ls at hl ⊢
  have hl : lv_has ls 4 [(0, .ref h0), (1, .int x)] := hl
  refine lv_iconst (v := 0) hx hb dX0_forget_0 (by decide) ?_
  refine tp_i (y := nI 0) (nI_0.symm) ?_
  refine lv_istore_n (lv' := [(2, .int (nI 0)), (0, .ref h0), (1, .int x)]) hx hb dX0_forget_1 rfl hl (by decide) rfl (fun ls hl => ?_)
  refine lv_iconst (v := 0) hx hb dX0_forget_2 (by decide) ?_
  refine tp_i (y := nI 0) (nI_0.symm) ?_
  refine lv_istore_n (lv' := [(3, .int (nI 0)), (2, .int (nI 0)), (0, .ref h0), (1, .int x)]) hx hb dX0_forget_3 rfl hl (by decide) rfl (fun ls hl => ?_)
  have loop : ∀ (n : Nat) (j kp : Nat) (v : WF), j + n = wn → kp ≤ j → (∀ j9, j9 < wn → (v j9).1 < 2048) → fgS x n j kp v = fgS x wn 0 0 w → ∀ (H : Heap) (locs : List Loc), va_P (dC, dI) clS [(h0, .inr (0, [.ref a0, .ref a1, .int (nI tn), .ref a2, .ref a3, .ref a4, .int (nI wn), .long g, .int (nI ko), .int (nI mw)])), (a0, .inl (ca 0, 512, .inl (fun z9 => nI (t z9).1))), (a1, .inl (ca 1, 512, .inl (fun z9 => (t z9).2))), (a2, .inl (ca 2, 65, .inl (fun z9 => nI (v z9).1))), (a3, .inl (ca 3, 65, .inr (.inl (fun z9 => (v z9).2.1)))), (a4, .inl (ca 4, 65, .inl (fun z9 => (v z9).2.2)))] H → va_D A [(h0, .inr (0, [.ref a0, .ref a1, .int (nI tn), .ref a2, .ref a3, .ref a4, .int (nI wn), .long g, .int (nI ko), .int (nI mw)])), (a0, .inl (ca 0, 512, .inl (fun z9 => nI (t z9).1))), (a1, .inl (ca 1, 512, .inl (fun z9 => (t z9).2))), (a2, .inl (ca 2, 65, .inl (fun z9 => nI (v z9).1))), (a3, .inl (ca 3, 65, .inr (.inl (fun z9 => (v z9).2.1)))), (a4, .inl (ca 4, 65, .inl (fun z9 => (v z9).2.2)))] → va_S A s.heap H locs → ∀ ls : Array Slot, lv_has ls 4 [(0, .ref h0), (1, .int x), (2, .int (nI kp)), (3, .int (nI j))] → W p l e (headSpec wsX0_forget ({ frames := 1, cells := 0, slots := 0, locals := 22 })).room s m args below meth c H locs 0 0 (MQ below (QmI (nI (wn - (fgS x wn 0 0 w).2)) (dC, dI) clS [(h0, .inr (0, [.ref a0, .ref a1, .int (nI tn), .ref a2, .ref a3, .ref a4, .int (nI wn), .long g, .int (nI ko), .int (nI mw)])), (a0, .inl (ca 0, 512, .inl (fun z9 => nI (t z9).1))), (a1, .inl (ca 1, 512, .inl (fun z9 => (t z9).2))), (a2, .inl (ca 2, 65, .inl (fun z9 => nI (w z9).1))), (a3, .inl (ca 3, 65, .inr (.inl (fun z9 => (w z9).2.1)))), (a4, .inl (ca 4, 65, .inl (fun z9 => (w z9).2.2)))] [(h0, .inr (0, [.ref a0, .ref a1, .int (nI tn), .ref a2, .ref a3, .ref a4, .int (nI ((fgS x wn 0 0 w).2)), .long g, .int (nI ko), .int (nI mw)])), (a0, .inl (ca 0, 512, .inl (fun z9 => nI (t z9).1))), (a1, .inl (ca 1, 512, .inl (fun z9 => (t z9).2))), (a2, .inl (ca 2, 65, .inl (fun z9 => nI (((fgS x wn 0 0 w).1) z9).1))), (a3, .inl (ca 3, 65, .inr (.inl (fun z9 => (((fgS x wn 0 0 w).1) z9).2.1)))), (a4, .inl (ca 4, 65, .inl (fun z9 => (((fgS x wn 0 0 w).1) z9).2.2)))] s.heap.size) args s 0 0 A) (F0 m 4 ls []) := by
    intro n
    induction n with
    | zero =>
      intro j kp v hj hkp hv hk9 H locs hP hD hS ls hl
      refine lv_iload_n hx hb dX0_forget_4 rfl (lv_at hl 3 rfl) ?_
      refine lv_aload_n hx hb dX0_forget_5 rfl (lv_at hl 0 rfl) ?_
      refine va_get (D := (dC, dI)) (ci := 0) (v := .int (nI wn)) (C := RX0) (T := TX0) (N := 10) hx hb hts in_X0_forget_X0 hown hK hP 0 rfl rfl 6 (by decide) (hts (.fieldLink RX0 30 "CausalGate" "waitCount" "I") (by decide +kernel)) (fun _ h9 => h9) rfl dX0_forget_6 ?_
      refine lv_icmp_ge (tgt := 40) hx hb dX0_forget_9 (by decide) (fun c_9 => ?_) (fun c_9 => ?_)
      · refine lv_aload_n hx hb dX0_forget_40 rfl (lv_at hl 0 rfl) ?_
        refine va_get (D := (dC, dI)) (ci := 0) (v := .int (nI wn)) (C := RX0) (T := TX0) (N := 10) hx hb hts in_X0_forget_X0 hown hK hP 0 rfl rfl 6 (by decide) (hts (.fieldLink RX0 30 "CausalGate" "waitCount" "I") (by decide +kernel)) (fun _ h9 => h9) rfl dX0_forget_41 ?_
        refine lv_iload_n hx hb dX0_forget_44 rfl (lv_at hl 2 rfl) ?_
        refine lv_isub hx hb dX0_forget_45 ?_
        refine tp_i (y := nI (wn - kp)) (pk_sub (by omega)) ?_
        refine lv_istore_n (lv' := [(3, .int (nI (wn - kp))), (0, .ref h0), (1, .int x), (2, .int (nI kp))]) hx hb dX0_forget_46 rfl hl (by decide) rfl (fun ls hl => ?_)
        refine lv_aload_n hx hb dX0_forget_47 rfl (lv_at hl 1 rfl) ?_
        refine lv_iload_n hx hb dX0_forget_48 rfl (lv_at hl 3 rfl) ?_
        refine va_put (D := (dC, dI)) (ci := 0) (v := .int (nI kp)) (ty := .int) (C := RX0) (T := TX0) (N := 10) hx hb hts in_X0_forget_X0 tyX0 tyX0_ok nmX0 hown hK hP hD hS 0 rfl rfl 6 (by decide) (hts (.fieldLink RX0 30 "CausalGate" "waitCount" "I") (by decide +kernel)) (fun _ h9 => h9) rfl (by decide +kernel) rfl rfl (Nat.le_of_ble_eq_true rfl) dX0_forget_49 (fun H locs hP hD hS => ?_)
        have hP : va_P (dC, dI) clS [(h0, .inr (0, [.ref a0, .ref a1, .int (nI tn), .ref a2, .ref a3, .ref a4, .int (nI kp), .long g, .int (nI ko), .int (nI mw)])), (a0, .inl (ca 0, 512, .inl (fun z9 => nI (t z9).1))), (a1, .inl (ca 1, 512, .inl (fun z9 => (t z9).2))), (a2, .inl (ca 2, 65, .inl (fun z9 => nI (v z9).1))), (a3, .inl (ca 3, 65, .inr (.inl (fun z9 => (v z9).2.1)))), (a4, .inl (ca 4, 65, .inl (fun z9 => (v z9).2.2)))] H := hP
        have hD : va_D A [(h0, .inr (0, [.ref a0, .ref a1, .int (nI tn), .ref a2, .ref a3, .ref a4, .int (nI kp), .long g, .int (nI ko), .int (nI mw)])), (a0, .inl (ca 0, 512, .inl (fun z9 => nI (t z9).1))), (a1, .inl (ca 1, 512, .inl (fun z9 => (t z9).2))), (a2, .inl (ca 2, 65, .inl (fun z9 => nI (v z9).1))), (a3, .inl (ca 3, 65, .inr (.inl (fun z9 => (v z9).2.1)))), (a4, .inl (ca 4, 65, .inl (fun z9 => (v z9).2.2)))] := hD
        refine lv_iload_n hx hb dX0_forget_52 rfl (lv_at hl 0 rfl) ?_
        have hk8 : fgS x wn 0 0 w = (v, kp) := hk9.symm
        rw [hk8]
        exact mi_ret hx hb hr hlocks (rfl) hAe hP hD hS dX0_forget_53
      · exact absurd (nI_le (by omega) (by omega)) c_9
    | succ n ih =>
      intro j kp v hj hkp hv hk9 H locs hP hD hS ls hl
      refine lv_iload_n hx hb dX0_forget_4 rfl (lv_at hl 3 rfl) ?_
      refine lv_aload_n hx hb dX0_forget_5 rfl (lv_at hl 0 rfl) ?_
      refine va_get (D := (dC, dI)) (ci := 0) (v := .int (nI wn)) (C := RX0) (T := TX0) (N := 10) hx hb hts in_X0_forget_X0 hown hK hP 0 rfl rfl 6 (by decide) (hts (.fieldLink RX0 30 "CausalGate" "waitCount" "I") (by decide +kernel)) (fun _ h9 => h9) rfl dX0_forget_6 ?_
      refine lv_icmp_ge (tgt := 40) hx hb dX0_forget_9 (by decide) (fun c_9 => ?_) (fun c_9 => ?_)
      · exact absurd ((nI_leI (by omega) (by omega)).mp c_9) (by omega)
      · refine lv_aload_n hx hb dX0_forget_12 rfl (lv_at hl 0 rfl) ?_
        refine va_get (D := (dC, dI)) (ci := 0) (v := .ref a2) (C := RX0) (T := TX0) (N := 10) hx hb hts in_X0_forget_X0 hown hK hP 0 rfl rfl 3 (by decide) (hts (.fieldLink RX0 16 "CausalGate" "waitKeys" "[I") (by decide +kernel)) (fun _ h9 => h9) rfl dX0_forget_13 ?_
        refine lv_iload_n hx hb dX0_forget_16 rfl (lv_at hl 3 rfl) ?_
        refine va_iald hx hb hK hP 3 2 rfl rfl (vp_in_nI (by omega) (by decide)) dX0_forget_17 ?_
        refine tp_i (y := nI (v j).1) (by rw [nI_clamp (by omega)]) ?_
        have hvj := hv j (by omega)
        refine rd_i (W.runS (As := [.int (nI (v j).1)]) (rest := []) ⟨hx, hb, hml, hown, hts⟩ (k_actorOf l ((v j).1) (by omega)) (va_cwS 1 hts gX0_forget_X0_actorOf rfl rfl rfl (by decide +kernel) ⟨Nat.le_of_ble_eq_true rfl, Nat.le_of_ble_eq_true rfl⟩) preEq rfl rfl hl.1 rfl (lv_room (Nat.le_of_ble_eq_true rfl)) dX0_forget_18 ⟨Nat.zero_le _, Nat.zero_le _⟩) ?_
        refine lv_iload_n hx hb dX0_forget_21 rfl (lv_at hl 1 rfl) ?_
        refine lv_icmp_eq (tgt := 34) hx hb dX0_forget_22 (by decide) (fun c_22 => ?_) (fun c_22 => ?_)
        · refine lv_iinc (v := (nI (j + 1))) (lv' := [(3, .int (nI (j + 1))), (0, .ref h0), (1, .int x), (2, .int (nI kp))]) hx hb dX0_forget_34 hl (k := 3) rfl (nI_1 j) (by decide) rfl (fun ls hl => ?_)
          refine lv_goto (tgt := 4) hx hb dX0_forget_37 (by decide) ?_
          exact ih (j + 1) kp v (by omega) (by omega) hv (by rw [← hk9]; simp only [fgS]; rw [if_pos c_22]) _ _ hP hD hS ls (lv_sub hl [1, 2, 3, 0] rfl)
        · refine lv_aload_n hx hb dX0_forget_25 rfl (lv_at hl 0 rfl) ?_
          refine lv_iload_n hx hb dX0_forget_26 rfl (lv_at hl 3 rfl) ?_
          refine lv_iload_n hx hb dX0_forget_27 rfl (lv_at hl 2 rfl) ?_
          refine mt_v (wc := [(h0, .inr (0, [.ref a0, .ref a1, .int (nI tn), .ref a2, .ref a3, .ref a4, .int (nI wn), .long g, .int (nI ko), .int (nI mw)])), (a0, .inl (ca 0, 512, .inl (fun z9 => nI (t z9).1))), (a1, .inl (ca 1, 512, .inl (fun z9 => (t z9).2))), (a2, .inl (ca 2, 65, .inl (fun z9 => nI (v z9).1))), (a3, .inl (ca 3, 65, .inr (.inl (fun z9 => (v z9).2.1)))), (a4, .inl (ca 4, 65, .inl (fun z9 => (v z9).2.2)))]) (wr := []) (w1 := [(h0, .inr (0, [.ref a0, .ref a1, .int (nI tn), .ref a2, .ref a3, .ref a4, .int (nI wn), .long g, .int (nI ko), .int (nI mw)])), (a0, .inl (ca 0, 512, .inl (fun z9 => nI (t z9).1))), (a1, .inl (ca 1, 512, .inl (fun z9 => (t z9).2))), (a2, .inl (ca 2, 65, .inl (fun z9 => nI ((va_up v kp (v j)) z9).1))), (a3, .inl (ca 3, 65, .inr (.inl (fun z9 => ((va_up v kp (v j)) z9).2.1)))), (a4, .inl (ca 4, 65, .inl (fun z9 => ((va_up v kp (v j)) z9).2.2)))]) [0, 1, 2, 3, 4, 5] [] hP hD hS hA rfl rfl (by decide) (by decide) (va_runV (mc := 0) (ms := 0) (As := [.int (nI j), .int (nI kp)]) (rest := []) ⟨hx, hb, hml, hown, hts⟩ (k_moveWaiting l dC dI ca h0 a0 a1 a2 a3 a4 t tn v wn g ko mw _ j kp (by omega) (by omega)) (cwV 2 hts gX0_forget_X0_moveWaiting rfl rfl rfl (by decide +kernel) ⟨Nat.le_of_ble_eq_true rfl, Nat.le_of_ble_eq_true rfl⟩) (pm_V (ci := 0) (q0 := 0) hK (hP.sub (ws' := [(h0, .inr (0, [.ref a0, .ref a1, .int (nI tn), .ref a2, .ref a3, .ref a4, .int (nI wn), .long g, .int (nI ko), .int (nI mw)])), (a0, .inl (ca 0, 512, .inl (fun z9 => nI (t z9).1))), (a1, .inl (ca 1, 512, .inl (fun z9 => (t z9).2))), (a2, .inl (ca 2, 65, .inl (fun z9 => nI (v z9).1))), (a3, .inl (ca 3, 65, .inr (.inl (fun z9 => (v z9).2.1)))), (a4, .inl (ca 4, 65, .inl (fun z9 => (v z9).2.2)))]) [0, 1, 2, 3, 4, 5] rfl) (hD.sub (ws' := [(h0, .inr (0, [.ref a0, .ref a1, .int (nI tn), .ref a2, .ref a3, .ref a4, .int (nI wn), .long g, .int (nI ko), .int (nI mw)])), (a0, .inl (ca 0, 512, .inl (fun z9 => nI (t z9).1))), (a1, .inl (ca 1, 512, .inl (fun z9 => (t z9).2))), (a2, .inl (ca 2, 65, .inl (fun z9 => nI (v z9).1))), (a3, .inl (ca 3, 65, .inr (.inl (fun z9 => (v z9).2.1)))), (a4, .inl (ca 4, 65, .inl (fun z9 => (v z9).2.2)))]) [0, 1, 2, 3, 4, 5] (by decide) rfl) rfl rfl) rfl rfl hl.1 rfl (lv_room (Nat.le_of_ble_eq_true rfl)) dX0_forget_28 ⟨Nat.zero_le _, Nat.zero_le _⟩) (fun H locs hP hD hS => ?_)
          have hP : va_P (dC, dI) clS [(h0, .inr (0, [.ref a0, .ref a1, .int (nI tn), .ref a2, .ref a3, .ref a4, .int (nI wn), .long g, .int (nI ko), .int (nI mw)])), (a0, .inl (ca 0, 512, .inl (fun z9 => nI (t z9).1))), (a1, .inl (ca 1, 512, .inl (fun z9 => (t z9).2))), (a2, .inl (ca 2, 65, .inl (fun z9 => nI ((va_up v kp (v j)) z9).1))), (a3, .inl (ca 3, 65, .inr (.inl (fun z9 => ((va_up v kp (v j)) z9).2.1)))), (a4, .inl (ca 4, 65, .inl (fun z9 => ((va_up v kp (v j)) z9).2.2)))] H := hP
          have hD : va_D A [(h0, .inr (0, [.ref a0, .ref a1, .int (nI tn), .ref a2, .ref a3, .ref a4, .int (nI wn), .long g, .int (nI ko), .int (nI mw)])), (a0, .inl (ca 0, 512, .inl (fun z9 => nI (t z9).1))), (a1, .inl (ca 1, 512, .inl (fun z9 => (t z9).2))), (a2, .inl (ca 2, 65, .inl (fun z9 => nI ((va_up v kp (v j)) z9).1))), (a3, .inl (ca 3, 65, .inr (.inl (fun z9 => ((va_up v kp (v j)) z9).2.1)))), (a4, .inl (ca 4, 65, .inl (fun z9 => ((va_up v kp (v j)) z9).2.2)))] := hD
          refine lv_iinc (v := (nI (kp + 1))) (lv' := [(2, .int (nI (kp + 1))), (0, .ref h0), (1, .int x), (3, .int (nI j))]) hx hb dX0_forget_31 hl (k := 2) rfl (nI_1 kp) (by decide) rfl (fun ls hl => ?_)
          refine lv_iinc (v := (nI (j + 1))) (lv' := [(3, .int (nI (j + 1))), (2, .int (nI (kp + 1))), (0, .ref h0), (1, .int x)]) hx hb dX0_forget_34 hl (k := 3) rfl (nI_1 j) (by decide) rfl (fun ls hl => ?_)
          refine lv_goto (tgt := 4) hx hb dX0_forget_37 (by decide) ?_
          exact ih (j + 1) (kp + 1) (va_up v kp (v j)) (by omega) (by omega) (up_keys hv (by omega)) (by rw [← hk9]; simp only [fgS]; rw [if_neg c_22]) _ _ hP hD hS ls (lv_sub hl [2, 3, 1, 0] rfl)
  exact loop wn 0 0 w (by omega) (by omega) hw rfl _ _ hP hD hS ls (lv_sub hl [2, 3, 1, 0] rfl)
end
section
def dN : Nat → Int32
  | 0 => -1
  | n + 1 => nI n
theorem dN_dec (n : Nat) : nI n + (-1) = dN n := by
  cases n with
  | zero => decide
  | succ n => exact pk_m1 n
theorem dN_sub (n : Nat) : nI n - 1 = dN n := by
  cases n with
  | zero => decide
  | succ n => exact nI_pred n
def lkB (cl : Nat → Nat) (c : Int64) (act : Nat) : Nat → Option Nat → Option Nat
  | 0, f => f
  | n + 1, f => lkB cl c act n (if n ≠ act ∧ cl n < by_ c n then some n else f)
theorem lkB_lt {cl : Nat → Nat} {c : Int64} {act : Nat} : ∀ {n : Nat} {f : Option Nat} {b : Nat}, n ≤ 8 → (∀ x, f = some x → x < 8) → lkB cl c act n f = some b → b < 8 := by
  intro n
  induction n with
  | zero => intro f b _ hf h; exact hf b h
  | succ n ih =>
    intro f b hn hf h
    refine ih (by omega) (fun x hx => ?_) h
    split at hx
    · cases hx; omega
    · exact hf x hx
theorem oI_ge {o : Option Nat} (h : ∀ a, o = some a → a < 2 ^ 31) : (0 : Int32) ≤ oI o ↔ ¬ o = none := by
  cases o with
  | none => exact ⟨fun q => absurd q (by decide), fun q => absurd rfl q⟩
  | some a => exact ⟨fun _ q => by (cases q), fun _ => nI_pos' (h a rfl)⟩
def cnM (cl : Nat → Nat) (act q : Nat) (c : Int64) : Bool := decide (q = cl act + 1) && (lkB cl c act 8 none).isNone
def kmS (w : WF) (act q : Nat) : Nat → Nat → Bool → Bool
  | 0, _, b => b
  | n + 1, j, b => kmS w act q n (j + 1) (b || (decide ((w j).1 / 256 = act) && decide ((w j).1 % 256 = q)))
def knM (cl : Nat → Nat) (w : WF) (wn act q : Nat) : Bool := kmS w act q wn 0 (decide (q ≤ cl act))
def rdS (cl : Nat → Nat) (w : WF) : Nat → Option Nat → Option Nat
  | 0, f => f
  | n + 1, f => rdS cl w n (if cnM cl ((w n).1 / 256) ((w n).1 % 256) (w n).2.1 = true then some n else f)
theorem rdS_lt {cl : Nat → Nat} {w : WF} : ∀ {n m : Nat} {f : Option Nat} {b : Nat}, n ≤ m → (∀ x, f = some x → x < m) → rdS cl w n f = some b → b < m := by
  intro n
  induction n with
  | zero => intro m f b _ hf h; exact hf b h
  | succ n ih =>
    intro m f b hn hf h
    refine ih (by omega) (fun x hx => ?_) h
    split at hx
    · cases hx; omega
    · exact hf x hx
def zcS : Nat → Nat → (Nat → Nat) → Nat → Nat
  | 0, _, cl => cl
  | n + 1, a, cl => zcS n (a + 1) (va_up cl a 0)
def lcM (t : TF) (c : Int64) (j : Nat) : Bool := decide (by_ c ((t j).1 / 256) < (t j).1 % 256)
def ahM (t : TF) (c : Int64) : Nat → Nat → Nat → Nat
  | 0, _, x => x
  | n + 1, j, x => ahM t c n (j + 1) (x + if lcM t c j = true then 1 else 0)
def nxM (t : TF) (c : Int64) (i : Int32) : Nat → Nat → Option Nat
  | 0, _ => none
  | n + 1, j => if i < nI j ∧ lcM t c j = true then some j else nxM t c i n (j + 1)
def cmM (cl : Nat → Nat) (c : Int64) : Nat → Nat → Bool → Bool → Bool × Bool
  | 0, _, x, y => (x, y)
  | n + 1, a, x, y => cmM cl c n (a + 1) (x || decide (cl a < by_ c a)) (y || decide (by_ c a < cl a))
def ckM (cl : Nat → Nat) : Nat → Int64 → Int64
  | 0, v => v
  | n + 1, v => ckM cl n ((v <<< ((8 : Int32).toInt64 &&& 63)) ||| (nI (cl n)).toInt64)
def fgM (act : Int32) : Nat → Nat → Nat → WF → WF × Nat × Nat
  | 0, wn, x, w => (w, wn, x)
  | n + 1, wn, x, w => if nI ((w n).1 / 256) = act then fgM act n (wn - 1) (x + 1) (rmS (wn - (n + 1)) (n + 1) w) else fgM act n wn x w
abbrev MS : Type := TF × Nat × WF × Nat × (Nat → Nat)
def lm1 (u : MS) (q : Nat) : MS := (va_up u.1 u.2.1 ((u.2.2.1 q).1 / 256 * 256 + (u.2.2.1 q).1 % 256, (u.2.2.1 q).2.2), u.2.1 + 1, rmS (u.2.2.2.1 - (q + 1)) (q + 1) u.2.2.1, u.2.2.2.1 - 1, va_up u.2.2.2.2 ((u.2.2.1 q).1 / 256) ((u.2.2.1 q).1 % 256))
def ltM : Nat → MS → MS
  | 0, u => u
  | n + 1, u => match rdS u.2.2.2.2 u.2.2.1 u.2.2.2.1 none with
    | none => u
    | some q => ltM n (lm1 u q)
theorem um_a (w : WF) (q : Nat) (x : Nat × Int64 × Int32) : upd (fun j => nI ((w j).1 / 256)) q (nI (x.1 / 256)) = fun j => nI ((va_up w q x j).1 / 256) := by
  funext j; unfold upd va_up; split <;> rfl
theorem um_s (w : WF) (q : Nat) (x : Nat × Int64 × Int32) : upd (fun j => nI ((w j).1 % 256)) q (nI (x.1 % 256)) = fun j => nI ((va_up w q x j).1 % 256) := by
  funext j; unfold upd va_up; split <;> rfl
theorem ut_a (t : TF) (q : Nat) (x : Nat × Int32) : upd (fun j => nI ((t j).1 / 256)) q (nI (x.1 / 256)) = fun j => nI ((va_up t q x j).1 / 256) := by
  funext j; unfold upd va_up; split <;> rfl
theorem ut_s (t : TF) (q : Nat) (x : Nat × Int32) : upd (fun j => nI ((t j).1 % 256)) q (nI (x.1 % 256)) = fun j => nI ((va_up t q x j).1 % 256) := by
  funext j; unfold upd va_up; split <;> rfl
theorem uc_ (cl : Nat → Nat) (q x : Nat) : upd (fun j => nI (cl j)) q (nI x) = fun j => nI (va_up cl q x j) := by
  funext j; unfold upd va_up; split <;> rfl
theorem key_d {a q : Nat} (h : q < 256) : (a * 256 + q) / 256 = a := by omega
theorem key_m {a q : Nat} (h : q < 256) : (a * 256 + q) % 256 = q := by omega
section KB2
variable {p : Program} {l : Launch} {e : Env} {R : Room} {s : State} {m : MethodId} {args : Array Value} {below : List Frame} {meth : Method} {c : Code} {H : Heap} {locs : List Loc} {cells slots : Nat} {Q : State → Prop}
variable {pc : Nat} {ls : Array Slot} {rest st0 : List Value}
def QmL (r : Int64) (D : va_G) (cl : List vw_C) (ws w1 : va_W) (sz : Nat) : Array Value → State → Outcome → State → Prop := va_Ql (fun r' (_ : Unit) => r' = r) (Qw D cl ws w1 sz) (va_A ws sz)
theorem mt_l {D : va_G} {cl : List vw_C} {ws wc wr w1 : va_W} {A : Nat → Prop} {H0 : Heap} {a : Array Value} {mc ms : Nat} {r : Int64} (isC isR : List Nat) (hP : va_P D cl ws H) (hD : va_D A ws) (hS : va_S A H0 H locs) (hA : ∀ q, H0.size ≤ q → A q) (hC : isC.map (fun i => ws[i]?) = wc.map some) (hR : isR.map (fun i => ws[i]?) = wr.map some) (hn : va_nd isR = true) (hdis : ∀ i ∈ isR, i ∉ isC)
    (hr : va_Run p l e R s m args below meth c H locs cells slots mc ms (F0 m pc ls st0) rest (QmL r D cl wc w1 H.size a) (va_A wc H.size))
    (kk : ∀ (H1 : Heap) (locs1 : List Loc), va_P D cl (wr ++ w1) H1 → va_D A (wr ++ w1) → va_S A H0 H1 locs1 → W p l e R s m args below meth c H1 locs1 (cells + mc) (slots + ms) Q (F0 m (pc + 3) ls (.long r :: rest))) : W p l e R s m args below meth c H locs cells slots Q (F0 m pc ls st0) := by
  have hF := va_free hD hS hA isC hC
  refine va_calll hr hS (fun q _ h => hF q h) hF (fun r' u t H1 locs1 ht hvm hw hB hz1 hk1 hS1 => ?_)
  obtain ⟨hP1, hD1⟩ := hB
  rw [ht] at hP1
  obtain ⟨hP2, hD2⟩ := va_join hP hD isC isR hC hR hn hdis hk1 hF hP1 hD1
  rw [hw]
  exact kk H1 locs1 hP2 hD2 hS1
theorem ml_ret {cc : ByteArray} {D : va_G} {cl : List vw_C} {ws w1 : va_W} {A : Nat → Prop} {v r : Int64} (hx : p.tables.exec = Jvm.exec) (hb : c.code = cc) (hr : meth.sig.returnType = some .long) (hlocks : meth.locks = false) (hv : v = r) (hAe : A = va_A ws s.heap.size) (hP : va_P D cl w1 H) (hD : va_D A w1) (hS : va_S A s.heap H locs) (hd : decode cc pc = .ok (.lreturn, 1)) :
    W p l e R s m args below meth c H locs cells slots (MQ below (QmL r D cl ws w1 s.heap.size) args s cells slots A) (F0 m pc ls [.long v]) := by
  subst hAe
  exact W.lret hx hb hr (fun t ht _ => ⟨⟨v, (), rfl, hv, by rw [ht]; exact hP, hD⟩, hS.F ht⟩) hS.2.2 hd
theorem mz_ret {cc : ByteArray} {D : va_G} {cl : List vw_C} {ws w1 : va_W} {A : Nat → Prop} {v r : Int32} (hx : p.tables.exec = Jvm.exec) (hb : c.code = cc) (hr : meth.sig.returnType = some .boolean) (hlocks : meth.locks = false) (hn : narrow .boolean (.int v) = .int v) (hv : v = r) (hAe : A = va_A ws s.heap.size) (hP : va_P D cl w1 H) (hD : va_D A w1) (hS : va_S A s.heap H locs) (hd : decode cc pc = .ok (.ireturn, 1)) :
    W p l e R s m args below meth c H locs cells slots (MQ below (QmI r D cl ws w1 s.heap.size) args s cells slots A) (F0 m pc ls [.int v]) := by
  subst hAe
  exact W.zret hx hb hr hn (fun t ht _ => ⟨⟨v, (), rfl, hv, by rw [ht]; exact hP, hD⟩, hS.F ht⟩) hS.2.2 hd
end KB2
theorem isS_lo {y : Int32} (h : y ≤ 0) : isS y = false := by
  have : (0 : Int32).toInt = 0 := by decide
  have : (1 : Int32).toInt = 1 := by decide
  have h1 : y < 1 := by
    rw [Int32.le_iff_toInt_le] at h
    rw [Int32.lt_iff_toInt_lt]
    omega
  simp [isS, h1]
theorem isS_hi {y : Int32} (h : (256 : Int32) ≤ y) : isS y = false := by
  have : (256 : Int32).toInt = 256 := by decide
  have : (255 : Int32).toInt = 255 := by decide
  have h1 : (255 : Int32) < y := by
    rw [Int32.le_iff_toInt_le] at h
    rw [Int32.lt_iff_toInt_lt]
    omega
  simp [isS, h1]
theorem isS_in {y : Int32} (h : ¬ y ≤ 0) (h2 : ¬ (256 : Int32) ≤ y) : isS y = true := by
  have : (256 : Int32).toInt = 256 := by decide
  have : (255 : Int32).toInt = 255 := by decide
  have : (0 : Int32).toInt = 0 := by decide
  have : (1 : Int32).toInt = 1 := by decide
  rw [Int32.le_iff_toInt_le] at h h2
  have h1 : ¬ y < 1 := by rw [Int32.lt_iff_toInt_lt]; omega
  have h3 : ¬ (255 : Int32) < y := by rw [Int32.lt_iff_toInt_lt]; omega
  simp [isS, h1, h3]
def kwM (cl : Nat → Nat) (w : WF) (wn : Nat) (x y : Int32) : Bool := isA x && (isS y && knM cl w wn x.toNatClampNeg y.toNatClampNeg)
def bad (tn : Nat) (k x y : Int32) : Bool := decide (x < 0) || (decide (nI tn ≤ x) || (decide (y < 0) || decide (k < y)))
theorem ix_of {x : Int32} {tn : Nat} (h : ¬ x < 0) (h2 : ¬ nI tn ≤ x) (ht : tn < 2 ^ 31) : ∃ j : Nat, j < tn ∧ x = nI j := by
  obtain ⟨j, hj, e⟩ := nI_of h
  refine ⟨j, Nat.lt_of_not_le fun q => h2 (by rw [e]; exact nI_le q hj), e⟩
def trM (t : TF) (tn : Nat) (x y : Int32) : Int32 := if bad tn 2 x y = true then 0 else if y = 0 then nI ((t x.toNatClampNeg).1 / 256) else if y = 1 then nI ((t x.toNatClampNeg).1 % 256) else (t x.toNatClampNeg).2
def lwM (cl : Nat → Nat) (x : Nat × Int64 × Int32) : Option Nat := if cl (x.1 / 256) + 1 < x.1 % 256 then some (x.1 / 256) else lkB cl x.2.1 (x.1 / 256) 8 none
def lwC (cl : Nat → Nat) : Option Nat → Nat
  | none => cl 0 + 1
  | some b => cl b + 1
def wtM (cl : Nat → Nat) (w : WF) (wn : Nat) (x y : Int32) : Int32 := if bad wn 4 x y = true then 0 else if y = 0 then nI ((w x.toNatClampNeg).1 / 256) else if y = 1 then nI ((w x.toNatClampNeg).1 % 256) else if y = 2 then (w x.toNatClampNeg).2.2 else if y = 3 then oI (lwM cl (w x.toNatClampNeg)) else nI (lwC cl (lwM cl (w x.toNatClampNeg)))
def cmQ (q : Bool × Bool) : Int32 := if q.1 then (if q.2 then 3 else 2) else (if q.2 then 1 else 0)
end
section
set_option maxHeartbeats 4000000 in
set_option maxRecDepth 100000 in
theorem kY_part (l : Launch) (ck : Int64) (a : Nat) (ha : a < 8) : Met l yY_part wsY_part ({ frames := 0, cells := 0, slots := 0, locals := 0 }) (fun v _ => v = ([.long ck, .int (nI a)] : List Value).toArray) (QcRead (nI (by_ ck a))) 0 0 (fun _ => False) := by
  refine Met.ofW (cc := cY_part) (maxL := 3) (ret := (some .int)) (by decide) rfl ?_
  intro p e s m args below meth c s₁ B hml hv
  have hargs : args = ([.long ck, .int (nI a)] : List Value).toArray := hv
  have hx := B.exec
  have hb := B.bytes
  have hr := B.returns
  have hts := atoms_spec (ws := wsY_part) B.pre
  have hown : s.vm.findClass RY = some m.cls := findClass_of_methodNamed B.named
  have hlocks := B.notSynchronized
  have hl := lv_entry ([.long ck, .int (nI a)]) (n := 3) (Nat.le_of_ble_eq_true rfl)
  have hE : entryFrame m args 3 = F0 m 0 ((lg_sl ([.long ck, .int (nI a)]) ++ List.replicate (3 - (lg_sl ([.long ck, .int (nI a)])).length) Slot.unset).toArray) [] := by rw [hargs]; exact lg_entry_eq m ([.long ck, .int (nI a)]) 3
  rw [hE]
  generalize (lg_sl ([.long ck, .int (nI a)]) ++ List.replicate (3 - (lg_sl ([.long ck, .int (nI a)])).length) Slot.unset).toArray = ls at hl ⊢
  have hl : lv_has ls 3 [(0, .long ck), (2, .int (nI a))] := hl
  refine lv_lload_n hx hb dY_part_0 rfl (lv_at hl 0 rfl) ?_
  refine lv_bipush (v := 8) hx hb dY_part_1 (by decide) ?_
  refine lv_iload_n hx hb dY_part_3 rfl (lv_at hl 1 rfl) ?_
  refine lv_imul hx hb dY_part_4 ?_
  refine tp_i (y := nI (8 * a)) (pk_mul 8 a) ?_
  refine lv_lshr (v := ck >>> ((nI (8 * a)).toInt64 &&& 63)) hx hb dY_part_5 (rfl) ?_
  refine lv_ldc2 (v := 255) hx hb hown (hts (.constantLong RY 39 255) (by decide +kernel)) dY_part_6 ?_
  refine lv_land hx hb dY_part_9 ?_
  refine lv_l2i (v := nI (by_ ck a)) hx hb dY_part_10 (pt_eq ck ha) ?_
  exact ri_ret hx hb hr hlocks (rfl) dY_part_11

set_option maxRecDepth 20000 in
theorem in_Y_thrown_Y : ∀ w ∈ wsY0, w ∈ wsY_thrown := by decide +kernel

set_option maxHeartbeats 4000000 in
set_option maxRecDepth 100000 in
theorem kY_thrown (l : Launch) (dC : Nat → ClassId) (dI : Nat → Nat → Nat) (cb : Nat → ClassId) (r0 b0 b1 b2 b3 b4 b5 b6 b7 : Nat) (th : Int32) (cl : Nat → Nat) (t : TF) (tn : Nat) (w : WF) (wn : Nat) (ko mw : Nat)  : Met l yY_thrown wsY_thrown ({ frames := 0, cells := 0, slots := 0, locals := 0 }) (Pr [.ref r0] (dC, dI) clS [(cb 0, .int), (cb 1, .int), (cb 2, .int), (cb 3, .int), (cb 4, .int), (cb 5, .int), (cb 6, .long), (cb 7, .int)] [(r0, .inr (1, [.int th, .ref b0, .int (nI tn), .ref b1, .ref b2, .ref b3, .int (nI wn), .ref b4, .ref b5, .ref b6, .ref b7, .int (nI ko), .int (nI mw)])), (b0, .inl (cb 0, 8, .inl (fun z9 => nI (cl z9)))), (b1, .inl (cb 1, 2040, .inl (fun z9 => nI ((t z9).1 / 256)))), (b2, .inl (cb 2, 2040, .inl (fun z9 => nI ((t z9).1 % 256)))), (b3, .inl (cb 3, 2040, .inl (fun z9 => (t z9).2))), (b4, .inl (cb 4, 65, .inl (fun z9 => nI ((w z9).1 / 256)))), (b5, .inl (cb 5, 65, .inl (fun z9 => nI ((w z9).1 % 256)))), (b6, .inl (cb 6, 65, .inr (.inl (fun z9 => (w z9).2.1)))), (b7, .inl (cb 7, 65, .inl (fun z9 => (w z9).2.2)))]) (QcRead th) 0 0 (fun _ => False) := by
  refine Met.ofW (cc := cY_thrown) (maxL := 1) (ret := (some .int)) (by decide) rfl ?_
  intro p e s m args below meth c s₁ B hml hv
  obtain ⟨hargs, hP, hK⟩ := hv
  have hx := B.exec
  have hb := B.bytes
  have hr := B.returns
  have hts := atoms_spec (ws := wsY_thrown) B.pre
  have hown : s.vm.findClass RY = some m.cls := findClass_of_methodNamed B.named
  have hlocks := B.notSynchronized
  have hP : va_P (dC, dI) clS [(r0, .inr (1, [.int th, .ref b0, .int (nI tn), .ref b1, .ref b2, .ref b3, .int (nI wn), .ref b4, .ref b5, .ref b6, .ref b7, .int (nI ko), .int (nI mw)])), (b0, .inl (cb 0, 8, .inl (fun z9 => nI (cl z9)))), (b1, .inl (cb 1, 2040, .inl (fun z9 => nI ((t z9).1 / 256)))), (b2, .inl (cb 2, 2040, .inl (fun z9 => nI ((t z9).1 % 256)))), (b3, .inl (cb 3, 2040, .inl (fun z9 => (t z9).2))), (b4, .inl (cb 4, 65, .inl (fun z9 => nI ((w z9).1 / 256)))), (b5, .inl (cb 5, 65, .inl (fun z9 => nI ((w z9).1 % 256)))), (b6, .inl (cb 6, 65, .inr (.inl (fun z9 => (w z9).2.1)))), (b7, .inl (cb 7, 65, .inl (fun z9 => (w z9).2.2)))] s.heap := hP
  have hl := lv_entry ([.ref r0]) (n := 1) (Nat.le_of_ble_eq_true rfl)
  have hE : entryFrame m args 1 = F0 m 0 ((lg_sl ([.ref r0]) ++ List.replicate (1 - (lg_sl ([.ref r0])).length) Slot.unset).toArray) [] := by rw [hargs]; exact lg_entry_eq m ([.ref r0]) 1
  rw [hE]
  generalize (lg_sl ([.ref r0]) ++ List.replicate (1 - (lg_sl ([.ref r0])).length) Slot.unset).toArray = ls at hl ⊢
  have hl : lv_has ls 1 [(0, .ref r0)] := hl
  refine lv_aload_n hx hb dY_thrown_0 rfl (lv_at hl 0 rfl) ?_
  refine va_get (D := (dC, dI)) (ci := 1) (v := .int th) (C := RY) (T := TY) (N := 13) hx hb hts in_Y_thrown_Y hown hK hP 0 rfl rfl 0 (by decide) (hts (.fieldLink RY 35 "CausalGateModel" "thrown" "I") (by decide +kernel)) (fun _ h9 => h9) rfl dY_thrown_1 ?_
  exact ri_ret hx hb hr hlocks (rfl) dY_thrown_4

set_option maxRecDepth 20000 in
theorem in_Y_lacking_Y : ∀ w ∈ wsY0, w ∈ wsY_lacking := by decide +kernel

set_option maxHeartbeats 4000000 in
set_option maxRecDepth 100000 in
theorem kY_lacking (l : Launch) (dC : Nat → ClassId) (dI : Nat → Nat → Nat) (cb : Nat → ClassId) (r0 b0 b1 b2 b3 b4 b5 b6 b7 : Nat) (th : Int32) (cl : Nat → Nat) (t : TF) (tn : Nat) (w : WF) (wn : Nat) (ko mw : Nat) (hcl : ∀ a, a < 8 → cl a < 256) (act : Nat) (ck : Int64) (hact : act < 8) : Met l yY_lacking wsY_lacking ({ frames := 1, cells := 0, slots := 0, locals := 22 }) (Pr [.ref r0, .int (nI act), .long ck] (dC, dI) clS [(cb 0, .int), (cb 1, .int), (cb 2, .int), (cb 3, .int), (cb 4, .int), (cb 5, .int), (cb 6, .long), (cb 7, .int)] [(r0, .inr (1, [.int th, .ref b0, .int (nI tn), .ref b1, .ref b2, .ref b3, .int (nI wn), .ref b4, .ref b5, .ref b6, .ref b7, .int (nI ko), .int (nI mw)])), (b0, .inl (cb 0, 8, .inl (fun z9 => nI (cl z9)))), (b1, .inl (cb 1, 2040, .inl (fun z9 => nI ((t z9).1 / 256)))), (b2, .inl (cb 2, 2040, .inl (fun z9 => nI ((t z9).1 % 256)))), (b3, .inl (cb 3, 2040, .inl (fun z9 => (t z9).2))), (b4, .inl (cb 4, 65, .inl (fun z9 => nI ((w z9).1 / 256)))), (b5, .inl (cb 5, 65, .inl (fun z9 => nI ((w z9).1 % 256)))), (b6, .inl (cb 6, 65, .inr (.inl (fun z9 => (w z9).2.1)))), (b7, .inl (cb 7, 65, .inl (fun z9 => (w z9).2.2)))]) (QcRead (oI (lkB cl ck act 8 none))) 0 0 (fun _ => False) := by
  refine Met.ofW (cc := cY_lacking) (maxL := 6) (ret := (some .int)) (by decide) rfl ?_
  intro p e s m args below meth c s₁ B hml hv
  obtain ⟨hargs, hP, hK⟩ := hv
  have hx := B.exec
  have hb := B.bytes
  have hr := B.returns
  have hts := atoms_spec (ws := wsY_lacking) B.pre
  have hown : s.vm.findClass RY = some m.cls := findClass_of_methodNamed B.named
  have hlocks := B.notSynchronized
  have hP : va_P (dC, dI) clS [(r0, .inr (1, [.int th, .ref b0, .int (nI tn), .ref b1, .ref b2, .ref b3, .int (nI wn), .ref b4, .ref b5, .ref b6, .ref b7, .int (nI ko), .int (nI mw)])), (b0, .inl (cb 0, 8, .inl (fun z9 => nI (cl z9)))), (b1, .inl (cb 1, 2040, .inl (fun z9 => nI ((t z9).1 / 256)))), (b2, .inl (cb 2, 2040, .inl (fun z9 => nI ((t z9).1 % 256)))), (b3, .inl (cb 3, 2040, .inl (fun z9 => (t z9).2))), (b4, .inl (cb 4, 65, .inl (fun z9 => nI ((w z9).1 / 256)))), (b5, .inl (cb 5, 65, .inl (fun z9 => nI ((w z9).1 % 256)))), (b6, .inl (cb 6, 65, .inr (.inl (fun z9 => (w z9).2.1)))), (b7, .inl (cb 7, 65, .inl (fun z9 => (w z9).2.2)))] s.heap := hP
  have hl := lv_entry ([.ref r0, .int (nI act), .long ck]) (n := 6) (Nat.le_of_ble_eq_true rfl)
  have hE : entryFrame m args 6 = F0 m 0 ((lg_sl ([.ref r0, .int (nI act), .long ck]) ++ List.replicate (6 - (lg_sl ([.ref r0, .int (nI act), .long ck])).length) Slot.unset).toArray) [] := by rw [hargs]; exact lg_entry_eq m ([.ref r0, .int (nI act), .long ck]) 6
  rw [hE]
  generalize (lg_sl ([.ref r0, .int (nI act), .long ck]) ++ List.replicate (6 - (lg_sl ([.ref r0, .int (nI act), .long ck])).length) Slot.unset).toArray = ls at hl ⊢
  have hl : lv_has ls 6 [(0, .ref r0), (1, .int (nI act)), (2, .long ck)] := hl
  refine lv_iconst (v := -1) hx hb dY_lacking_0 (by decide) ?_
  refine tp_i (y := oI none) (rfl) ?_
  refine lv_istore (lv' := [(4, .int (oI none)), (0, .ref r0), (1, .int (nI act)), (2, .long ck)]) hx hb dY_lacking_1 hl (by decide) rfl (fun ls hl => ?_)
  refine lv_bipush (v := 7) hx hb dY_lacking_3 (by decide) ?_
  refine tp_i (y := dN 8) (rfl) ?_
  refine lv_istore (lv' := [(5, .int (dN 8)), (4, .int (oI none)), (0, .ref r0), (1, .int (nI act)), (2, .long ck)]) hx hb dY_lacking_5 hl (by decide) rfl (fun ls hl => ?_)
  have loop : ∀ (n : Nat) (f : Option Nat), n ≤ 8 → lkB cl ck act n f = lkB cl ck act 8 none → ∀ ls : Array Slot, lv_has ls 6 [(0, .ref r0), (1, .int (nI act)), (2, .long ck), (4, .int (oI f)), (5, .int (dN n))] → W p l e (headSpec wsY_lacking ({ frames := 1, cells := 0, slots := 0, locals := 22 })).room s m args below meth c s.heap [] 0 0 (MQ below (QcRead (oI (lkB cl ck act 8 none))) args s 0 0 (fun _ => False)) (F0 m 7 ls []) := by
    intro n
    induction n with
    | zero =>
      intro f hn hk9 ls hl
      have hl : lv_has ls 6 [(0, .ref r0), (1, .int (nI act)), (2, .long ck), (4, .int (oI f)), (5, .int (-1))] := hl
      refine lv_iload hx hb dY_lacking_7 (lv_at hl 4 rfl) ?_
      refine lv_if_lt (tgt := 49) hx hb dY_lacking_9 (by decide) (fun c_9 => ?_) (fun c_9 => ?_)
      · refine lv_iload hx hb dY_lacking_49 (lv_at hl 3 rfl) ?_
        exact ri_ret hx hb hr hlocks (by rw [← hk9]; rfl) dY_lacking_51
      · exact absurd (by decide) c_9
    | succ n ih =>
      intro f hn hk9 ls hl
      have hl : lv_has ls 6 [(0, .ref r0), (1, .int (nI act)), (2, .long ck), (4, .int (oI f)), (5, .int (nI n))] := hl
      refine lv_iload hx hb dY_lacking_7 (lv_at hl 4 rfl) ?_
      refine lv_if_lt (tgt := 49) hx hb dY_lacking_9 (by decide) (fun c_9 => ?_) (fun c_9 => ?_)
      · exact absurd c_9 (nI_pos (by omega))
      · refine lv_iload hx hb dY_lacking_12 (lv_at hl 4 rfl) ?_
        refine lv_iload_n hx hb dY_lacking_14 rfl (lv_at hl 1 rfl) ?_
        refine lv_icmp_eq (tgt := 39) hx hb dY_lacking_15 (by decide) (fun c_15 => ?_) (fun c_15 => ?_)
        · have c7 : ¬ (n ≠ act ∧ cl n < by_ ck n) := fun q => q.1 ((nI_eq (by omega) (by omega)).mp c_15)
          refine lv_iload hx hb dY_lacking_39 (lv_at hl 3 rfl) ?_
          refine tp_i (y := oI (if n ≠ act ∧ cl n < by_ ck n then some n else f)) (by rw [if_neg c7]) ?_
          refine lv_istore (lv' := [(4, .int (oI (if n ≠ act ∧ cl n < by_ ck n then some n else f))), (0, .ref r0), (1, .int (nI act)), (2, .long ck), (5, .int (nI n))]) hx hb dY_lacking_41 hl (by decide) rfl (fun ls hl => ?_)
          refine lv_iinc (v := (dN n)) (lv' := [(5, .int (dN n)), (4, .int (oI (if n ≠ act ∧ cl n < by_ ck n then some n else f))), (0, .ref r0), (1, .int (nI act)), (2, .long ck)]) hx hb dY_lacking_43 hl (k := 4) rfl (dN_dec n) (by decide) rfl (fun ls hl => ?_)
          refine lv_goto (tgt := 7) hx hb dY_lacking_46 (by decide) ?_
          exact ih _ (by omega) (by rw [← hk9]; rfl) ls (lv_sub hl [2, 3, 4, 1, 0] rfl)
        · have c8 : n ≠ act := fun q => c_15 (by rw [q])
          refine lv_lload_n hx hb dY_lacking_18 rfl (lv_at hl 2 rfl) ?_
          refine lv_iload hx hb dY_lacking_19 (lv_at hl 4 rfl) ?_
          refine rd_i (W.runS (As := [.long ck, .int (nI n)]) (rest := []) ⟨hx, hb, hml, hown, hts⟩ (kY_part l ck n (by omega)) (va_cwS 2 hts gY_lacking_Y_part rfl rfl rfl (by decide +kernel) ⟨Nat.le_of_ble_eq_true rfl, Nat.le_of_ble_eq_true rfl⟩) preEq rfl rfl hl.1 rfl (lv_room (Nat.le_of_ble_eq_true rfl)) dY_lacking_21 ⟨Nat.zero_le _, Nat.zero_le _⟩) ?_
          refine lv_aload_n hx hb dY_lacking_24 rfl (lv_at hl 0 rfl) ?_
          refine va_get (D := (dC, dI)) (ci := 1) (v := .ref b0) (C := RY) (T := TY) (N := 13) hx hb hts in_Y_lacking_Y hown hK hP 0 rfl rfl 1 (by decide) (hts (.fieldLink RY 7 "CausalGateModel" "clock" "[I") (by decide +kernel)) (fun _ h9 => h9) rfl dY_lacking_25 ?_
          refine lv_iload hx hb dY_lacking_28 (lv_at hl 4 rfl) ?_
          refine va_iald hx hb hK hP 1 0 rfl rfl (vp_in_nI (by omega) (by decide)) dY_lacking_30 ?_
          refine tp_i (y := nI (cl n)) (by rw [nI_clamp (by omega)]) ?_
          refine lv_icmp_le (tgt := 39) hx hb dY_lacking_31 (by decide) (fun c_31 => ?_) (fun c_31 => ?_)
          · have c7 : ¬ (n ≠ act ∧ cl n < by_ ck n) := fun q => absurd ((nI_leI (by have := hcl n (by omega); have := by_lt ck n; omega) (by have := hcl n (by omega); have := by_lt ck n; omega)).mp c_31) (by have := q.2; omega)
            refine lv_iload hx hb dY_lacking_39 (lv_at hl 3 rfl) ?_
            refine tp_i (y := oI (if n ≠ act ∧ cl n < by_ ck n then some n else f)) (by rw [if_neg c7]) ?_
            refine lv_istore (lv' := [(4, .int (oI (if n ≠ act ∧ cl n < by_ ck n then some n else f))), (0, .ref r0), (1, .int (nI act)), (2, .long ck), (5, .int (nI n))]) hx hb dY_lacking_41 hl (by decide) rfl (fun ls hl => ?_)
            refine lv_iinc (v := (dN n)) (lv' := [(5, .int (dN n)), (4, .int (oI (if n ≠ act ∧ cl n < by_ ck n then some n else f))), (0, .ref r0), (1, .int (nI act)), (2, .long ck)]) hx hb dY_lacking_43 hl (k := 4) rfl (dN_dec n) (by decide) rfl (fun ls hl => ?_)
            refine lv_goto (tgt := 7) hx hb dY_lacking_46 (by decide) ?_
            exact ih _ (by omega) (by rw [← hk9]; rfl) ls (lv_sub hl [2, 3, 4, 1, 0] rfl)
          · have c7 : n ≠ act ∧ cl n < by_ ck n := ⟨c8, Nat.lt_of_not_le fun q => c_31 (nI_le q (by have := hcl n (by omega); have := by_lt ck n; omega))⟩
            refine lv_iload hx hb dY_lacking_34 (lv_at hl 4 rfl) ?_
            refine lv_goto (tgt := 41) hx hb dY_lacking_36 (by decide) ?_
            refine tp_i (y := oI (if n ≠ act ∧ cl n < by_ ck n then some n else f)) (by rw [if_pos c7]; rfl) ?_
            refine lv_istore (lv' := [(4, .int (oI (if n ≠ act ∧ cl n < by_ ck n then some n else f))), (0, .ref r0), (1, .int (nI act)), (2, .long ck), (5, .int (nI n))]) hx hb dY_lacking_41 hl (by decide) rfl (fun ls hl => ?_)
            refine lv_iinc (v := (dN n)) (lv' := [(5, .int (dN n)), (4, .int (oI (if n ≠ act ∧ cl n < by_ ck n then some n else f))), (0, .ref r0), (1, .int (nI act)), (2, .long ck)]) hx hb dY_lacking_43 hl (k := 4) rfl (dN_dec n) (by decide) rfl (fun ls hl => ?_)
            refine lv_goto (tgt := 7) hx hb dY_lacking_46 (by decide) ?_
            exact ih _ (by omega) (by rw [← hk9]; rfl) ls (lv_sub hl [2, 3, 4, 1, 0] rfl)
  exact loop 8 none (Nat.le_refl _) rfl ls (lv_sub hl [2, 3, 4, 1, 0] rfl)

set_option maxRecDepth 20000 in
theorem in_Y_canCome_Y : ∀ w ∈ wsY0, w ∈ wsY_canCome := by decide +kernel

set_option maxHeartbeats 4000000 in
set_option maxRecDepth 100000 in
theorem kY_canCome (l : Launch) (dC : Nat → ClassId) (dI : Nat → Nat → Nat) (cb : Nat → ClassId) (r0 b0 b1 b2 b3 b4 b5 b6 b7 : Nat) (th : Int32) (cl : Nat → Nat) (t : TF) (tn : Nat) (w : WF) (wn : Nat) (ko mw : Nat) (hcl : ∀ a, a < 8 → cl a < 256) (act q : Nat) (ck : Int64) (hact : act < 8) (hq : q < 256) : Met l yY_canCome wsY_canCome ({ frames := 2, cells := 0, slots := 0, locals := 47 }) (Pr [.ref r0, .int (nI act), .int (nI q), .long ck] (dC, dI) clS [(cb 0, .int), (cb 1, .int), (cb 2, .int), (cb 3, .int), (cb 4, .int), (cb 5, .int), (cb 6, .long), (cb 7, .int)] [(r0, .inr (1, [.int th, .ref b0, .int (nI tn), .ref b1, .ref b2, .ref b3, .int (nI wn), .ref b4, .ref b5, .ref b6, .ref b7, .int (nI ko), .int (nI mw)])), (b0, .inl (cb 0, 8, .inl (fun z9 => nI (cl z9)))), (b1, .inl (cb 1, 2040, .inl (fun z9 => nI ((t z9).1 / 256)))), (b2, .inl (cb 2, 2040, .inl (fun z9 => nI ((t z9).1 % 256)))), (b3, .inl (cb 3, 2040, .inl (fun z9 => (t z9).2))), (b4, .inl (cb 4, 65, .inl (fun z9 => nI ((w z9).1 / 256)))), (b5, .inl (cb 5, 65, .inl (fun z9 => nI ((w z9).1 % 256)))), (b6, .inl (cb 6, 65, .inr (.inl (fun z9 => (w z9).2.1)))), (b7, .inl (cb 7, 65, .inl (fun z9 => (w z9).2.2)))]) (QcRead (bI (cnM cl act q ck))) 0 0 (fun _ => False) := by
  refine Met.ofW (cc := cY_canCome) (maxL := 5) (ret := (some .boolean)) (by decide) rfl ?_
  intro p e s m args below meth c s₁ B hml hv
  obtain ⟨hargs, hP, hK⟩ := hv
  have hx := B.exec
  have hb := B.bytes
  have hr := B.returns
  have hts := atoms_spec (ws := wsY_canCome) B.pre
  have hown : s.vm.findClass RY = some m.cls := findClass_of_methodNamed B.named
  have hlocks := B.notSynchronized
  have hP : va_P (dC, dI) clS [(r0, .inr (1, [.int th, .ref b0, .int (nI tn), .ref b1, .ref b2, .ref b3, .int (nI wn), .ref b4, .ref b5, .ref b6, .ref b7, .int (nI ko), .int (nI mw)])), (b0, .inl (cb 0, 8, .inl (fun z9 => nI (cl z9)))), (b1, .inl (cb 1, 2040, .inl (fun z9 => nI ((t z9).1 / 256)))), (b2, .inl (cb 2, 2040, .inl (fun z9 => nI ((t z9).1 % 256)))), (b3, .inl (cb 3, 2040, .inl (fun z9 => (t z9).2))), (b4, .inl (cb 4, 65, .inl (fun z9 => nI ((w z9).1 / 256)))), (b5, .inl (cb 5, 65, .inl (fun z9 => nI ((w z9).1 % 256)))), (b6, .inl (cb 6, 65, .inr (.inl (fun z9 => (w z9).2.1)))), (b7, .inl (cb 7, 65, .inl (fun z9 => (w z9).2.2)))] s.heap := hP
  have hl := lv_entry ([.ref r0, .int (nI act), .int (nI q), .long ck]) (n := 5) (Nat.le_of_ble_eq_true rfl)
  have hE : entryFrame m args 5 = F0 m 0 ((lg_sl ([.ref r0, .int (nI act), .int (nI q), .long ck]) ++ List.replicate (5 - (lg_sl ([.ref r0, .int (nI act), .int (nI q), .long ck])).length) Slot.unset).toArray) [] := by rw [hargs]; exact lg_entry_eq m ([.ref r0, .int (nI act), .int (nI q), .long ck]) 5
  rw [hE]
  generalize (lg_sl ([.ref r0, .int (nI act), .int (nI q), .long ck]) ++ List.replicate (5 - (lg_sl ([.ref r0, .int (nI act), .int (nI q), .long ck])).length) Slot.unset).toArray = ls at hl ⊢
  have hl : lv_has ls 5 [(0, .ref r0), (1, .int (nI act)), (2, .int (nI q)), (3, .long ck)] := hl
  refine lv_iload_n hx hb dY_canCome_0 rfl (lv_at hl 2 rfl) ?_
  refine lv_aload_n hx hb dY_canCome_1 rfl (lv_at hl 0 rfl) ?_
  refine va_get (D := (dC, dI)) (ci := 1) (v := .ref b0) (C := RY) (T := TY) (N := 13) hx hb hts in_Y_canCome_Y hown hK hP 0 rfl rfl 1 (by decide) (hts (.fieldLink RY 7 "CausalGateModel" "clock" "[I") (by decide +kernel)) (fun _ h9 => h9) rfl dY_canCome_2 ?_
  refine lv_iload_n hx hb dY_canCome_5 rfl (lv_at hl 1 rfl) ?_
  refine va_iald hx hb hK hP 1 0 rfl rfl (vp_in_nI (by omega) (by decide)) dY_canCome_6 ?_
  refine tp_i (y := nI (cl act)) (by rw [nI_clamp (by omega)]) ?_
  refine lv_iconst (v := 1) hx hb dY_canCome_7 (by decide) ?_
  refine lv_iadd hx hb dY_canCome_8 ?_
  refine tp_i (y := nI (cl act + 1)) (nI_1 _) ?_
  refine lv_icmp_ne (tgt := 25) hx hb dY_canCome_9 (by decide) (fun c_9 => ?_) (fun c_9 => ?_)
  · have c9 : ¬ q = cl act + 1 := fun z => c_9 (by rw [z])
    refine lv_iconst (v := 0) hx hb dY_canCome_25 (by decide) ?_
    exact rz_ret hx hb hr hlocks (rfl) (by simp [cnM, bI, *]) dY_canCome_26
  · have c9 : q = cl act + 1 := (nI_eq (by omega) (by have := hcl act hact; omega)).mp c_9
    refine lv_aload_n hx hb dY_canCome_12 rfl (lv_at hl 0 rfl) ?_
    refine lv_iload_n hx hb dY_canCome_13 rfl (lv_at hl 1 rfl) ?_
    refine lv_lload_n hx hb dY_canCome_14 rfl (lv_at hl 3 rfl) ?_
    refine rd_i (W.runV (As := [.int (nI act), .long ck]) (rest := []) ⟨hx, hb, hml, hown, hts⟩ (kY_lacking l dC dI cb r0 b0 b1 b2 b3 b4 b5 b6 b7 th cl t tn w wn ko mw hcl act ck (by omega)) (cwV 2 hts gY_canCome_Y_lacking rfl rfl rfl (by decide +kernel) ⟨Nat.le_of_ble_eq_true rfl, Nat.le_of_ble_eq_true rfl⟩) (pr_V (ci := 1) (q0 := 0) hK hP rfl rfl) rfl rfl hl.1 rfl (lv_room (Nat.le_of_ble_eq_true rfl)) dY_canCome_15 ⟨Nat.zero_le _, Nat.zero_le _⟩) ?_
    refine lv_if_ge (tgt := 25) hx hb dY_canCome_18 (by decide) (fun c_18 => ?_) (fun c_18 => ?_)
    · have c8 : ¬ lkB cl ck act 8 none = none := (oI_ge (fun a h => Nat.lt_of_lt_of_le (lkB_lt (Nat.le_refl _) (fun x hx => by cases hx) h) (by decide))).mp c_18
      refine lv_iconst (v := 0) hx hb dY_canCome_25 (by decide) ?_
      exact rz_ret hx hb hr hlocks (rfl) (by simp [cnM, bI, *]) dY_canCome_26
    · have c8 : lkB cl ck act 8 none = none := Classical.byContradiction fun z => c_18 ((oI_ge (fun a h => Nat.lt_of_lt_of_le (lkB_lt (Nat.le_refl _) (fun x hx => by cases hx) h) (by decide))).mpr z)
      refine lv_iconst (v := 1) hx hb dY_canCome_21 (by decide) ?_
      refine lv_goto (tgt := 26) hx hb dY_canCome_22 (by decide) ?_
      exact rz_ret hx hb hr hlocks (rfl) (by simp [cnM, bI, *]) dY_canCome_26

set_option maxRecDepth 20000 in
theorem in_Y_isKnown_Y : ∀ w ∈ wsY0, w ∈ wsY_isKnown := by decide +kernel

set_option maxHeartbeats 4000000 in
set_option maxRecDepth 100000 in
theorem kY_isKnown (l : Launch) (dC : Nat → ClassId) (dI : Nat → Nat → Nat) (cb : Nat → ClassId) (r0 b0 b1 b2 b3 b4 b5 b6 b7 : Nat) (th : Int32) (cl : Nat → Nat) (t : TF) (tn : Nat) (w : WF) (wn : Nat) (ko mw : Nat) (hcl : ∀ a, a < 8 → cl a < 256) (hwn : wn ≤ 65) (hw : ∀ j, j < wn → (w j).1 < 2048) (act q : Nat) (hact : act < 8) (hq : q < 256) : Met l yY_isKnown wsY_isKnown ({ frames := 0, cells := 0, slots := 0, locals := 0 }) (Pr [.ref r0, .int (nI act), .int (nI q)] (dC, dI) clS [(cb 0, .int), (cb 1, .int), (cb 2, .int), (cb 3, .int), (cb 4, .int), (cb 5, .int), (cb 6, .long), (cb 7, .int)] [(r0, .inr (1, [.int th, .ref b0, .int (nI tn), .ref b1, .ref b2, .ref b3, .int (nI wn), .ref b4, .ref b5, .ref b6, .ref b7, .int (nI ko), .int (nI mw)])), (b0, .inl (cb 0, 8, .inl (fun z9 => nI (cl z9)))), (b1, .inl (cb 1, 2040, .inl (fun z9 => nI ((t z9).1 / 256)))), (b2, .inl (cb 2, 2040, .inl (fun z9 => nI ((t z9).1 % 256)))), (b3, .inl (cb 3, 2040, .inl (fun z9 => (t z9).2))), (b4, .inl (cb 4, 65, .inl (fun z9 => nI ((w z9).1 / 256)))), (b5, .inl (cb 5, 65, .inl (fun z9 => nI ((w z9).1 % 256)))), (b6, .inl (cb 6, 65, .inr (.inl (fun z9 => (w z9).2.1)))), (b7, .inl (cb 7, 65, .inl (fun z9 => (w z9).2.2)))]) (QcRead (bI (knM cl w wn act q))) 0 0 (fun _ => False) := by
  refine Met.ofW (cc := cY_isKnown) (maxL := 5) (ret := (some .boolean)) (by decide) rfl ?_
  intro p e s m args below meth c s₁ B hml hv
  obtain ⟨hargs, hP, hK⟩ := hv
  have hx := B.exec
  have hb := B.bytes
  have hr := B.returns
  have hts := atoms_spec (ws := wsY_isKnown) B.pre
  have hown : s.vm.findClass RY = some m.cls := findClass_of_methodNamed B.named
  have hlocks := B.notSynchronized
  have hP : va_P (dC, dI) clS [(r0, .inr (1, [.int th, .ref b0, .int (nI tn), .ref b1, .ref b2, .ref b3, .int (nI wn), .ref b4, .ref b5, .ref b6, .ref b7, .int (nI ko), .int (nI mw)])), (b0, .inl (cb 0, 8, .inl (fun z9 => nI (cl z9)))), (b1, .inl (cb 1, 2040, .inl (fun z9 => nI ((t z9).1 / 256)))), (b2, .inl (cb 2, 2040, .inl (fun z9 => nI ((t z9).1 % 256)))), (b3, .inl (cb 3, 2040, .inl (fun z9 => (t z9).2))), (b4, .inl (cb 4, 65, .inl (fun z9 => nI ((w z9).1 / 256)))), (b5, .inl (cb 5, 65, .inl (fun z9 => nI ((w z9).1 % 256)))), (b6, .inl (cb 6, 65, .inr (.inl (fun z9 => (w z9).2.1)))), (b7, .inl (cb 7, 65, .inl (fun z9 => (w z9).2.2)))] s.heap := hP
  have hl := lv_entry ([.ref r0, .int (nI act), .int (nI q)]) (n := 5) (Nat.le_of_ble_eq_true rfl)
  have hE : entryFrame m args 5 = F0 m 0 ((lg_sl ([.ref r0, .int (nI act), .int (nI q)]) ++ List.replicate (5 - (lg_sl ([.ref r0, .int (nI act), .int (nI q)])).length) Slot.unset).toArray) [] := by rw [hargs]; exact lg_entry_eq m ([.ref r0, .int (nI act), .int (nI q)]) 5
  rw [hE]
  generalize (lg_sl ([.ref r0, .int (nI act), .int (nI q)]) ++ List.replicate (5 - (lg_sl ([.ref r0, .int (nI act), .int (nI q)])).length) Slot.unset).toArray = ls at hl ⊢
  have hl : lv_has ls 5 [(0, .ref r0), (1, .int (nI act)), (2, .int (nI q))] := hl
  refine lv_iload_n hx hb dY_isKnown_0 rfl (lv_at hl 2 rfl) ?_
  refine lv_aload_n hx hb dY_isKnown_1 rfl (lv_at hl 0 rfl) ?_
  refine va_get (D := (dC, dI)) (ci := 1) (v := .ref b0) (C := RY) (T := TY) (N := 13) hx hb hts in_Y_isKnown_Y hown hK hP 0 rfl rfl 1 (by decide) (hts (.fieldLink RY 7 "CausalGateModel" "clock" "[I") (by decide +kernel)) (fun _ h9 => h9) rfl dY_isKnown_2 ?_
  refine lv_iload_n hx hb dY_isKnown_5 rfl (lv_at hl 1 rfl) ?_
  refine va_iald hx hb hK hP 1 0 rfl rfl (vp_in_nI (by omega) (by decide)) dY_isKnown_6 ?_
  refine tp_i (y := nI (cl act)) (by rw [nI_clamp (by omega)]) ?_
  refine lv_icmp_gt (tgt := 14) hx hb dY_isKnown_7 (by decide) (fun c_7 => ?_) (fun c_7 => ?_)
  · have c9 : decide (q ≤ cl act) = false := decide_eq_false fun z => absurd c_7 (nI_nlt z (by omega))
    refine lv_iconst (v := 0) hx hb dY_isKnown_14 (by decide) ?_
    refine tp_i (y := bI (decide (q ≤ cl act))) (by rw [c9]; rfl) ?_
    refine lv_istore_n (lv' := [(3, .int (bI (decide (q ≤ cl act)))), (0, .ref r0), (1, .int (nI act)), (2, .int (nI q))]) hx hb dY_isKnown_15 rfl hl (by decide) rfl (fun ls hl => ?_)
    refine lv_iconst (v := 0) hx hb dY_isKnown_16 (by decide) ?_
    refine tp_i (y := nI 0) (nI_0.symm) ?_
    refine lv_istore (lv' := [(4, .int (nI 0)), (3, .int (bI (decide (q ≤ cl act)))), (0, .ref r0), (1, .int (nI act)), (2, .int (nI q))]) hx hb dY_isKnown_17 hl (by decide) rfl (fun ls hl => ?_)
    have loop : ∀ (n : Nat) (j : Nat) (b9 : Bool), j + n = wn → kmS w act q n j b9 = knM cl w wn act q → ∀ ls : Array Slot, lv_has ls 5 [(0, .ref r0), (1, .int (nI act)), (2, .int (nI q)), (3, .int (bI b9)), (4, .int (nI j))] → W p l e (headSpec wsY_isKnown ({ frames := 0, cells := 0, slots := 0, locals := 0 })).room s m args below meth c s.heap [] 0 0 (MQ below (QcRead (bI (knM cl w wn act q))) args s 0 0 (fun _ => False)) (F0 m 19 ls []) := by
      intro n
      induction n with
      | zero =>
        intro j b9 hj hk9 ls hl
        refine lv_iload hx hb dY_isKnown_19 (lv_at hl 4 rfl) ?_
        refine lv_aload_n hx hb dY_isKnown_21 rfl (lv_at hl 0 rfl) ?_
        refine va_get (D := (dC, dI)) (ci := 1) (v := .int (nI wn)) (C := RY) (T := TY) (N := 13) hx hb hts in_Y_isKnown_Y hown hK hP 0 rfl rfl 6 (by decide) (hts (.fieldLink RY 49 "CausalGateModel" "waiting" "I") (by decide +kernel)) (fun _ h9 => h9) rfl dY_isKnown_22 ?_
        refine lv_icmp_ge (tgt := 66) hx hb dY_isKnown_25 (by decide) (fun c_25 => ?_) (fun c_25 => ?_)
        · refine lv_iload_n hx hb dY_isKnown_66 rfl (lv_at hl 3 rfl) ?_
          exact rz_ret hx hb hr hlocks (bI_n _) (by rw [← hk9]; rfl) dY_isKnown_67
        · exact absurd (nI_le (by omega) (by omega)) c_25
      | succ n ih =>
        intro j b9 hj hk9 ls hl
        refine lv_iload hx hb dY_isKnown_19 (lv_at hl 4 rfl) ?_
        refine lv_aload_n hx hb dY_isKnown_21 rfl (lv_at hl 0 rfl) ?_
        refine va_get (D := (dC, dI)) (ci := 1) (v := .int (nI wn)) (C := RY) (T := TY) (N := 13) hx hb hts in_Y_isKnown_Y hown hK hP 0 rfl rfl 6 (by decide) (hts (.fieldLink RY 49 "CausalGateModel" "waiting" "I") (by decide +kernel)) (fun _ h9 => h9) rfl dY_isKnown_22 ?_
        refine lv_icmp_ge (tgt := 66) hx hb dY_isKnown_25 (by decide) (fun c_25 => ?_) (fun c_25 => ?_)
        · exact absurd ((nI_leI (by omega) (by omega)).mp c_25) (by omega)
        · refine lv_iload_n hx hb dY_isKnown_28 rfl (lv_at hl 3 rfl) ?_
          refine lv_if_ne (tgt := 54) hx hb dY_isKnown_29 (by decide) (fun c_29 => ?_) (fun c_29 => ?_)
          · have hb9 : b9 = true := by cases b9; exact absurd rfl c_29; rfl
            have e8 : (b9 || (decide ((w j).1 / 256 = act) && decide ((w j).1 % 256 = q))) = true := by simp [hb9]
            refine lv_iconst (v := 1) hx hb dY_isKnown_54 (by decide) ?_
            refine tp_i (y := bI (b9 || (decide ((w j).1 / 256 = act) && decide ((w j).1 % 256 = q)))) (by rw [e8]; rfl) ?_
            refine lv_goto (tgt := 59) hx hb dY_isKnown_55 (by decide) ?_
            refine lv_istore_n (lv' := [(3, .int (bI (b9 || (decide ((w j).1 / 256 = act) && decide ((w j).1 % 256 = q))))), (0, .ref r0), (1, .int (nI act)), (2, .int (nI q)), (4, .int (nI j))]) hx hb dY_isKnown_59 rfl hl (by decide) rfl (fun ls hl => ?_)
            refine lv_iinc (v := (nI (j + 1))) (lv' := [(4, .int (nI (j + 1))), (3, .int (bI (b9 || (decide ((w j).1 / 256 = act) && decide ((w j).1 % 256 = q))))), (0, .ref r0), (1, .int (nI act)), (2, .int (nI q))]) hx hb dY_isKnown_60 hl (k := 4) rfl (nI_1 j) (by decide) rfl (fun ls hl => ?_)
            refine lv_goto (tgt := 19) hx hb dY_isKnown_63 (by decide) ?_
            exact ih (j + 1) (b9 || (decide ((w j).1 / 256 = act) && decide ((w j).1 % 256 = q))) (by omega) (by rw [← hk9]; rfl) ls (lv_sub hl [2, 3, 4, 1, 0] rfl)
          · have hb9 : b9 = false := bI_0.mp c_29
            refine lv_aload_n hx hb dY_isKnown_32 rfl (lv_at hl 0 rfl) ?_
            refine va_get (D := (dC, dI)) (ci := 1) (v := .ref b4) (C := RY) (T := TY) (N := 13) hx hb hts in_Y_isKnown_Y hown hK hP 0 rfl rfl 7 (by decide) (hts (.fieldLink RY 22 "CausalGateModel" "wActors" "[I") (by decide +kernel)) (fun _ h9 => h9) rfl dY_isKnown_33 ?_
            refine lv_iload hx hb dY_isKnown_36 (lv_at hl 4 rfl) ?_
            refine va_iald hx hb hK hP 5 4 rfl rfl (vp_in_nI (by omega) (by decide)) dY_isKnown_38 ?_
            refine tp_i (y := nI ((w j).1 / 256)) (by rw [nI_clamp (by omega)]) ?_
            have hwj := hw j (by omega)
            refine lv_iload_n hx hb dY_isKnown_39 rfl (lv_at hl 1 rfl) ?_
            refine lv_icmp_ne (tgt := 58) hx hb dY_isKnown_40 (by decide) (fun c_40 => ?_) (fun c_40 => ?_)
            · have e8 : (b9 || (decide ((w j).1 / 256 = act) && decide ((w j).1 % 256 = q))) = false := by simp [hb9]; exact fun z => absurd (by rw [z]) c_40
              refine lv_iconst (v := 0) hx hb dY_isKnown_58 (by decide) ?_
              refine tp_i (y := bI (b9 || (decide ((w j).1 / 256 = act) && decide ((w j).1 % 256 = q)))) (by rw [e8]; rfl) ?_
              refine lv_istore_n (lv' := [(3, .int (bI (b9 || (decide ((w j).1 / 256 = act) && decide ((w j).1 % 256 = q))))), (0, .ref r0), (1, .int (nI act)), (2, .int (nI q)), (4, .int (nI j))]) hx hb dY_isKnown_59 rfl hl (by decide) rfl (fun ls hl => ?_)
              refine lv_iinc (v := (nI (j + 1))) (lv' := [(4, .int (nI (j + 1))), (3, .int (bI (b9 || (decide ((w j).1 / 256 = act) && decide ((w j).1 % 256 = q))))), (0, .ref r0), (1, .int (nI act)), (2, .int (nI q))]) hx hb dY_isKnown_60 hl (k := 4) rfl (nI_1 j) (by decide) rfl (fun ls hl => ?_)
              refine lv_goto (tgt := 19) hx hb dY_isKnown_63 (by decide) ?_
              exact ih (j + 1) (b9 || (decide ((w j).1 / 256 = act) && decide ((w j).1 % 256 = q))) (by omega) (by rw [← hk9]; rfl) ls (lv_sub hl [2, 3, 4, 1, 0] rfl)
            · have c7 : (w j).1 / 256 = act := (nI_eq (by omega) (by omega)).mp c_40
              refine lv_aload_n hx hb dY_isKnown_43 rfl (lv_at hl 0 rfl) ?_
              refine va_get (D := (dC, dI)) (ci := 1) (v := .ref b5) (C := RY) (T := TY) (N := 13) hx hb hts in_Y_isKnown_Y hown hK hP 0 rfl rfl 8 (by decide) (hts (.fieldLink RY 25 "CausalGateModel" "wSeqs" "[I") (by decide +kernel)) (fun _ h9 => h9) rfl dY_isKnown_44 ?_
              refine lv_iload hx hb dY_isKnown_47 (lv_at hl 4 rfl) ?_
              refine va_iald hx hb hK hP 6 5 rfl rfl (vp_in_nI (by omega) (by decide)) dY_isKnown_49 ?_
              refine tp_i (y := nI ((w j).1 % 256)) (by rw [nI_clamp (by omega)]) ?_
              refine lv_iload_n hx hb dY_isKnown_50 rfl (lv_at hl 2 rfl) ?_
              refine lv_icmp_ne (tgt := 58) hx hb dY_isKnown_51 (by decide) (fun c_51 => ?_) (fun c_51 => ?_)
              · have e8 : (b9 || (decide ((w j).1 / 256 = act) && decide ((w j).1 % 256 = q))) = false := by simp [hb9]; exact fun _ z => absurd (by rw [z]) c_51
                refine lv_iconst (v := 0) hx hb dY_isKnown_58 (by decide) ?_
                refine tp_i (y := bI (b9 || (decide ((w j).1 / 256 = act) && decide ((w j).1 % 256 = q)))) (by rw [e8]; rfl) ?_
                refine lv_istore_n (lv' := [(3, .int (bI (b9 || (decide ((w j).1 / 256 = act) && decide ((w j).1 % 256 = q))))), (0, .ref r0), (1, .int (nI act)), (2, .int (nI q)), (4, .int (nI j))]) hx hb dY_isKnown_59 rfl hl (by decide) rfl (fun ls hl => ?_)
                refine lv_iinc (v := (nI (j + 1))) (lv' := [(4, .int (nI (j + 1))), (3, .int (bI (b9 || (decide ((w j).1 / 256 = act) && decide ((w j).1 % 256 = q))))), (0, .ref r0), (1, .int (nI act)), (2, .int (nI q))]) hx hb dY_isKnown_60 hl (k := 4) rfl (nI_1 j) (by decide) rfl (fun ls hl => ?_)
                refine lv_goto (tgt := 19) hx hb dY_isKnown_63 (by decide) ?_
                exact ih (j + 1) (b9 || (decide ((w j).1 / 256 = act) && decide ((w j).1 % 256 = q))) (by omega) (by rw [← hk9]; rfl) ls (lv_sub hl [2, 3, 4, 1, 0] rfl)
              · have e8 : (b9 || (decide ((w j).1 / 256 = act) && decide ((w j).1 % 256 = q))) = true := by simp [hb9, c7, (nI_eq (by omega) (by omega)).mp c_51]
                refine lv_iconst (v := 1) hx hb dY_isKnown_54 (by decide) ?_
                refine tp_i (y := bI (b9 || (decide ((w j).1 / 256 = act) && decide ((w j).1 % 256 = q)))) (by rw [e8]; rfl) ?_
                refine lv_goto (tgt := 59) hx hb dY_isKnown_55 (by decide) ?_
                refine lv_istore_n (lv' := [(3, .int (bI (b9 || (decide ((w j).1 / 256 = act) && decide ((w j).1 % 256 = q))))), (0, .ref r0), (1, .int (nI act)), (2, .int (nI q)), (4, .int (nI j))]) hx hb dY_isKnown_59 rfl hl (by decide) rfl (fun ls hl => ?_)
                refine lv_iinc (v := (nI (j + 1))) (lv' := [(4, .int (nI (j + 1))), (3, .int (bI (b9 || (decide ((w j).1 / 256 = act) && decide ((w j).1 % 256 = q))))), (0, .ref r0), (1, .int (nI act)), (2, .int (nI q))]) hx hb dY_isKnown_60 hl (k := 4) rfl (nI_1 j) (by decide) rfl (fun ls hl => ?_)
                refine lv_goto (tgt := 19) hx hb dY_isKnown_63 (by decide) ?_
                exact ih (j + 1) (b9 || (decide ((w j).1 / 256 = act) && decide ((w j).1 % 256 = q))) (by omega) (by rw [← hk9]; rfl) ls (lv_sub hl [2, 3, 4, 1, 0] rfl)
    exact loop wn 0 _ (by omega) rfl ls (lv_sub hl [2, 3, 4, 1, 0] rfl)
  · have c9 : decide (q ≤ cl act) = true := decide_eq_true (Nat.le_of_not_lt fun z => c_7 (nI_lt z (by omega)))
    refine lv_iconst (v := 1) hx hb dY_isKnown_10 (by decide) ?_
    refine tp_i (y := bI (decide (q ≤ cl act))) (by rw [c9]; rfl) ?_
    refine lv_goto (tgt := 15) hx hb dY_isKnown_11 (by decide) ?_
    refine lv_istore_n (lv' := [(3, .int (bI (decide (q ≤ cl act)))), (0, .ref r0), (1, .int (nI act)), (2, .int (nI q))]) hx hb dY_isKnown_15 rfl hl (by decide) rfl (fun ls hl => ?_)
    refine lv_iconst (v := 0) hx hb dY_isKnown_16 (by decide) ?_
    refine tp_i (y := nI 0) (nI_0.symm) ?_
    refine lv_istore (lv' := [(4, .int (nI 0)), (3, .int (bI (decide (q ≤ cl act)))), (0, .ref r0), (1, .int (nI act)), (2, .int (nI q))]) hx hb dY_isKnown_17 hl (by decide) rfl (fun ls hl => ?_)
    have loop : ∀ (n : Nat) (j : Nat) (b9 : Bool), j + n = wn → kmS w act q n j b9 = knM cl w wn act q → ∀ ls : Array Slot, lv_has ls 5 [(0, .ref r0), (1, .int (nI act)), (2, .int (nI q)), (3, .int (bI b9)), (4, .int (nI j))] → W p l e (headSpec wsY_isKnown ({ frames := 0, cells := 0, slots := 0, locals := 0 })).room s m args below meth c s.heap [] 0 0 (MQ below (QcRead (bI (knM cl w wn act q))) args s 0 0 (fun _ => False)) (F0 m 19 ls []) := by
      intro n
      induction n with
      | zero =>
        intro j b9 hj hk9 ls hl
        refine lv_iload hx hb dY_isKnown_19 (lv_at hl 4 rfl) ?_
        refine lv_aload_n hx hb dY_isKnown_21 rfl (lv_at hl 0 rfl) ?_
        refine va_get (D := (dC, dI)) (ci := 1) (v := .int (nI wn)) (C := RY) (T := TY) (N := 13) hx hb hts in_Y_isKnown_Y hown hK hP 0 rfl rfl 6 (by decide) (hts (.fieldLink RY 49 "CausalGateModel" "waiting" "I") (by decide +kernel)) (fun _ h9 => h9) rfl dY_isKnown_22 ?_
        refine lv_icmp_ge (tgt := 66) hx hb dY_isKnown_25 (by decide) (fun c_25 => ?_) (fun c_25 => ?_)
        · refine lv_iload_n hx hb dY_isKnown_66 rfl (lv_at hl 3 rfl) ?_
          exact rz_ret hx hb hr hlocks (bI_n _) (by rw [← hk9]; rfl) dY_isKnown_67
        · exact absurd (nI_le (by omega) (by omega)) c_25
      | succ n ih =>
        intro j b9 hj hk9 ls hl
        refine lv_iload hx hb dY_isKnown_19 (lv_at hl 4 rfl) ?_
        refine lv_aload_n hx hb dY_isKnown_21 rfl (lv_at hl 0 rfl) ?_
        refine va_get (D := (dC, dI)) (ci := 1) (v := .int (nI wn)) (C := RY) (T := TY) (N := 13) hx hb hts in_Y_isKnown_Y hown hK hP 0 rfl rfl 6 (by decide) (hts (.fieldLink RY 49 "CausalGateModel" "waiting" "I") (by decide +kernel)) (fun _ h9 => h9) rfl dY_isKnown_22 ?_
        refine lv_icmp_ge (tgt := 66) hx hb dY_isKnown_25 (by decide) (fun c_25 => ?_) (fun c_25 => ?_)
        · exact absurd ((nI_leI (by omega) (by omega)).mp c_25) (by omega)
        · refine lv_iload_n hx hb dY_isKnown_28 rfl (lv_at hl 3 rfl) ?_
          refine lv_if_ne (tgt := 54) hx hb dY_isKnown_29 (by decide) (fun c_29 => ?_) (fun c_29 => ?_)
          · have hb9 : b9 = true := by cases b9; exact absurd rfl c_29; rfl
            have e8 : (b9 || (decide ((w j).1 / 256 = act) && decide ((w j).1 % 256 = q))) = true := by simp [hb9]
            refine lv_iconst (v := 1) hx hb dY_isKnown_54 (by decide) ?_
            refine tp_i (y := bI (b9 || (decide ((w j).1 / 256 = act) && decide ((w j).1 % 256 = q)))) (by rw [e8]; rfl) ?_
            refine lv_goto (tgt := 59) hx hb dY_isKnown_55 (by decide) ?_
            refine lv_istore_n (lv' := [(3, .int (bI (b9 || (decide ((w j).1 / 256 = act) && decide ((w j).1 % 256 = q))))), (0, .ref r0), (1, .int (nI act)), (2, .int (nI q)), (4, .int (nI j))]) hx hb dY_isKnown_59 rfl hl (by decide) rfl (fun ls hl => ?_)
            refine lv_iinc (v := (nI (j + 1))) (lv' := [(4, .int (nI (j + 1))), (3, .int (bI (b9 || (decide ((w j).1 / 256 = act) && decide ((w j).1 % 256 = q))))), (0, .ref r0), (1, .int (nI act)), (2, .int (nI q))]) hx hb dY_isKnown_60 hl (k := 4) rfl (nI_1 j) (by decide) rfl (fun ls hl => ?_)
            refine lv_goto (tgt := 19) hx hb dY_isKnown_63 (by decide) ?_
            exact ih (j + 1) (b9 || (decide ((w j).1 / 256 = act) && decide ((w j).1 % 256 = q))) (by omega) (by rw [← hk9]; rfl) ls (lv_sub hl [2, 3, 4, 1, 0] rfl)
          · have hb9 : b9 = false := bI_0.mp c_29
            refine lv_aload_n hx hb dY_isKnown_32 rfl (lv_at hl 0 rfl) ?_
            refine va_get (D := (dC, dI)) (ci := 1) (v := .ref b4) (C := RY) (T := TY) (N := 13) hx hb hts in_Y_isKnown_Y hown hK hP 0 rfl rfl 7 (by decide) (hts (.fieldLink RY 22 "CausalGateModel" "wActors" "[I") (by decide +kernel)) (fun _ h9 => h9) rfl dY_isKnown_33 ?_
            refine lv_iload hx hb dY_isKnown_36 (lv_at hl 4 rfl) ?_
            refine va_iald hx hb hK hP 5 4 rfl rfl (vp_in_nI (by omega) (by decide)) dY_isKnown_38 ?_
            refine tp_i (y := nI ((w j).1 / 256)) (by rw [nI_clamp (by omega)]) ?_
            have hwj := hw j (by omega)
            refine lv_iload_n hx hb dY_isKnown_39 rfl (lv_at hl 1 rfl) ?_
            refine lv_icmp_ne (tgt := 58) hx hb dY_isKnown_40 (by decide) (fun c_40 => ?_) (fun c_40 => ?_)
            · have e8 : (b9 || (decide ((w j).1 / 256 = act) && decide ((w j).1 % 256 = q))) = false := by simp [hb9]; exact fun z => absurd (by rw [z]) c_40
              refine lv_iconst (v := 0) hx hb dY_isKnown_58 (by decide) ?_
              refine tp_i (y := bI (b9 || (decide ((w j).1 / 256 = act) && decide ((w j).1 % 256 = q)))) (by rw [e8]; rfl) ?_
              refine lv_istore_n (lv' := [(3, .int (bI (b9 || (decide ((w j).1 / 256 = act) && decide ((w j).1 % 256 = q))))), (0, .ref r0), (1, .int (nI act)), (2, .int (nI q)), (4, .int (nI j))]) hx hb dY_isKnown_59 rfl hl (by decide) rfl (fun ls hl => ?_)
              refine lv_iinc (v := (nI (j + 1))) (lv' := [(4, .int (nI (j + 1))), (3, .int (bI (b9 || (decide ((w j).1 / 256 = act) && decide ((w j).1 % 256 = q))))), (0, .ref r0), (1, .int (nI act)), (2, .int (nI q))]) hx hb dY_isKnown_60 hl (k := 4) rfl (nI_1 j) (by decide) rfl (fun ls hl => ?_)
              refine lv_goto (tgt := 19) hx hb dY_isKnown_63 (by decide) ?_
              exact ih (j + 1) (b9 || (decide ((w j).1 / 256 = act) && decide ((w j).1 % 256 = q))) (by omega) (by rw [← hk9]; rfl) ls (lv_sub hl [2, 3, 4, 1, 0] rfl)
            · have c7 : (w j).1 / 256 = act := (nI_eq (by omega) (by omega)).mp c_40
              refine lv_aload_n hx hb dY_isKnown_43 rfl (lv_at hl 0 rfl) ?_
              refine va_get (D := (dC, dI)) (ci := 1) (v := .ref b5) (C := RY) (T := TY) (N := 13) hx hb hts in_Y_isKnown_Y hown hK hP 0 rfl rfl 8 (by decide) (hts (.fieldLink RY 25 "CausalGateModel" "wSeqs" "[I") (by decide +kernel)) (fun _ h9 => h9) rfl dY_isKnown_44 ?_
              refine lv_iload hx hb dY_isKnown_47 (lv_at hl 4 rfl) ?_
              refine va_iald hx hb hK hP 6 5 rfl rfl (vp_in_nI (by omega) (by decide)) dY_isKnown_49 ?_
              refine tp_i (y := nI ((w j).1 % 256)) (by rw [nI_clamp (by omega)]) ?_
              refine lv_iload_n hx hb dY_isKnown_50 rfl (lv_at hl 2 rfl) ?_
              refine lv_icmp_ne (tgt := 58) hx hb dY_isKnown_51 (by decide) (fun c_51 => ?_) (fun c_51 => ?_)
              · have e8 : (b9 || (decide ((w j).1 / 256 = act) && decide ((w j).1 % 256 = q))) = false := by simp [hb9]; exact fun _ z => absurd (by rw [z]) c_51
                refine lv_iconst (v := 0) hx hb dY_isKnown_58 (by decide) ?_
                refine tp_i (y := bI (b9 || (decide ((w j).1 / 256 = act) && decide ((w j).1 % 256 = q)))) (by rw [e8]; rfl) ?_
                refine lv_istore_n (lv' := [(3, .int (bI (b9 || (decide ((w j).1 / 256 = act) && decide ((w j).1 % 256 = q))))), (0, .ref r0), (1, .int (nI act)), (2, .int (nI q)), (4, .int (nI j))]) hx hb dY_isKnown_59 rfl hl (by decide) rfl (fun ls hl => ?_)
                refine lv_iinc (v := (nI (j + 1))) (lv' := [(4, .int (nI (j + 1))), (3, .int (bI (b9 || (decide ((w j).1 / 256 = act) && decide ((w j).1 % 256 = q))))), (0, .ref r0), (1, .int (nI act)), (2, .int (nI q))]) hx hb dY_isKnown_60 hl (k := 4) rfl (nI_1 j) (by decide) rfl (fun ls hl => ?_)
                refine lv_goto (tgt := 19) hx hb dY_isKnown_63 (by decide) ?_
                exact ih (j + 1) (b9 || (decide ((w j).1 / 256 = act) && decide ((w j).1 % 256 = q))) (by omega) (by rw [← hk9]; rfl) ls (lv_sub hl [2, 3, 4, 1, 0] rfl)
              · have e8 : (b9 || (decide ((w j).1 / 256 = act) && decide ((w j).1 % 256 = q))) = true := by simp [hb9, c7, (nI_eq (by omega) (by omega)).mp c_51]
                refine lv_iconst (v := 1) hx hb dY_isKnown_54 (by decide) ?_
                refine tp_i (y := bI (b9 || (decide ((w j).1 / 256 = act) && decide ((w j).1 % 256 = q)))) (by rw [e8]; rfl) ?_
                refine lv_goto (tgt := 59) hx hb dY_isKnown_55 (by decide) ?_
                refine lv_istore_n (lv' := [(3, .int (bI (b9 || (decide ((w j).1 / 256 = act) && decide ((w j).1 % 256 = q))))), (0, .ref r0), (1, .int (nI act)), (2, .int (nI q)), (4, .int (nI j))]) hx hb dY_isKnown_59 rfl hl (by decide) rfl (fun ls hl => ?_)
                refine lv_iinc (v := (nI (j + 1))) (lv' := [(4, .int (nI (j + 1))), (3, .int (bI (b9 || (decide ((w j).1 / 256 = act) && decide ((w j).1 % 256 = q))))), (0, .ref r0), (1, .int (nI act)), (2, .int (nI q))]) hx hb dY_isKnown_60 hl (k := 4) rfl (nI_1 j) (by decide) rfl (fun ls hl => ?_)
                refine lv_goto (tgt := 19) hx hb dY_isKnown_63 (by decide) ?_
                exact ih (j + 1) (b9 || (decide ((w j).1 / 256 = act) && decide ((w j).1 % 256 = q))) (by omega) (by rw [← hk9]; rfl) ls (lv_sub hl [2, 3, 4, 1, 0] rfl)
    exact loop wn 0 _ (by omega) rfl ls (lv_sub hl [2, 3, 4, 1, 0] rfl)

set_option maxRecDepth 20000 in
theorem in_Y_ready_Y : ∀ w ∈ wsY0, w ∈ wsY_ready := by decide +kernel

set_option maxHeartbeats 4000000 in
set_option maxRecDepth 100000 in
theorem kY_ready (l : Launch) (dC : Nat → ClassId) (dI : Nat → Nat → Nat) (cb : Nat → ClassId) (r0 b0 b1 b2 b3 b4 b5 b6 b7 : Nat) (th : Int32) (cl : Nat → Nat) (t : TF) (tn : Nat) (w : WF) (wn : Nat) (ko mw : Nat) (hcl : ∀ a, a < 8 → cl a < 256) (hwn : wn ≤ 65) (hw : ∀ j, j < wn → (w j).1 < 2048)  : Met l yY_ready wsY_ready ({ frames := 3, cells := 0, slots := 0, locals := 71 }) (Pr [.ref r0] (dC, dI) clS [(cb 0, .int), (cb 1, .int), (cb 2, .int), (cb 3, .int), (cb 4, .int), (cb 5, .int), (cb 6, .long), (cb 7, .int)] [(r0, .inr (1, [.int th, .ref b0, .int (nI tn), .ref b1, .ref b2, .ref b3, .int (nI wn), .ref b4, .ref b5, .ref b6, .ref b7, .int (nI ko), .int (nI mw)])), (b0, .inl (cb 0, 8, .inl (fun z9 => nI (cl z9)))), (b1, .inl (cb 1, 2040, .inl (fun z9 => nI ((t z9).1 / 256)))), (b2, .inl (cb 2, 2040, .inl (fun z9 => nI ((t z9).1 % 256)))), (b3, .inl (cb 3, 2040, .inl (fun z9 => (t z9).2))), (b4, .inl (cb 4, 65, .inl (fun z9 => nI ((w z9).1 / 256)))), (b5, .inl (cb 5, 65, .inl (fun z9 => nI ((w z9).1 % 256)))), (b6, .inl (cb 6, 65, .inr (.inl (fun z9 => (w z9).2.1)))), (b7, .inl (cb 7, 65, .inl (fun z9 => (w z9).2.2)))]) (QcRead (oI (rdS cl w wn none))) 0 0 (fun _ => False) := by
  refine Met.ofW (cc := cY_ready) (maxL := 3) (ret := (some .int)) (by decide) rfl ?_
  intro p e s m args below meth c s₁ B hml hv
  obtain ⟨hargs, hP, hK⟩ := hv
  have hx := B.exec
  have hb := B.bytes
  have hr := B.returns
  have hts := atoms_spec (ws := wsY_ready) B.pre
  have hown : s.vm.findClass RY = some m.cls := findClass_of_methodNamed B.named
  have hlocks := B.notSynchronized
  have hP : va_P (dC, dI) clS [(r0, .inr (1, [.int th, .ref b0, .int (nI tn), .ref b1, .ref b2, .ref b3, .int (nI wn), .ref b4, .ref b5, .ref b6, .ref b7, .int (nI ko), .int (nI mw)])), (b0, .inl (cb 0, 8, .inl (fun z9 => nI (cl z9)))), (b1, .inl (cb 1, 2040, .inl (fun z9 => nI ((t z9).1 / 256)))), (b2, .inl (cb 2, 2040, .inl (fun z9 => nI ((t z9).1 % 256)))), (b3, .inl (cb 3, 2040, .inl (fun z9 => (t z9).2))), (b4, .inl (cb 4, 65, .inl (fun z9 => nI ((w z9).1 / 256)))), (b5, .inl (cb 5, 65, .inl (fun z9 => nI ((w z9).1 % 256)))), (b6, .inl (cb 6, 65, .inr (.inl (fun z9 => (w z9).2.1)))), (b7, .inl (cb 7, 65, .inl (fun z9 => (w z9).2.2)))] s.heap := hP
  have hl := lv_entry ([.ref r0]) (n := 3) (Nat.le_of_ble_eq_true rfl)
  have hE : entryFrame m args 3 = F0 m 0 ((lg_sl ([.ref r0]) ++ List.replicate (3 - (lg_sl ([.ref r0])).length) Slot.unset).toArray) [] := by rw [hargs]; exact lg_entry_eq m ([.ref r0]) 3
  rw [hE]
  generalize (lg_sl ([.ref r0]) ++ List.replicate (3 - (lg_sl ([.ref r0])).length) Slot.unset).toArray = ls at hl ⊢
  have hl : lv_has ls 3 [(0, .ref r0)] := hl
  refine lv_iconst (v := -1) hx hb dY_ready_0 (by decide) ?_
  refine tp_i (y := oI none) (rfl) ?_
  refine lv_istore_n (lv' := [(1, .int (oI none)), (0, .ref r0)]) hx hb dY_ready_1 rfl hl (by decide) rfl (fun ls hl => ?_)
  refine lv_aload_n hx hb dY_ready_2 rfl (lv_at hl 1 rfl) ?_
  refine va_get (D := (dC, dI)) (ci := 1) (v := .int (nI wn)) (C := RY) (T := TY) (N := 13) hx hb hts in_Y_ready_Y hown hK hP 0 rfl rfl 6 (by decide) (hts (.fieldLink RY 49 "CausalGateModel" "waiting" "I") (by decide +kernel)) (fun _ h9 => h9) rfl dY_ready_3 ?_
  refine lv_iconst (v := 1) hx hb dY_ready_6 (by decide) ?_
  refine lv_isub hx hb dY_ready_7 ?_
  refine tp_i (y := dN wn) (dN_sub wn) ?_
  refine lv_istore_n (lv' := [(2, .int (dN wn)), (1, .int (oI none)), (0, .ref r0)]) hx hb dY_ready_8 rfl hl (by decide) rfl (fun ls hl => ?_)
  have loop : ∀ (n : Nat) (f : Option Nat), n ≤ wn → rdS cl w n f = rdS cl w wn none → ∀ ls : Array Slot, lv_has ls 3 [(0, .ref r0), (1, .int (oI f)), (2, .int (dN n))] → W p l e (headSpec wsY_ready ({ frames := 3, cells := 0, slots := 0, locals := 71 })).room s m args below meth c s.heap [] 0 0 (MQ below (QcRead (oI (rdS cl w wn none))) args s 0 0 (fun _ => False)) (F0 m 9 ls []) := by
    intro n
    induction n with
    | zero =>
      intro f hn hk9 ls hl
      have hl : lv_has ls 3 [(0, .ref r0), (1, .int (oI f)), (2, .int (-1))] := hl
      refine lv_iload_n hx hb dY_ready_9 rfl (lv_at hl 2 rfl) ?_
      refine lv_if_lt (tgt := 50) hx hb dY_ready_10 (by decide) (fun c_10 => ?_) (fun c_10 => ?_)
      · refine lv_iload_n hx hb dY_ready_50 rfl (lv_at hl 1 rfl) ?_
        exact ri_ret hx hb hr hlocks (by rw [← hk9]; rfl) dY_ready_51
      · exact absurd (by decide) c_10
    | succ n ih =>
      intro f hn hk9 ls hl
      have hl : lv_has ls 3 [(0, .ref r0), (1, .int (oI f)), (2, .int (nI n))] := hl
      refine lv_iload_n hx hb dY_ready_9 rfl (lv_at hl 2 rfl) ?_
      refine lv_if_lt (tgt := 50) hx hb dY_ready_10 (by decide) (fun c_10 => ?_) (fun c_10 => ?_)
      · exact absurd c_10 (nI_pos (by omega))
      · refine lv_aload_n hx hb dY_ready_13 rfl (lv_at hl 0 rfl) ?_
        refine lv_aload_n hx hb dY_ready_14 rfl (lv_at hl 0 rfl) ?_
        refine va_get (D := (dC, dI)) (ci := 1) (v := .ref b4) (C := RY) (T := TY) (N := 13) hx hb hts in_Y_ready_Y hown hK hP 0 rfl rfl 7 (by decide) (hts (.fieldLink RY 22 "CausalGateModel" "wActors" "[I") (by decide +kernel)) (fun _ h9 => h9) rfl dY_ready_15 ?_
        refine lv_iload_n hx hb dY_ready_18 rfl (lv_at hl 2 rfl) ?_
        refine va_iald hx hb hK hP 5 4 rfl rfl (vp_in_nI (by omega) (by decide)) dY_ready_19 ?_
        refine tp_i (y := nI ((w n).1 / 256)) (by rw [nI_clamp (by omega)]) ?_
        have hwj := hw n (by omega)
        refine lv_aload_n hx hb dY_ready_20 rfl (lv_at hl 0 rfl) ?_
        refine va_get (D := (dC, dI)) (ci := 1) (v := .ref b5) (C := RY) (T := TY) (N := 13) hx hb hts in_Y_ready_Y hown hK hP 0 rfl rfl 8 (by decide) (hts (.fieldLink RY 25 "CausalGateModel" "wSeqs" "[I") (by decide +kernel)) (fun _ h9 => h9) rfl dY_ready_21 ?_
        refine lv_iload_n hx hb dY_ready_24 rfl (lv_at hl 2 rfl) ?_
        refine va_iald hx hb hK hP 6 5 rfl rfl (vp_in_nI (by omega) (by decide)) dY_ready_25 ?_
        refine tp_i (y := nI ((w n).1 % 256)) (by rw [nI_clamp (by omega)]) ?_
        refine lv_aload_n hx hb dY_ready_26 rfl (lv_at hl 0 rfl) ?_
        refine va_get (D := (dC, dI)) (ci := 1) (v := .ref b6) (C := RY) (T := TY) (N := 13) hx hb hts in_Y_ready_Y hown hK hP 0 rfl rfl 9 (by decide) (hts (.fieldLink RY 28 "CausalGateModel" "wClocks" "[J") (by decide +kernel)) (fun _ h9 => h9) rfl dY_ready_27 ?_
        refine lv_iload_n hx hb dY_ready_30 rfl (lv_at hl 2 rfl) ?_
        refine va_lald hx hb hK hP 7 6 rfl rfl (vp_in_nI (by omega) (by decide)) dY_ready_31 ?_
        refine tp_l (y := (w n).2.1) (by rw [nI_clamp (by omega)]) ?_
        refine rd_i (W.runV (As := [.int (nI ((w n).1 / 256)), .int (nI ((w n).1 % 256)), .long ((w n).2.1)]) (rest := []) ⟨hx, hb, hml, hown, hts⟩ (kY_canCome l dC dI cb r0 b0 b1 b2 b3 b4 b5 b6 b7 th cl t tn w wn ko mw hcl ((w n).1 / 256) ((w n).1 % 256) ((w n).2.1) (by omega) (by omega)) (cwV 3 hts gY_ready_Y_canCome rfl rfl rfl (by decide +kernel) ⟨Nat.le_of_ble_eq_true rfl, Nat.le_of_ble_eq_true rfl⟩) (pr_V (ci := 1) (q0 := 0) hK hP rfl rfl) rfl rfl hl.1 rfl (lv_room (Nat.le_of_ble_eq_true rfl)) dY_ready_32 ⟨Nat.zero_le _, Nat.zero_le _⟩) ?_
        refine lv_if_eq (tgt := 42) hx hb dY_ready_35 (by decide) (fun c_35 => ?_) (fun c_35 => ?_)
        · have c7 : ¬ (cnM cl ((w n).1 / 256) ((w n).1 % 256) (w n).2.1 = true) := by rw [bI_0.mp c_35]; decide
          refine lv_iload_n hx hb dY_ready_42 rfl (lv_at hl 1 rfl) ?_
          refine tp_i (y := oI (if cnM cl ((w n).1 / 256) ((w n).1 % 256) (w n).2.1 = true then some n else f)) (by rw [if_neg c7]) ?_
          refine lv_istore_n (lv' := [(1, .int (oI (if cnM cl ((w n).1 / 256) ((w n).1 % 256) (w n).2.1 = true then some n else f))), (0, .ref r0), (2, .int (nI n))]) hx hb dY_ready_43 rfl hl (by decide) rfl (fun ls hl => ?_)
          refine lv_iinc (v := (dN n)) (lv' := [(2, .int (dN n)), (1, .int (oI (if cnM cl ((w n).1 / 256) ((w n).1 % 256) (w n).2.1 = true then some n else f))), (0, .ref r0)]) hx hb dY_ready_44 hl (k := 2) rfl (dN_dec n) (by decide) rfl (fun ls hl => ?_)
          refine lv_goto (tgt := 9) hx hb dY_ready_47 (by decide) ?_
          exact ih _ (by omega) (by rw [← hk9]; rfl) ls (lv_sub hl [2, 1, 0] rfl)
        · have c7 : cnM cl ((w n).1 / 256) ((w n).1 % 256) (w n).2.1 = true := by cases hq : cnM cl ((w n).1 / 256) ((w n).1 % 256) (w n).2.1; exact absurd (by rw [hq]; rfl) c_35; rfl
          refine lv_iload_n hx hb dY_ready_38 rfl (lv_at hl 2 rfl) ?_
          refine lv_goto (tgt := 43) hx hb dY_ready_39 (by decide) ?_
          refine tp_i (y := oI (if cnM cl ((w n).1 / 256) ((w n).1 % 256) (w n).2.1 = true then some n else f)) (by rw [if_pos c7]; rfl) ?_
          refine lv_istore_n (lv' := [(1, .int (oI (if cnM cl ((w n).1 / 256) ((w n).1 % 256) (w n).2.1 = true then some n else f))), (0, .ref r0), (2, .int (nI n))]) hx hb dY_ready_43 rfl hl (by decide) rfl (fun ls hl => ?_)
          refine lv_iinc (v := (dN n)) (lv' := [(2, .int (dN n)), (1, .int (oI (if cnM cl ((w n).1 / 256) ((w n).1 % 256) (w n).2.1 = true then some n else f))), (0, .ref r0)]) hx hb dY_ready_44 hl (k := 2) rfl (dN_dec n) (by decide) rfl (fun ls hl => ?_)
          refine lv_goto (tgt := 9) hx hb dY_ready_47 (by decide) ?_
          exact ih _ (by omega) (by rw [← hk9]; rfl) ls (lv_sub hl [2, 1, 0] rfl)
  exact loop wn none (Nat.le_refl _) rfl ls (lv_sub hl [2, 1, 0] rfl)

set_option maxRecDepth 20000 in
theorem in_Y_lacks_Y : ∀ w ∈ wsY0, w ∈ wsY_lacks := by decide +kernel

set_option maxHeartbeats 4000000 in
set_option maxRecDepth 100000 in
theorem kY_lacks (l : Launch) (dC : Nat → ClassId) (dI : Nat → Nat → Nat) (cb : Nat → ClassId) (r0 b0 b1 b2 b3 b4 b5 b6 b7 : Nat) (th : Int32) (cl : Nat → Nat) (t : TF) (tn : Nat) (w : WF) (wn : Nat) (ko mw : Nat) (htn : tn ≤ 2040) (ht : ∀ j, j < tn → (t j).1 < 2048) (ck : Int64) (j : Nat) (hj : j < tn) : Met l yY_lacks wsY_lacks ({ frames := 1, cells := 0, slots := 0, locals := 22 }) (Pr [.ref r0, .long ck, .int (nI j)] (dC, dI) clS [(cb 0, .int), (cb 1, .int), (cb 2, .int), (cb 3, .int), (cb 4, .int), (cb 5, .int), (cb 6, .long), (cb 7, .int)] [(r0, .inr (1, [.int th, .ref b0, .int (nI tn), .ref b1, .ref b2, .ref b3, .int (nI wn), .ref b4, .ref b5, .ref b6, .ref b7, .int (nI ko), .int (nI mw)])), (b0, .inl (cb 0, 8, .inl (fun z9 => nI (cl z9)))), (b1, .inl (cb 1, 2040, .inl (fun z9 => nI ((t z9).1 / 256)))), (b2, .inl (cb 2, 2040, .inl (fun z9 => nI ((t z9).1 % 256)))), (b3, .inl (cb 3, 2040, .inl (fun z9 => (t z9).2))), (b4, .inl (cb 4, 65, .inl (fun z9 => nI ((w z9).1 / 256)))), (b5, .inl (cb 5, 65, .inl (fun z9 => nI ((w z9).1 % 256)))), (b6, .inl (cb 6, 65, .inr (.inl (fun z9 => (w z9).2.1)))), (b7, .inl (cb 7, 65, .inl (fun z9 => (w z9).2.2)))]) (QcRead (bI (lcM t ck j))) 0 0 (fun _ => False) := by
  refine Met.ofW (cc := cY_lacks) (maxL := 4) (ret := (some .boolean)) (by decide) rfl ?_
  intro p e s m args below meth c s₁ B hml hv
  obtain ⟨hargs, hP, hK⟩ := hv
  have hx := B.exec
  have hb := B.bytes
  have hr := B.returns
  have hts := atoms_spec (ws := wsY_lacks) B.pre
  have hown : s.vm.findClass RY = some m.cls := findClass_of_methodNamed B.named
  have hlocks := B.notSynchronized
  have hP : va_P (dC, dI) clS [(r0, .inr (1, [.int th, .ref b0, .int (nI tn), .ref b1, .ref b2, .ref b3, .int (nI wn), .ref b4, .ref b5, .ref b6, .ref b7, .int (nI ko), .int (nI mw)])), (b0, .inl (cb 0, 8, .inl (fun z9 => nI (cl z9)))), (b1, .inl (cb 1, 2040, .inl (fun z9 => nI ((t z9).1 / 256)))), (b2, .inl (cb 2, 2040, .inl (fun z9 => nI ((t z9).1 % 256)))), (b3, .inl (cb 3, 2040, .inl (fun z9 => (t z9).2))), (b4, .inl (cb 4, 65, .inl (fun z9 => nI ((w z9).1 / 256)))), (b5, .inl (cb 5, 65, .inl (fun z9 => nI ((w z9).1 % 256)))), (b6, .inl (cb 6, 65, .inr (.inl (fun z9 => (w z9).2.1)))), (b7, .inl (cb 7, 65, .inl (fun z9 => (w z9).2.2)))] s.heap := hP
  have hl := lv_entry ([.ref r0, .long ck, .int (nI j)]) (n := 4) (Nat.le_of_ble_eq_true rfl)
  have hE : entryFrame m args 4 = F0 m 0 ((lg_sl ([.ref r0, .long ck, .int (nI j)]) ++ List.replicate (4 - (lg_sl ([.ref r0, .long ck, .int (nI j)])).length) Slot.unset).toArray) [] := by rw [hargs]; exact lg_entry_eq m ([.ref r0, .long ck, .int (nI j)]) 4
  rw [hE]
  generalize (lg_sl ([.ref r0, .long ck, .int (nI j)]) ++ List.replicate (4 - (lg_sl ([.ref r0, .long ck, .int (nI j)])).length) Slot.unset).toArray = ls at hl ⊢
  have hl : lv_has ls 4 [(0, .ref r0), (1, .long ck), (3, .int (nI j))] := hl
  have htj := ht j hj
  refine lv_aload_n hx hb dY_lacks_0 rfl (lv_at hl 0 rfl) ?_
  refine va_get (D := (dC, dI)) (ci := 1) (v := .ref b2) (C := RY) (T := TY) (N := 13) hx hb hts in_Y_lacks_Y hown hK hP 0 rfl rfl 4 (by decide) (hts (.fieldLink RY 16 "CausalGateModel" "seqs" "[I") (by decide +kernel)) (fun _ h9 => h9) rfl dY_lacks_1 ?_
  refine lv_iload_n hx hb dY_lacks_4 rfl (lv_at hl 2 rfl) ?_
  refine va_iald hx hb hK hP 3 2 rfl rfl (vp_in_nI (by omega) (by decide)) dY_lacks_5 ?_
  refine tp_i (y := nI ((t j).1 % 256)) (by rw [nI_clamp (by omega)]) ?_
  refine lv_lload_n hx hb dY_lacks_6 rfl (lv_at hl 1 rfl) ?_
  refine lv_aload_n hx hb dY_lacks_7 rfl (lv_at hl 0 rfl) ?_
  refine va_get (D := (dC, dI)) (ci := 1) (v := .ref b1) (C := RY) (T := TY) (N := 13) hx hb hts in_Y_lacks_Y hown hK hP 0 rfl rfl 3 (by decide) (hts (.fieldLink RY 13 "CausalGateModel" "actors" "[I") (by decide +kernel)) (fun _ h9 => h9) rfl dY_lacks_8 ?_
  refine lv_iload_n hx hb dY_lacks_11 rfl (lv_at hl 2 rfl) ?_
  refine va_iald hx hb hK hP 2 1 rfl rfl (vp_in_nI (by omega) (by decide)) dY_lacks_12 ?_
  refine tp_i (y := nI ((t j).1 / 256)) (by rw [nI_clamp (by omega)]) ?_
  refine rd_i (W.runS (As := [.long ck, .int (nI ((t j).1 / 256))]) (rest := [.int (nI ((t j).1 % 256))]) ⟨hx, hb, hml, hown, hts⟩ (kY_part l ck ((t j).1 / 256) (by omega)) (va_cwS 2 hts gY_lacks_Y_part rfl rfl rfl (by decide +kernel) ⟨Nat.le_of_ble_eq_true rfl, Nat.le_of_ble_eq_true rfl⟩) preEq rfl rfl hl.1 rfl (lv_room (Nat.le_of_ble_eq_true rfl)) dY_lacks_13 ⟨Nat.zero_le _, Nat.zero_le _⟩) ?_
  refine lv_icmp_le (tgt := 23) hx hb dY_lacks_16 (by decide) (fun c_16 => ?_) (fun c_16 => ?_)
  · have c9 : lcM t ck j = false := decide_eq_false (Nat.not_lt.mpr ((nI_leI (by have := by_lt ck ((t j).1 / 256); omega) (by have := by_lt ck ((t j).1 / 256); omega)).mp c_16))
    refine lv_iconst (v := 0) hx hb dY_lacks_23 (by decide) ?_
    exact rz_ret hx hb hr hlocks (rfl) (by rw [c9]; rfl) dY_lacks_24
  · have c9 : lcM t ck j = true := decide_eq_true (Nat.lt_of_not_le fun z => c_16 (nI_le z (by have := by_lt ck ((t j).1 / 256); omega)))
    refine lv_iconst (v := 1) hx hb dY_lacks_19 (by decide) ?_
    refine lv_goto (tgt := 24) hx hb dY_lacks_20 (by decide) ?_
    exact rz_ret hx hb hr hlocks (rfl) (by rw [c9]; rfl) dY_lacks_24
end
section
set_option maxRecDepth 20000 in
theorem in_Y_comes_Y : ∀ w ∈ wsY0, w ∈ wsY_comes := by decide +kernel

set_option maxHeartbeats 4000000 in
set_option maxRecDepth 100000 in
theorem kY_comes (l : Launch) (dC : Nat → ClassId) (dI : Nat → Nat → Nat) (cb : Nat → ClassId) (r0 b0 b1 b2 b3 b4 b5 b6 b7 : Nat) (th : Int32) (cl : Nat → Nat) (t : TF) (tn : Nat) (w : WF) (wn : Nat) (ko mw : Nat) (sz : Nat) (a q : Nat) (lb : Int32) (ha : a < 8) (hq : q < 256) (htn : tn < 2040) : Met l yY_comes wsY_comes ({ frames := 0, cells := 0, slots := 0, locals := 0 }) (Pm [.ref r0, .int (nI a), .int (nI q), .int lb] (dC, dI) clS [(cb 0, .int), (cb 1, .int), (cb 2, .int), (cb 3, .int), (cb 4, .int), (cb 5, .int), (cb 6, .long), (cb 7, .int)] [(r0, .inr (1, [.int th, .ref b0, .int (nI tn), .ref b1, .ref b2, .ref b3, .int (nI wn), .ref b4, .ref b5, .ref b6, .ref b7, .int (nI ko), .int (nI mw)])), (b0, .inl (cb 0, 8, .inl (fun z9 => nI (cl z9)))), (b1, .inl (cb 1, 2040, .inl (fun z9 => nI ((t z9).1 / 256)))), (b2, .inl (cb 2, 2040, .inl (fun z9 => nI ((t z9).1 % 256)))), (b3, .inl (cb 3, 2040, .inl (fun z9 => (t z9).2))), (b4, .inl (cb 4, 65, .inl (fun z9 => nI ((w z9).1 / 256)))), (b5, .inl (cb 5, 65, .inl (fun z9 => nI ((w z9).1 % 256)))), (b6, .inl (cb 6, 65, .inr (.inl (fun z9 => (w z9).2.1)))), (b7, .inl (cb 7, 65, .inl (fun z9 => (w z9).2.2)))] sz) (QmV (dC, dI) clS [(r0, .inr (1, [.int th, .ref b0, .int (nI tn), .ref b1, .ref b2, .ref b3, .int (nI wn), .ref b4, .ref b5, .ref b6, .ref b7, .int (nI ko), .int (nI mw)])), (b0, .inl (cb 0, 8, .inl (fun z9 => nI (cl z9)))), (b1, .inl (cb 1, 2040, .inl (fun z9 => nI ((t z9).1 / 256)))), (b2, .inl (cb 2, 2040, .inl (fun z9 => nI ((t z9).1 % 256)))), (b3, .inl (cb 3, 2040, .inl (fun z9 => (t z9).2))), (b4, .inl (cb 4, 65, .inl (fun z9 => nI ((w z9).1 / 256)))), (b5, .inl (cb 5, 65, .inl (fun z9 => nI ((w z9).1 % 256)))), (b6, .inl (cb 6, 65, .inr (.inl (fun z9 => (w z9).2.1)))), (b7, .inl (cb 7, 65, .inl (fun z9 => (w z9).2.2)))] [(r0, .inr (1, [.int th, .ref b0, .int (nI (tn + 1)), .ref b1, .ref b2, .ref b3, .int (nI wn), .ref b4, .ref b5, .ref b6, .ref b7, .int (nI ko), .int (nI mw)])), (b0, .inl (cb 0, 8, .inl (fun z9 => nI ((va_up cl a q) z9)))), (b1, .inl (cb 1, 2040, .inl (fun z9 => nI (((va_up t tn (a * 256 + q, lb)) z9).1 / 256)))), (b2, .inl (cb 2, 2040, .inl (fun z9 => nI (((va_up t tn (a * 256 + q, lb)) z9).1 % 256)))), (b3, .inl (cb 3, 2040, .inl (fun z9 => ((va_up t tn (a * 256 + q, lb)) z9).2))), (b4, .inl (cb 4, 65, .inl (fun z9 => nI ((w z9).1 / 256)))), (b5, .inl (cb 5, 65, .inl (fun z9 => nI ((w z9).1 % 256)))), (b6, .inl (cb 6, 65, .inr (.inl (fun z9 => (w z9).2.1)))), (b7, .inl (cb 7, 65, .inl (fun z9 => (w z9).2.2)))] sz) 0 0 (va_A [(r0, .inr (1, [.int th, .ref b0, .int (nI tn), .ref b1, .ref b2, .ref b3, .int (nI wn), .ref b4, .ref b5, .ref b6, .ref b7, .int (nI ko), .int (nI mw)])), (b0, .inl (cb 0, 8, .inl (fun z9 => nI (cl z9)))), (b1, .inl (cb 1, 2040, .inl (fun z9 => nI ((t z9).1 / 256)))), (b2, .inl (cb 2, 2040, .inl (fun z9 => nI ((t z9).1 % 256)))), (b3, .inl (cb 3, 2040, .inl (fun z9 => (t z9).2))), (b4, .inl (cb 4, 65, .inl (fun z9 => nI ((w z9).1 / 256)))), (b5, .inl (cb 5, 65, .inl (fun z9 => nI ((w z9).1 % 256)))), (b6, .inl (cb 6, 65, .inr (.inl (fun z9 => (w z9).2.1)))), (b7, .inl (cb 7, 65, .inl (fun z9 => (w z9).2.2)))] sz) := by
  refine Met.ofW (cc := cY_comes) (maxL := 4) (ret := none) (by decide) rfl ?_
  intro p e s m args below meth c s₁ B hml hv
  obtain ⟨hargs, hsz, hP, hK, hD0⟩ := hv
  have hx := B.exec
  have hb := B.bytes
  have hr := B.returns
  have hts := atoms_spec (ws := wsY_comes) B.pre
  have hown : s.vm.findClass RY = some m.cls := findClass_of_methodNamed B.named
  have hlocks := B.notSynchronized
  subst hsz
  have hD := hD0.self (sz := s.heap.size)
  obtain ⟨A, hAe⟩ : ∃ A, A = va_A [(r0, .inr (1, [.int th, .ref b0, .int (nI tn), .ref b1, .ref b2, .ref b3, .int (nI wn), .ref b4, .ref b5, .ref b6, .ref b7, .int (nI ko), .int (nI mw)])), (b0, .inl (cb 0, 8, .inl (fun z9 => nI (cl z9)))), (b1, .inl (cb 1, 2040, .inl (fun z9 => nI ((t z9).1 / 256)))), (b2, .inl (cb 2, 2040, .inl (fun z9 => nI ((t z9).1 % 256)))), (b3, .inl (cb 3, 2040, .inl (fun z9 => (t z9).2))), (b4, .inl (cb 4, 65, .inl (fun z9 => nI ((w z9).1 / 256)))), (b5, .inl (cb 5, 65, .inl (fun z9 => nI ((w z9).1 % 256)))), (b6, .inl (cb 6, 65, .inr (.inl (fun z9 => (w z9).2.1)))), (b7, .inl (cb 7, 65, .inl (fun z9 => (w z9).2.2)))] s.heap.size := ⟨_, rfl⟩
  rw [← hAe] at hD ⊢
  have hA : ∀ q : Nat, s.heap.size ≤ q → A q := fun q h => by rw [hAe]; exact Or.inr h
  have hS : va_S A s.heap s.heap [] := va_S.rf
  have hP : va_P (dC, dI) clS [(r0, .inr (1, [.int th, .ref b0, .int (nI tn), .ref b1, .ref b2, .ref b3, .int (nI wn), .ref b4, .ref b5, .ref b6, .ref b7, .int (nI ko), .int (nI mw)])), (b0, .inl (cb 0, 8, .inl (fun z9 => nI (cl z9)))), (b1, .inl (cb 1, 2040, .inl (fun z9 => nI ((t z9).1 / 256)))), (b2, .inl (cb 2, 2040, .inl (fun z9 => nI ((t z9).1 % 256)))), (b3, .inl (cb 3, 2040, .inl (fun z9 => (t z9).2))), (b4, .inl (cb 4, 65, .inl (fun z9 => nI ((w z9).1 / 256)))), (b5, .inl (cb 5, 65, .inl (fun z9 => nI ((w z9).1 % 256)))), (b6, .inl (cb 6, 65, .inr (.inl (fun z9 => (w z9).2.1)))), (b7, .inl (cb 7, 65, .inl (fun z9 => (w z9).2.2)))] s.heap := hP
  have hl := lv_entry ([.ref r0, .int (nI a), .int (nI q), .int lb]) (n := 4) (Nat.le_of_ble_eq_true rfl)
  have hE : entryFrame m args 4 = F0 m 0 ((lg_sl ([.ref r0, .int (nI a), .int (nI q), .int lb]) ++ List.replicate (4 - (lg_sl ([.ref r0, .int (nI a), .int (nI q), .int lb])).length) Slot.unset).toArray) [] := by rw [hargs]; exact lg_entry_eq m ([.ref r0, .int (nI a), .int (nI q), .int lb]) 4
  rw [hE]
  generalize (lg_sl ([.ref r0, .int (nI a), .int (nI q), .int lb]) ++ List.replicate (4 - (lg_sl ([.ref r0, .int (nI a), .int (nI q), .int lb])).length) Slot.unset).toArray = ls at hl ⊢
  have hl : lv_has ls 4 [(0, .ref r0), (1, .int (nI a)), (2, .int (nI q)), (3, .int lb)] := hl
  refine lv_aload_n hx hb dY_comes_0 rfl (lv_at hl 0 rfl) ?_
  refine va_get (D := (dC, dI)) (ci := 1) (v := .ref b1) (C := RY) (T := TY) (N := 13) hx hb hts in_Y_comes_Y hown hK hP 0 rfl rfl 3 (by decide) (hts (.fieldLink RY 13 "CausalGateModel" "actors" "[I") (by decide +kernel)) (fun _ h9 => h9) rfl dY_comes_1 ?_
  refine lv_aload_n hx hb dY_comes_4 rfl (lv_at hl 0 rfl) ?_
  refine va_get (D := (dC, dI)) (ci := 1) (v := .int (nI tn)) (C := RY) (T := TY) (N := 13) hx hb hts in_Y_comes_Y hown hK hP 0 rfl rfl 2 (by decide) (hts (.fieldLink RY 52 "CausalGateModel" "through" "I") (by decide +kernel)) (fun _ h9 => h9) rfl dY_comes_5 ?_
  refine lv_iload_n hx hb dY_comes_8 rfl (lv_at hl 1 rfl) ?_
  refine va_iast hx hb hK hP hD hS 2 1 rfl rfl (vp_in_nI (by omega) (by decide)) dY_comes_9 (fun H locs hP hD hS => ?_)
  rw [show upd (fun z9 => nI ((t z9).1 / 256)) (nI tn).toNatClampNeg (nI a) = fun z9 => nI ((va_up t tn (a * 256 + q, lb) z9).1 / 256) from by rw [nI_clamp (by omega)]; have h : upd (fun z9 => nI ((t z9).1 / 256)) tn (nI ((a * 256 + q) / 256)) = _ := ut_a t tn (a * 256 + q, lb); rw [key_d hq] at h; exact h] at hP hD
  have hP : va_P (dC, dI) clS [(r0, .inr (1, [.int th, .ref b0, .int (nI tn), .ref b1, .ref b2, .ref b3, .int (nI wn), .ref b4, .ref b5, .ref b6, .ref b7, .int (nI ko), .int (nI mw)])), (b0, .inl (cb 0, 8, .inl (fun z9 => nI (cl z9)))), (b1, .inl (cb 1, 2040, .inl (fun z9 => nI ((va_up t tn (a * 256 + q, lb) z9).1 / 256)))), (b2, .inl (cb 2, 2040, .inl (fun z9 => nI ((t z9).1 % 256)))), (b3, .inl (cb 3, 2040, .inl (fun z9 => (t z9).2))), (b4, .inl (cb 4, 65, .inl (fun z9 => nI ((w z9).1 / 256)))), (b5, .inl (cb 5, 65, .inl (fun z9 => nI ((w z9).1 % 256)))), (b6, .inl (cb 6, 65, .inr (.inl (fun z9 => (w z9).2.1)))), (b7, .inl (cb 7, 65, .inl (fun z9 => (w z9).2.2)))] H := hP
  have hD : va_D A [(r0, .inr (1, [.int th, .ref b0, .int (nI tn), .ref b1, .ref b2, .ref b3, .int (nI wn), .ref b4, .ref b5, .ref b6, .ref b7, .int (nI ko), .int (nI mw)])), (b0, .inl (cb 0, 8, .inl (fun z9 => nI (cl z9)))), (b1, .inl (cb 1, 2040, .inl (fun z9 => nI ((va_up t tn (a * 256 + q, lb) z9).1 / 256)))), (b2, .inl (cb 2, 2040, .inl (fun z9 => nI ((t z9).1 % 256)))), (b3, .inl (cb 3, 2040, .inl (fun z9 => (t z9).2))), (b4, .inl (cb 4, 65, .inl (fun z9 => nI ((w z9).1 / 256)))), (b5, .inl (cb 5, 65, .inl (fun z9 => nI ((w z9).1 % 256)))), (b6, .inl (cb 6, 65, .inr (.inl (fun z9 => (w z9).2.1)))), (b7, .inl (cb 7, 65, .inl (fun z9 => (w z9).2.2)))] := hD
  refine lv_aload_n hx hb dY_comes_10 rfl (lv_at hl 0 rfl) ?_
  refine va_get (D := (dC, dI)) (ci := 1) (v := .ref b2) (C := RY) (T := TY) (N := 13) hx hb hts in_Y_comes_Y hown hK hP 0 rfl rfl 4 (by decide) (hts (.fieldLink RY 16 "CausalGateModel" "seqs" "[I") (by decide +kernel)) (fun _ h9 => h9) rfl dY_comes_11 ?_
  refine lv_aload_n hx hb dY_comes_14 rfl (lv_at hl 0 rfl) ?_
  refine va_get (D := (dC, dI)) (ci := 1) (v := .int (nI tn)) (C := RY) (T := TY) (N := 13) hx hb hts in_Y_comes_Y hown hK hP 0 rfl rfl 2 (by decide) (hts (.fieldLink RY 52 "CausalGateModel" "through" "I") (by decide +kernel)) (fun _ h9 => h9) rfl dY_comes_15 ?_
  refine lv_iload_n hx hb dY_comes_18 rfl (lv_at hl 2 rfl) ?_
  refine va_iast hx hb hK hP hD hS 3 2 rfl rfl (vp_in_nI (by omega) (by decide)) dY_comes_19 (fun H locs hP hD hS => ?_)
  rw [show upd (fun z9 => nI ((t z9).1 % 256)) (nI tn).toNatClampNeg (nI q) = fun z9 => nI ((va_up t tn (a * 256 + q, lb) z9).1 % 256) from by rw [nI_clamp (by omega)]; have h : upd (fun z9 => nI ((t z9).1 % 256)) tn (nI ((a * 256 + q) % 256)) = _ := ut_s t tn (a * 256 + q, lb); rw [key_m hq] at h; exact h] at hP hD
  have hP : va_P (dC, dI) clS [(r0, .inr (1, [.int th, .ref b0, .int (nI tn), .ref b1, .ref b2, .ref b3, .int (nI wn), .ref b4, .ref b5, .ref b6, .ref b7, .int (nI ko), .int (nI mw)])), (b0, .inl (cb 0, 8, .inl (fun z9 => nI (cl z9)))), (b1, .inl (cb 1, 2040, .inl (fun z9 => nI ((va_up t tn (a * 256 + q, lb) z9).1 / 256)))), (b2, .inl (cb 2, 2040, .inl (fun z9 => nI ((va_up t tn (a * 256 + q, lb) z9).1 % 256)))), (b3, .inl (cb 3, 2040, .inl (fun z9 => (t z9).2))), (b4, .inl (cb 4, 65, .inl (fun z9 => nI ((w z9).1 / 256)))), (b5, .inl (cb 5, 65, .inl (fun z9 => nI ((w z9).1 % 256)))), (b6, .inl (cb 6, 65, .inr (.inl (fun z9 => (w z9).2.1)))), (b7, .inl (cb 7, 65, .inl (fun z9 => (w z9).2.2)))] H := hP
  have hD : va_D A [(r0, .inr (1, [.int th, .ref b0, .int (nI tn), .ref b1, .ref b2, .ref b3, .int (nI wn), .ref b4, .ref b5, .ref b6, .ref b7, .int (nI ko), .int (nI mw)])), (b0, .inl (cb 0, 8, .inl (fun z9 => nI (cl z9)))), (b1, .inl (cb 1, 2040, .inl (fun z9 => nI ((va_up t tn (a * 256 + q, lb) z9).1 / 256)))), (b2, .inl (cb 2, 2040, .inl (fun z9 => nI ((va_up t tn (a * 256 + q, lb) z9).1 % 256)))), (b3, .inl (cb 3, 2040, .inl (fun z9 => (t z9).2))), (b4, .inl (cb 4, 65, .inl (fun z9 => nI ((w z9).1 / 256)))), (b5, .inl (cb 5, 65, .inl (fun z9 => nI ((w z9).1 % 256)))), (b6, .inl (cb 6, 65, .inr (.inl (fun z9 => (w z9).2.1)))), (b7, .inl (cb 7, 65, .inl (fun z9 => (w z9).2.2)))] := hD
  refine lv_aload_n hx hb dY_comes_20 rfl (lv_at hl 0 rfl) ?_
  refine va_get (D := (dC, dI)) (ci := 1) (v := .ref b3) (C := RY) (T := TY) (N := 13) hx hb hts in_Y_comes_Y hown hK hP 0 rfl rfl 5 (by decide) (hts (.fieldLink RY 19 "CausalGateModel" "labels" "[I") (by decide +kernel)) (fun _ h9 => h9) rfl dY_comes_21 ?_
  refine lv_aload_n hx hb dY_comes_24 rfl (lv_at hl 0 rfl) ?_
  refine va_get (D := (dC, dI)) (ci := 1) (v := .int (nI tn)) (C := RY) (T := TY) (N := 13) hx hb hts in_Y_comes_Y hown hK hP 0 rfl rfl 2 (by decide) (hts (.fieldLink RY 52 "CausalGateModel" "through" "I") (by decide +kernel)) (fun _ h9 => h9) rfl dY_comes_25 ?_
  refine lv_iload_n hx hb dY_comes_28 rfl (lv_at hl 3 rfl) ?_
  refine va_iast hx hb hK hP hD hS 4 3 rfl rfl (vp_in_nI (by omega) (by decide)) dY_comes_29 (fun H locs hP hD hS => ?_)
  rw [show upd (fun z9 => (t z9).2) (nI tn).toNatClampNeg lb = fun z9 => (va_up t tn (a * 256 + q, lb) z9).2 from by rw [nI_clamp (by omega)]; exact ut_l t tn (a * 256 + q, lb)] at hP hD
  have hP : va_P (dC, dI) clS [(r0, .inr (1, [.int th, .ref b0, .int (nI tn), .ref b1, .ref b2, .ref b3, .int (nI wn), .ref b4, .ref b5, .ref b6, .ref b7, .int (nI ko), .int (nI mw)])), (b0, .inl (cb 0, 8, .inl (fun z9 => nI (cl z9)))), (b1, .inl (cb 1, 2040, .inl (fun z9 => nI ((va_up t tn (a * 256 + q, lb) z9).1 / 256)))), (b2, .inl (cb 2, 2040, .inl (fun z9 => nI ((va_up t tn (a * 256 + q, lb) z9).1 % 256)))), (b3, .inl (cb 3, 2040, .inl (fun z9 => (va_up t tn (a * 256 + q, lb) z9).2))), (b4, .inl (cb 4, 65, .inl (fun z9 => nI ((w z9).1 / 256)))), (b5, .inl (cb 5, 65, .inl (fun z9 => nI ((w z9).1 % 256)))), (b6, .inl (cb 6, 65, .inr (.inl (fun z9 => (w z9).2.1)))), (b7, .inl (cb 7, 65, .inl (fun z9 => (w z9).2.2)))] H := hP
  have hD : va_D A [(r0, .inr (1, [.int th, .ref b0, .int (nI tn), .ref b1, .ref b2, .ref b3, .int (nI wn), .ref b4, .ref b5, .ref b6, .ref b7, .int (nI ko), .int (nI mw)])), (b0, .inl (cb 0, 8, .inl (fun z9 => nI (cl z9)))), (b1, .inl (cb 1, 2040, .inl (fun z9 => nI ((va_up t tn (a * 256 + q, lb) z9).1 / 256)))), (b2, .inl (cb 2, 2040, .inl (fun z9 => nI ((va_up t tn (a * 256 + q, lb) z9).1 % 256)))), (b3, .inl (cb 3, 2040, .inl (fun z9 => (va_up t tn (a * 256 + q, lb) z9).2))), (b4, .inl (cb 4, 65, .inl (fun z9 => nI ((w z9).1 / 256)))), (b5, .inl (cb 5, 65, .inl (fun z9 => nI ((w z9).1 % 256)))), (b6, .inl (cb 6, 65, .inr (.inl (fun z9 => (w z9).2.1)))), (b7, .inl (cb 7, 65, .inl (fun z9 => (w z9).2.2)))] := hD
  refine lv_aload_n hx hb dY_comes_30 rfl (lv_at hl 0 rfl) ?_
  refine lv_dup hx hb dY_comes_31 rfl ?_
  refine va_get (D := (dC, dI)) (ci := 1) (v := .int (nI tn)) (C := RY) (T := TY) (N := 13) hx hb hts in_Y_comes_Y hown hK hP 0 rfl rfl 2 (by decide) (hts (.fieldLink RY 52 "CausalGateModel" "through" "I") (by decide +kernel)) (fun _ h9 => h9) rfl dY_comes_32 ?_
  refine lv_iconst (v := 1) hx hb dY_comes_35 (by decide) ?_
  refine lv_iadd hx hb dY_comes_36 ?_
  refine tp_i (y := nI (tn + 1)) (nI_1 tn) ?_
  refine va_put (D := (dC, dI)) (ci := 1) (v := .int (nI (tn + 1))) (ty := .int) (C := RY) (T := TY) (N := 13) hx hb hts in_Y_comes_Y tyY tyY_ok nmY hown hK hP hD hS 0 rfl rfl 2 (by decide) (hts (.fieldLink RY 52 "CausalGateModel" "through" "I") (by decide +kernel)) (fun _ h9 => h9) rfl (by decide +kernel) rfl rfl (Nat.le_of_ble_eq_true rfl) dY_comes_37 (fun H locs hP hD hS => ?_)
  have hP : va_P (dC, dI) clS [(r0, .inr (1, [.int th, .ref b0, .int (nI (tn + 1)), .ref b1, .ref b2, .ref b3, .int (nI wn), .ref b4, .ref b5, .ref b6, .ref b7, .int (nI ko), .int (nI mw)])), (b0, .inl (cb 0, 8, .inl (fun z9 => nI (cl z9)))), (b1, .inl (cb 1, 2040, .inl (fun z9 => nI ((va_up t tn (a * 256 + q, lb) z9).1 / 256)))), (b2, .inl (cb 2, 2040, .inl (fun z9 => nI ((va_up t tn (a * 256 + q, lb) z9).1 % 256)))), (b3, .inl (cb 3, 2040, .inl (fun z9 => (va_up t tn (a * 256 + q, lb) z9).2))), (b4, .inl (cb 4, 65, .inl (fun z9 => nI ((w z9).1 / 256)))), (b5, .inl (cb 5, 65, .inl (fun z9 => nI ((w z9).1 % 256)))), (b6, .inl (cb 6, 65, .inr (.inl (fun z9 => (w z9).2.1)))), (b7, .inl (cb 7, 65, .inl (fun z9 => (w z9).2.2)))] H := hP
  have hD : va_D A [(r0, .inr (1, [.int th, .ref b0, .int (nI (tn + 1)), .ref b1, .ref b2, .ref b3, .int (nI wn), .ref b4, .ref b5, .ref b6, .ref b7, .int (nI ko), .int (nI mw)])), (b0, .inl (cb 0, 8, .inl (fun z9 => nI (cl z9)))), (b1, .inl (cb 1, 2040, .inl (fun z9 => nI ((va_up t tn (a * 256 + q, lb) z9).1 / 256)))), (b2, .inl (cb 2, 2040, .inl (fun z9 => nI ((va_up t tn (a * 256 + q, lb) z9).1 % 256)))), (b3, .inl (cb 3, 2040, .inl (fun z9 => (va_up t tn (a * 256 + q, lb) z9).2))), (b4, .inl (cb 4, 65, .inl (fun z9 => nI ((w z9).1 / 256)))), (b5, .inl (cb 5, 65, .inl (fun z9 => nI ((w z9).1 % 256)))), (b6, .inl (cb 6, 65, .inr (.inl (fun z9 => (w z9).2.1)))), (b7, .inl (cb 7, 65, .inl (fun z9 => (w z9).2.2)))] := hD
  refine lv_aload_n hx hb dY_comes_40 rfl (lv_at hl 0 rfl) ?_
  refine va_get (D := (dC, dI)) (ci := 1) (v := .ref b0) (C := RY) (T := TY) (N := 13) hx hb hts in_Y_comes_Y hown hK hP 0 rfl rfl 1 (by decide) (hts (.fieldLink RY 7 "CausalGateModel" "clock" "[I") (by decide +kernel)) (fun _ h9 => h9) rfl dY_comes_41 ?_
  refine lv_iload_n hx hb dY_comes_44 rfl (lv_at hl 1 rfl) ?_
  refine lv_iload_n hx hb dY_comes_45 rfl (lv_at hl 2 rfl) ?_
  refine va_iast hx hb hK hP hD hS 1 0 rfl rfl (vp_in_nI (by omega) (by decide)) dY_comes_46 (fun H locs hP hD hS => ?_)
  rw [show upd (fun z9 => nI (cl z9)) (nI a).toNatClampNeg (nI q) = fun z9 => nI (va_up cl a q z9) from by rw [nI_clamp (by omega)]; exact uc_ cl a q] at hP hD
  have hP : va_P (dC, dI) clS [(r0, .inr (1, [.int th, .ref b0, .int (nI (tn + 1)), .ref b1, .ref b2, .ref b3, .int (nI wn), .ref b4, .ref b5, .ref b6, .ref b7, .int (nI ko), .int (nI mw)])), (b0, .inl (cb 0, 8, .inl (fun z9 => nI (va_up cl a q z9)))), (b1, .inl (cb 1, 2040, .inl (fun z9 => nI ((va_up t tn (a * 256 + q, lb) z9).1 / 256)))), (b2, .inl (cb 2, 2040, .inl (fun z9 => nI ((va_up t tn (a * 256 + q, lb) z9).1 % 256)))), (b3, .inl (cb 3, 2040, .inl (fun z9 => (va_up t tn (a * 256 + q, lb) z9).2))), (b4, .inl (cb 4, 65, .inl (fun z9 => nI ((w z9).1 / 256)))), (b5, .inl (cb 5, 65, .inl (fun z9 => nI ((w z9).1 % 256)))), (b6, .inl (cb 6, 65, .inr (.inl (fun z9 => (w z9).2.1)))), (b7, .inl (cb 7, 65, .inl (fun z9 => (w z9).2.2)))] H := hP
  have hD : va_D A [(r0, .inr (1, [.int th, .ref b0, .int (nI (tn + 1)), .ref b1, .ref b2, .ref b3, .int (nI wn), .ref b4, .ref b5, .ref b6, .ref b7, .int (nI ko), .int (nI mw)])), (b0, .inl (cb 0, 8, .inl (fun z9 => nI (va_up cl a q z9)))), (b1, .inl (cb 1, 2040, .inl (fun z9 => nI ((va_up t tn (a * 256 + q, lb) z9).1 / 256)))), (b2, .inl (cb 2, 2040, .inl (fun z9 => nI ((va_up t tn (a * 256 + q, lb) z9).1 % 256)))), (b3, .inl (cb 3, 2040, .inl (fun z9 => (va_up t tn (a * 256 + q, lb) z9).2))), (b4, .inl (cb 4, 65, .inl (fun z9 => nI ((w z9).1 / 256)))), (b5, .inl (cb 5, 65, .inl (fun z9 => nI ((w z9).1 % 256)))), (b6, .inl (cb 6, 65, .inr (.inl (fun z9 => (w z9).2.1)))), (b7, .inl (cb 7, 65, .inl (fun z9 => (w z9).2.2)))] := hD
  exact mv_ret hx hb hr hlocks hAe hP hD hS dY_comes_47

set_option maxRecDepth 20000 in
theorem in_Y_drop_Y : ∀ w ∈ wsY0, w ∈ wsY_drop := by decide +kernel

set_option maxHeartbeats 4000000 in
set_option maxRecDepth 100000 in
theorem kY_drop (l : Launch) (dC : Nat → ClassId) (dI : Nat → Nat → Nat) (cb : Nat → ClassId) (r0 b0 b1 b2 b3 b4 b5 b6 b7 : Nat) (th : Int32) (cl : Nat → Nat) (t : TF) (tn : Nat) (w : WF) (wn : Nat) (ko mw : Nat) (sz : Nat) (q : Nat) (hq : q < wn) (hwn : wn ≤ 65) : Met l yY_drop wsY_drop ({ frames := 0, cells := 0, slots := 0, locals := 0 }) (Pm [.ref r0, .int (nI q)] (dC, dI) clS [(cb 0, .int), (cb 1, .int), (cb 2, .int), (cb 3, .int), (cb 4, .int), (cb 5, .int), (cb 6, .long), (cb 7, .int)] [(r0, .inr (1, [.int th, .ref b0, .int (nI tn), .ref b1, .ref b2, .ref b3, .int (nI wn), .ref b4, .ref b5, .ref b6, .ref b7, .int (nI ko), .int (nI mw)])), (b0, .inl (cb 0, 8, .inl (fun z9 => nI (cl z9)))), (b1, .inl (cb 1, 2040, .inl (fun z9 => nI ((t z9).1 / 256)))), (b2, .inl (cb 2, 2040, .inl (fun z9 => nI ((t z9).1 % 256)))), (b3, .inl (cb 3, 2040, .inl (fun z9 => (t z9).2))), (b4, .inl (cb 4, 65, .inl (fun z9 => nI ((w z9).1 / 256)))), (b5, .inl (cb 5, 65, .inl (fun z9 => nI ((w z9).1 % 256)))), (b6, .inl (cb 6, 65, .inr (.inl (fun z9 => (w z9).2.1)))), (b7, .inl (cb 7, 65, .inl (fun z9 => (w z9).2.2)))] sz) (QmV (dC, dI) clS [(r0, .inr (1, [.int th, .ref b0, .int (nI tn), .ref b1, .ref b2, .ref b3, .int (nI wn), .ref b4, .ref b5, .ref b6, .ref b7, .int (nI ko), .int (nI mw)])), (b0, .inl (cb 0, 8, .inl (fun z9 => nI (cl z9)))), (b1, .inl (cb 1, 2040, .inl (fun z9 => nI ((t z9).1 / 256)))), (b2, .inl (cb 2, 2040, .inl (fun z9 => nI ((t z9).1 % 256)))), (b3, .inl (cb 3, 2040, .inl (fun z9 => (t z9).2))), (b4, .inl (cb 4, 65, .inl (fun z9 => nI ((w z9).1 / 256)))), (b5, .inl (cb 5, 65, .inl (fun z9 => nI ((w z9).1 % 256)))), (b6, .inl (cb 6, 65, .inr (.inl (fun z9 => (w z9).2.1)))), (b7, .inl (cb 7, 65, .inl (fun z9 => (w z9).2.2)))] [(r0, .inr (1, [.int th, .ref b0, .int (nI tn), .ref b1, .ref b2, .ref b3, .int (nI (wn - 1)), .ref b4, .ref b5, .ref b6, .ref b7, .int (nI ko), .int (nI mw)])), (b0, .inl (cb 0, 8, .inl (fun z9 => nI (cl z9)))), (b1, .inl (cb 1, 2040, .inl (fun z9 => nI ((t z9).1 / 256)))), (b2, .inl (cb 2, 2040, .inl (fun z9 => nI ((t z9).1 % 256)))), (b3, .inl (cb 3, 2040, .inl (fun z9 => (t z9).2))), (b4, .inl (cb 4, 65, .inl (fun z9 => nI (((rmS (wn - (q + 1)) (q + 1) w) z9).1 / 256)))), (b5, .inl (cb 5, 65, .inl (fun z9 => nI (((rmS (wn - (q + 1)) (q + 1) w) z9).1 % 256)))), (b6, .inl (cb 6, 65, .inr (.inl (fun z9 => ((rmS (wn - (q + 1)) (q + 1) w) z9).2.1)))), (b7, .inl (cb 7, 65, .inl (fun z9 => ((rmS (wn - (q + 1)) (q + 1) w) z9).2.2)))] sz) 0 0 (va_A [(r0, .inr (1, [.int th, .ref b0, .int (nI tn), .ref b1, .ref b2, .ref b3, .int (nI wn), .ref b4, .ref b5, .ref b6, .ref b7, .int (nI ko), .int (nI mw)])), (b0, .inl (cb 0, 8, .inl (fun z9 => nI (cl z9)))), (b1, .inl (cb 1, 2040, .inl (fun z9 => nI ((t z9).1 / 256)))), (b2, .inl (cb 2, 2040, .inl (fun z9 => nI ((t z9).1 % 256)))), (b3, .inl (cb 3, 2040, .inl (fun z9 => (t z9).2))), (b4, .inl (cb 4, 65, .inl (fun z9 => nI ((w z9).1 / 256)))), (b5, .inl (cb 5, 65, .inl (fun z9 => nI ((w z9).1 % 256)))), (b6, .inl (cb 6, 65, .inr (.inl (fun z9 => (w z9).2.1)))), (b7, .inl (cb 7, 65, .inl (fun z9 => (w z9).2.2)))] sz) := by
  refine Met.ofW (cc := cY_drop) (maxL := 3) (ret := none) (by decide) rfl ?_
  intro p e s m args below meth c s₁ B hml hv
  obtain ⟨hargs, hsz, hP, hK, hD0⟩ := hv
  have hx := B.exec
  have hb := B.bytes
  have hr := B.returns
  have hts := atoms_spec (ws := wsY_drop) B.pre
  have hown : s.vm.findClass RY = some m.cls := findClass_of_methodNamed B.named
  have hlocks := B.notSynchronized
  subst hsz
  have hD := hD0.self (sz := s.heap.size)
  obtain ⟨A, hAe⟩ : ∃ A, A = va_A [(r0, .inr (1, [.int th, .ref b0, .int (nI tn), .ref b1, .ref b2, .ref b3, .int (nI wn), .ref b4, .ref b5, .ref b6, .ref b7, .int (nI ko), .int (nI mw)])), (b0, .inl (cb 0, 8, .inl (fun z9 => nI (cl z9)))), (b1, .inl (cb 1, 2040, .inl (fun z9 => nI ((t z9).1 / 256)))), (b2, .inl (cb 2, 2040, .inl (fun z9 => nI ((t z9).1 % 256)))), (b3, .inl (cb 3, 2040, .inl (fun z9 => (t z9).2))), (b4, .inl (cb 4, 65, .inl (fun z9 => nI ((w z9).1 / 256)))), (b5, .inl (cb 5, 65, .inl (fun z9 => nI ((w z9).1 % 256)))), (b6, .inl (cb 6, 65, .inr (.inl (fun z9 => (w z9).2.1)))), (b7, .inl (cb 7, 65, .inl (fun z9 => (w z9).2.2)))] s.heap.size := ⟨_, rfl⟩
  rw [← hAe] at hD ⊢
  have hA : ∀ q : Nat, s.heap.size ≤ q → A q := fun q h => by rw [hAe]; exact Or.inr h
  have hS : va_S A s.heap s.heap [] := va_S.rf
  have hP : va_P (dC, dI) clS [(r0, .inr (1, [.int th, .ref b0, .int (nI tn), .ref b1, .ref b2, .ref b3, .int (nI wn), .ref b4, .ref b5, .ref b6, .ref b7, .int (nI ko), .int (nI mw)])), (b0, .inl (cb 0, 8, .inl (fun z9 => nI (cl z9)))), (b1, .inl (cb 1, 2040, .inl (fun z9 => nI ((t z9).1 / 256)))), (b2, .inl (cb 2, 2040, .inl (fun z9 => nI ((t z9).1 % 256)))), (b3, .inl (cb 3, 2040, .inl (fun z9 => (t z9).2))), (b4, .inl (cb 4, 65, .inl (fun z9 => nI ((w z9).1 / 256)))), (b5, .inl (cb 5, 65, .inl (fun z9 => nI ((w z9).1 % 256)))), (b6, .inl (cb 6, 65, .inr (.inl (fun z9 => (w z9).2.1)))), (b7, .inl (cb 7, 65, .inl (fun z9 => (w z9).2.2)))] s.heap := hP
  have hl := lv_entry ([.ref r0, .int (nI q)]) (n := 3) (Nat.le_of_ble_eq_true rfl)
  have hE : entryFrame m args 3 = F0 m 0 ((lg_sl ([.ref r0, .int (nI q)]) ++ List.replicate (3 - (lg_sl ([.ref r0, .int (nI q)])).length) Slot.unset).toArray) [] := by rw [hargs]; exact lg_entry_eq m ([.ref r0, .int (nI q)]) 3
  rw [hE]
  generalize (lg_sl ([.ref r0, .int (nI q)]) ++ List.replicate (3 - (lg_sl ([.ref r0, .int (nI q)])).length) Slot.unset).toArray = ls at hl ⊢
  have hl : lv_has ls 3 [(0, .ref r0), (1, .int (nI q))] := hl
  refine lv_aload_n hx hb dY_drop_0 rfl (lv_at hl 0 rfl) ?_
  refine lv_dup hx hb dY_drop_1 rfl ?_
  refine va_get (D := (dC, dI)) (ci := 1) (v := .int (nI wn)) (C := RY) (T := TY) (N := 13) hx hb hts in_Y_drop_Y hown hK hP 0 rfl rfl 6 (by decide) (hts (.fieldLink RY 49 "CausalGateModel" "waiting" "I") (by decide +kernel)) (fun _ h9 => h9) rfl dY_drop_2 ?_
  refine lv_iconst (v := 1) hx hb dY_drop_5 (by decide) ?_
  refine lv_isub hx hb dY_drop_6 ?_
  refine tp_i (y := nI (wn - 1)) (pk_sub (b := 1) (by omega)) ?_
  refine va_put (D := (dC, dI)) (ci := 1) (v := .int (nI (wn - 1))) (ty := .int) (C := RY) (T := TY) (N := 13) hx hb hts in_Y_drop_Y tyY tyY_ok nmY hown hK hP hD hS 0 rfl rfl 6 (by decide) (hts (.fieldLink RY 49 "CausalGateModel" "waiting" "I") (by decide +kernel)) (fun _ h9 => h9) rfl (by decide +kernel) rfl rfl (Nat.le_of_ble_eq_true rfl) dY_drop_7 (fun H locs hP hD hS => ?_)
  have hP : va_P (dC, dI) clS [(r0, .inr (1, [.int th, .ref b0, .int (nI tn), .ref b1, .ref b2, .ref b3, .int (nI (wn - 1)), .ref b4, .ref b5, .ref b6, .ref b7, .int (nI ko), .int (nI mw)])), (b0, .inl (cb 0, 8, .inl (fun z9 => nI (cl z9)))), (b1, .inl (cb 1, 2040, .inl (fun z9 => nI ((t z9).1 / 256)))), (b2, .inl (cb 2, 2040, .inl (fun z9 => nI ((t z9).1 % 256)))), (b3, .inl (cb 3, 2040, .inl (fun z9 => (t z9).2))), (b4, .inl (cb 4, 65, .inl (fun z9 => nI ((w z9).1 / 256)))), (b5, .inl (cb 5, 65, .inl (fun z9 => nI ((w z9).1 % 256)))), (b6, .inl (cb 6, 65, .inr (.inl (fun z9 => (w z9).2.1)))), (b7, .inl (cb 7, 65, .inl (fun z9 => (w z9).2.2)))] H := hP
  have hD : va_D A [(r0, .inr (1, [.int th, .ref b0, .int (nI tn), .ref b1, .ref b2, .ref b3, .int (nI (wn - 1)), .ref b4, .ref b5, .ref b6, .ref b7, .int (nI ko), .int (nI mw)])), (b0, .inl (cb 0, 8, .inl (fun z9 => nI (cl z9)))), (b1, .inl (cb 1, 2040, .inl (fun z9 => nI ((t z9).1 / 256)))), (b2, .inl (cb 2, 2040, .inl (fun z9 => nI ((t z9).1 % 256)))), (b3, .inl (cb 3, 2040, .inl (fun z9 => (t z9).2))), (b4, .inl (cb 4, 65, .inl (fun z9 => nI ((w z9).1 / 256)))), (b5, .inl (cb 5, 65, .inl (fun z9 => nI ((w z9).1 % 256)))), (b6, .inl (cb 6, 65, .inr (.inl (fun z9 => (w z9).2.1)))), (b7, .inl (cb 7, 65, .inl (fun z9 => (w z9).2.2)))] := hD
  refine lv_iload_n hx hb dY_drop_10 rfl (lv_at hl 1 rfl) ?_
  refine lv_istore_n (lv' := [(2, .int (nI q)), (0, .ref r0), (1, .int (nI q))]) hx hb dY_drop_11 rfl hl (by decide) rfl (fun ls hl => ?_)
  have loop : ∀ (n : Nat) (i : Nat) (v : WF), i + n = wn - 1 → rmS n (i + 1) v = rmS (wn - (q + 1)) (q + 1) w → ∀ (H : Heap) (locs : List Loc), va_P (dC, dI) clS [(r0, .inr (1, [.int th, .ref b0, .int (nI tn), .ref b1, .ref b2, .ref b3, .int (nI (wn - 1)), .ref b4, .ref b5, .ref b6, .ref b7, .int (nI ko), .int (nI mw)])), (b0, .inl (cb 0, 8, .inl (fun z9 => nI (cl z9)))), (b1, .inl (cb 1, 2040, .inl (fun z9 => nI ((t z9).1 / 256)))), (b2, .inl (cb 2, 2040, .inl (fun z9 => nI ((t z9).1 % 256)))), (b3, .inl (cb 3, 2040, .inl (fun z9 => (t z9).2))), (b4, .inl (cb 4, 65, .inl (fun z9 => nI ((v z9).1 / 256)))), (b5, .inl (cb 5, 65, .inl (fun z9 => nI ((v z9).1 % 256)))), (b6, .inl (cb 6, 65, .inr (.inl (fun z9 => (v z9).2.1)))), (b7, .inl (cb 7, 65, .inl (fun z9 => (v z9).2.2)))] H → va_D A [(r0, .inr (1, [.int th, .ref b0, .int (nI tn), .ref b1, .ref b2, .ref b3, .int (nI (wn - 1)), .ref b4, .ref b5, .ref b6, .ref b7, .int (nI ko), .int (nI mw)])), (b0, .inl (cb 0, 8, .inl (fun z9 => nI (cl z9)))), (b1, .inl (cb 1, 2040, .inl (fun z9 => nI ((t z9).1 / 256)))), (b2, .inl (cb 2, 2040, .inl (fun z9 => nI ((t z9).1 % 256)))), (b3, .inl (cb 3, 2040, .inl (fun z9 => (t z9).2))), (b4, .inl (cb 4, 65, .inl (fun z9 => nI ((v z9).1 / 256)))), (b5, .inl (cb 5, 65, .inl (fun z9 => nI ((v z9).1 % 256)))), (b6, .inl (cb 6, 65, .inr (.inl (fun z9 => (v z9).2.1)))), (b7, .inl (cb 7, 65, .inl (fun z9 => (v z9).2.2)))] → va_S A s.heap H locs → ∀ ls : Array Slot, lv_has ls 3 [(0, .ref r0), (1, .int (nI q)), (2, .int (nI i))] → W p l e (headSpec wsY_drop ({ frames := 0, cells := 0, slots := 0, locals := 0 })).room s m args below meth c H locs 0 0 (MQ below (QmV (dC, dI) clS [(r0, .inr (1, [.int th, .ref b0, .int (nI tn), .ref b1, .ref b2, .ref b3, .int (nI wn), .ref b4, .ref b5, .ref b6, .ref b7, .int (nI ko), .int (nI mw)])), (b0, .inl (cb 0, 8, .inl (fun z9 => nI (cl z9)))), (b1, .inl (cb 1, 2040, .inl (fun z9 => nI ((t z9).1 / 256)))), (b2, .inl (cb 2, 2040, .inl (fun z9 => nI ((t z9).1 % 256)))), (b3, .inl (cb 3, 2040, .inl (fun z9 => (t z9).2))), (b4, .inl (cb 4, 65, .inl (fun z9 => nI ((w z9).1 / 256)))), (b5, .inl (cb 5, 65, .inl (fun z9 => nI ((w z9).1 % 256)))), (b6, .inl (cb 6, 65, .inr (.inl (fun z9 => (w z9).2.1)))), (b7, .inl (cb 7, 65, .inl (fun z9 => (w z9).2.2)))] [(r0, .inr (1, [.int th, .ref b0, .int (nI tn), .ref b1, .ref b2, .ref b3, .int (nI (wn - 1)), .ref b4, .ref b5, .ref b6, .ref b7, .int (nI ko), .int (nI mw)])), (b0, .inl (cb 0, 8, .inl (fun z9 => nI (cl z9)))), (b1, .inl (cb 1, 2040, .inl (fun z9 => nI ((t z9).1 / 256)))), (b2, .inl (cb 2, 2040, .inl (fun z9 => nI ((t z9).1 % 256)))), (b3, .inl (cb 3, 2040, .inl (fun z9 => (t z9).2))), (b4, .inl (cb 4, 65, .inl (fun z9 => nI (((rmS (wn - (q + 1)) (q + 1) w) z9).1 / 256)))), (b5, .inl (cb 5, 65, .inl (fun z9 => nI (((rmS (wn - (q + 1)) (q + 1) w) z9).1 % 256)))), (b6, .inl (cb 6, 65, .inr (.inl (fun z9 => ((rmS (wn - (q + 1)) (q + 1) w) z9).2.1)))), (b7, .inl (cb 7, 65, .inl (fun z9 => ((rmS (wn - (q + 1)) (q + 1) w) z9).2.2)))] s.heap.size) args s 0 0 A) (F0 m 12 ls []) := by
    intro n
    induction n with
    | zero =>
      intro i v hi hk9 H locs hP hD hS ls hl
      refine lv_iload_n hx hb dY_drop_12 rfl (lv_at hl 2 rfl) ?_
      refine lv_aload_n hx hb dY_drop_13 rfl (lv_at hl 0 rfl) ?_
      refine va_get (D := (dC, dI)) (ci := 1) (v := .int (nI (wn - 1))) (C := RY) (T := TY) (N := 13) hx hb hts in_Y_drop_Y hown hK hP 0 rfl rfl 6 (by decide) (hts (.fieldLink RY 49 "CausalGateModel" "waiting" "I") (by decide +kernel)) (fun _ h9 => h9) rfl dY_drop_14 ?_
      refine lv_icmp_ge (tgt := 82) hx hb dY_drop_17 (by decide) (fun c_17 => ?_) (fun c_17 => ?_)
      · have hk8 : v = rmS (wn - (q + 1)) (q + 1) w := hk9
        subst hk8
        exact mv_ret hx hb hr hlocks hAe hP hD hS dY_drop_82
      · exact absurd (nI_le (by omega) (by omega)) c_17
    | succ n ih =>
      intro i v hi hk9 H locs hP hD hS ls hl
      refine lv_iload_n hx hb dY_drop_12 rfl (lv_at hl 2 rfl) ?_
      refine lv_aload_n hx hb dY_drop_13 rfl (lv_at hl 0 rfl) ?_
      refine va_get (D := (dC, dI)) (ci := 1) (v := .int (nI (wn - 1))) (C := RY) (T := TY) (N := 13) hx hb hts in_Y_drop_Y hown hK hP 0 rfl rfl 6 (by decide) (hts (.fieldLink RY 49 "CausalGateModel" "waiting" "I") (by decide +kernel)) (fun _ h9 => h9) rfl dY_drop_14 ?_
      refine lv_icmp_ge (tgt := 82) hx hb dY_drop_17 (by decide) (fun c_17 => ?_) (fun c_17 => ?_)
      · exact absurd ((nI_leI (by omega) (by omega)).mp c_17) (by omega)
      · refine lv_aload_n hx hb dY_drop_20 rfl (lv_at hl 0 rfl) ?_
        refine va_get (D := (dC, dI)) (ci := 1) (v := .ref b4) (C := RY) (T := TY) (N := 13) hx hb hts in_Y_drop_Y hown hK hP 0 rfl rfl 7 (by decide) (hts (.fieldLink RY 22 "CausalGateModel" "wActors" "[I") (by decide +kernel)) (fun _ h9 => h9) rfl dY_drop_21 ?_
        refine lv_iload_n hx hb dY_drop_24 rfl (lv_at hl 2 rfl) ?_
        refine lv_aload_n hx hb dY_drop_25 rfl (lv_at hl 0 rfl) ?_
        refine va_get (D := (dC, dI)) (ci := 1) (v := .ref b4) (C := RY) (T := TY) (N := 13) hx hb hts in_Y_drop_Y hown hK hP 0 rfl rfl 7 (by decide) (hts (.fieldLink RY 22 "CausalGateModel" "wActors" "[I") (by decide +kernel)) (fun _ h9 => h9) rfl dY_drop_26 ?_
        refine lv_iload_n hx hb dY_drop_29 rfl (lv_at hl 2 rfl) ?_
        refine lv_iconst (v := 1) hx hb dY_drop_30 (by decide) ?_
        refine lv_iadd hx hb dY_drop_31 ?_
        refine tp_i (y := nI (i + 1)) (nI_1 i) ?_
        refine va_iald hx hb hK hP 5 4 rfl rfl (vp_in_nI (by omega) (by decide)) dY_drop_32 ?_
        refine tp_i (y := nI ((v (i + 1)).1 / 256)) (by rw [nI_clamp (by omega)]) ?_
        refine va_iast hx hb hK hP hD hS 5 4 rfl rfl (vp_in_nI (by omega) (by decide)) dY_drop_33 (fun H locs hP hD hS => ?_)
        rw [show upd (fun z9 => nI ((v z9).1 / 256)) (nI i).toNatClampNeg (nI ((v (i + 1)).1 / 256)) = fun z9 => nI ((va_up v i (v (i + 1)) z9).1 / 256) from by rw [nI_clamp (by omega)]; exact um_a v i (v (i + 1))] at hP hD
        have hP : va_P (dC, dI) clS [(r0, .inr (1, [.int th, .ref b0, .int (nI tn), .ref b1, .ref b2, .ref b3, .int (nI (wn - 1)), .ref b4, .ref b5, .ref b6, .ref b7, .int (nI ko), .int (nI mw)])), (b0, .inl (cb 0, 8, .inl (fun z9 => nI (cl z9)))), (b1, .inl (cb 1, 2040, .inl (fun z9 => nI ((t z9).1 / 256)))), (b2, .inl (cb 2, 2040, .inl (fun z9 => nI ((t z9).1 % 256)))), (b3, .inl (cb 3, 2040, .inl (fun z9 => (t z9).2))), (b4, .inl (cb 4, 65, .inl (fun z9 => nI ((va_up v i (v (i + 1)) z9).1 / 256)))), (b5, .inl (cb 5, 65, .inl (fun z9 => nI ((v z9).1 % 256)))), (b6, .inl (cb 6, 65, .inr (.inl (fun z9 => (v z9).2.1)))), (b7, .inl (cb 7, 65, .inl (fun z9 => (v z9).2.2)))] H := hP
        have hD : va_D A [(r0, .inr (1, [.int th, .ref b0, .int (nI tn), .ref b1, .ref b2, .ref b3, .int (nI (wn - 1)), .ref b4, .ref b5, .ref b6, .ref b7, .int (nI ko), .int (nI mw)])), (b0, .inl (cb 0, 8, .inl (fun z9 => nI (cl z9)))), (b1, .inl (cb 1, 2040, .inl (fun z9 => nI ((t z9).1 / 256)))), (b2, .inl (cb 2, 2040, .inl (fun z9 => nI ((t z9).1 % 256)))), (b3, .inl (cb 3, 2040, .inl (fun z9 => (t z9).2))), (b4, .inl (cb 4, 65, .inl (fun z9 => nI ((va_up v i (v (i + 1)) z9).1 / 256)))), (b5, .inl (cb 5, 65, .inl (fun z9 => nI ((v z9).1 % 256)))), (b6, .inl (cb 6, 65, .inr (.inl (fun z9 => (v z9).2.1)))), (b7, .inl (cb 7, 65, .inl (fun z9 => (v z9).2.2)))] := hD
        refine lv_aload_n hx hb dY_drop_34 rfl (lv_at hl 0 rfl) ?_
        refine va_get (D := (dC, dI)) (ci := 1) (v := .ref b5) (C := RY) (T := TY) (N := 13) hx hb hts in_Y_drop_Y hown hK hP 0 rfl rfl 8 (by decide) (hts (.fieldLink RY 25 "CausalGateModel" "wSeqs" "[I") (by decide +kernel)) (fun _ h9 => h9) rfl dY_drop_35 ?_
        refine lv_iload_n hx hb dY_drop_38 rfl (lv_at hl 2 rfl) ?_
        refine lv_aload_n hx hb dY_drop_39 rfl (lv_at hl 0 rfl) ?_
        refine va_get (D := (dC, dI)) (ci := 1) (v := .ref b5) (C := RY) (T := TY) (N := 13) hx hb hts in_Y_drop_Y hown hK hP 0 rfl rfl 8 (by decide) (hts (.fieldLink RY 25 "CausalGateModel" "wSeqs" "[I") (by decide +kernel)) (fun _ h9 => h9) rfl dY_drop_40 ?_
        refine lv_iload_n hx hb dY_drop_43 rfl (lv_at hl 2 rfl) ?_
        refine lv_iconst (v := 1) hx hb dY_drop_44 (by decide) ?_
        refine lv_iadd hx hb dY_drop_45 ?_
        refine tp_i (y := nI (i + 1)) (nI_1 i) ?_
        refine va_iald hx hb hK hP 6 5 rfl rfl (vp_in_nI (by omega) (by decide)) dY_drop_46 ?_
        refine tp_i (y := nI ((v (i + 1)).1 % 256)) (by rw [nI_clamp (by omega)]) ?_
        refine va_iast hx hb hK hP hD hS 6 5 rfl rfl (vp_in_nI (by omega) (by decide)) dY_drop_47 (fun H locs hP hD hS => ?_)
        rw [show upd (fun z9 => nI ((v z9).1 % 256)) (nI i).toNatClampNeg (nI ((v (i + 1)).1 % 256)) = fun z9 => nI ((va_up v i (v (i + 1)) z9).1 % 256) from by rw [nI_clamp (by omega)]; exact um_s v i (v (i + 1))] at hP hD
        have hP : va_P (dC, dI) clS [(r0, .inr (1, [.int th, .ref b0, .int (nI tn), .ref b1, .ref b2, .ref b3, .int (nI (wn - 1)), .ref b4, .ref b5, .ref b6, .ref b7, .int (nI ko), .int (nI mw)])), (b0, .inl (cb 0, 8, .inl (fun z9 => nI (cl z9)))), (b1, .inl (cb 1, 2040, .inl (fun z9 => nI ((t z9).1 / 256)))), (b2, .inl (cb 2, 2040, .inl (fun z9 => nI ((t z9).1 % 256)))), (b3, .inl (cb 3, 2040, .inl (fun z9 => (t z9).2))), (b4, .inl (cb 4, 65, .inl (fun z9 => nI ((va_up v i (v (i + 1)) z9).1 / 256)))), (b5, .inl (cb 5, 65, .inl (fun z9 => nI ((va_up v i (v (i + 1)) z9).1 % 256)))), (b6, .inl (cb 6, 65, .inr (.inl (fun z9 => (v z9).2.1)))), (b7, .inl (cb 7, 65, .inl (fun z9 => (v z9).2.2)))] H := hP
        have hD : va_D A [(r0, .inr (1, [.int th, .ref b0, .int (nI tn), .ref b1, .ref b2, .ref b3, .int (nI (wn - 1)), .ref b4, .ref b5, .ref b6, .ref b7, .int (nI ko), .int (nI mw)])), (b0, .inl (cb 0, 8, .inl (fun z9 => nI (cl z9)))), (b1, .inl (cb 1, 2040, .inl (fun z9 => nI ((t z9).1 / 256)))), (b2, .inl (cb 2, 2040, .inl (fun z9 => nI ((t z9).1 % 256)))), (b3, .inl (cb 3, 2040, .inl (fun z9 => (t z9).2))), (b4, .inl (cb 4, 65, .inl (fun z9 => nI ((va_up v i (v (i + 1)) z9).1 / 256)))), (b5, .inl (cb 5, 65, .inl (fun z9 => nI ((va_up v i (v (i + 1)) z9).1 % 256)))), (b6, .inl (cb 6, 65, .inr (.inl (fun z9 => (v z9).2.1)))), (b7, .inl (cb 7, 65, .inl (fun z9 => (v z9).2.2)))] := hD
        refine lv_aload_n hx hb dY_drop_48 rfl (lv_at hl 0 rfl) ?_
        refine va_get (D := (dC, dI)) (ci := 1) (v := .ref b6) (C := RY) (T := TY) (N := 13) hx hb hts in_Y_drop_Y hown hK hP 0 rfl rfl 9 (by decide) (hts (.fieldLink RY 28 "CausalGateModel" "wClocks" "[J") (by decide +kernel)) (fun _ h9 => h9) rfl dY_drop_49 ?_
        refine lv_iload_n hx hb dY_drop_52 rfl (lv_at hl 2 rfl) ?_
        refine lv_aload_n hx hb dY_drop_53 rfl (lv_at hl 0 rfl) ?_
        refine va_get (D := (dC, dI)) (ci := 1) (v := .ref b6) (C := RY) (T := TY) (N := 13) hx hb hts in_Y_drop_Y hown hK hP 0 rfl rfl 9 (by decide) (hts (.fieldLink RY 28 "CausalGateModel" "wClocks" "[J") (by decide +kernel)) (fun _ h9 => h9) rfl dY_drop_54 ?_
        refine lv_iload_n hx hb dY_drop_57 rfl (lv_at hl 2 rfl) ?_
        refine lv_iconst (v := 1) hx hb dY_drop_58 (by decide) ?_
        refine lv_iadd hx hb dY_drop_59 ?_
        refine tp_i (y := nI (i + 1)) (nI_1 i) ?_
        refine va_lald hx hb hK hP 7 6 rfl rfl (vp_in_nI (by omega) (by decide)) dY_drop_60 ?_
        refine tp_l (y := (v (i + 1)).2.1) (by rw [nI_clamp (by omega)]) ?_
        refine va_last hx hb hK hP hD hS 7 6 rfl rfl (vp_in_nI (by omega) (by decide)) dY_drop_61 (fun H locs hP hD hS => ?_)
        rw [show vp_updL (fun z9 => (v z9).2.1) (nI i).toNatClampNeg ((v (i + 1)).2.1) = fun z9 => (va_up v i (v (i + 1)) z9).2.1 from by rw [nI_clamp (by omega)]; exact up_c v i (v (i + 1))] at hP hD
        have hP : va_P (dC, dI) clS [(r0, .inr (1, [.int th, .ref b0, .int (nI tn), .ref b1, .ref b2, .ref b3, .int (nI (wn - 1)), .ref b4, .ref b5, .ref b6, .ref b7, .int (nI ko), .int (nI mw)])), (b0, .inl (cb 0, 8, .inl (fun z9 => nI (cl z9)))), (b1, .inl (cb 1, 2040, .inl (fun z9 => nI ((t z9).1 / 256)))), (b2, .inl (cb 2, 2040, .inl (fun z9 => nI ((t z9).1 % 256)))), (b3, .inl (cb 3, 2040, .inl (fun z9 => (t z9).2))), (b4, .inl (cb 4, 65, .inl (fun z9 => nI ((va_up v i (v (i + 1)) z9).1 / 256)))), (b5, .inl (cb 5, 65, .inl (fun z9 => nI ((va_up v i (v (i + 1)) z9).1 % 256)))), (b6, .inl (cb 6, 65, .inr (.inl (fun z9 => (va_up v i (v (i + 1)) z9).2.1)))), (b7, .inl (cb 7, 65, .inl (fun z9 => (v z9).2.2)))] H := hP
        have hD : va_D A [(r0, .inr (1, [.int th, .ref b0, .int (nI tn), .ref b1, .ref b2, .ref b3, .int (nI (wn - 1)), .ref b4, .ref b5, .ref b6, .ref b7, .int (nI ko), .int (nI mw)])), (b0, .inl (cb 0, 8, .inl (fun z9 => nI (cl z9)))), (b1, .inl (cb 1, 2040, .inl (fun z9 => nI ((t z9).1 / 256)))), (b2, .inl (cb 2, 2040, .inl (fun z9 => nI ((t z9).1 % 256)))), (b3, .inl (cb 3, 2040, .inl (fun z9 => (t z9).2))), (b4, .inl (cb 4, 65, .inl (fun z9 => nI ((va_up v i (v (i + 1)) z9).1 / 256)))), (b5, .inl (cb 5, 65, .inl (fun z9 => nI ((va_up v i (v (i + 1)) z9).1 % 256)))), (b6, .inl (cb 6, 65, .inr (.inl (fun z9 => (va_up v i (v (i + 1)) z9).2.1)))), (b7, .inl (cb 7, 65, .inl (fun z9 => (v z9).2.2)))] := hD
        refine lv_aload_n hx hb dY_drop_62 rfl (lv_at hl 0 rfl) ?_
        refine va_get (D := (dC, dI)) (ci := 1) (v := .ref b7) (C := RY) (T := TY) (N := 13) hx hb hts in_Y_drop_Y hown hK hP 0 rfl rfl 10 (by decide) (hts (.fieldLink RY 32 "CausalGateModel" "wLabels" "[I") (by decide +kernel)) (fun _ h9 => h9) rfl dY_drop_63 ?_
        refine lv_iload_n hx hb dY_drop_66 rfl (lv_at hl 2 rfl) ?_
        refine lv_aload_n hx hb dY_drop_67 rfl (lv_at hl 0 rfl) ?_
        refine va_get (D := (dC, dI)) (ci := 1) (v := .ref b7) (C := RY) (T := TY) (N := 13) hx hb hts in_Y_drop_Y hown hK hP 0 rfl rfl 10 (by decide) (hts (.fieldLink RY 32 "CausalGateModel" "wLabels" "[I") (by decide +kernel)) (fun _ h9 => h9) rfl dY_drop_68 ?_
        refine lv_iload_n hx hb dY_drop_71 rfl (lv_at hl 2 rfl) ?_
        refine lv_iconst (v := 1) hx hb dY_drop_72 (by decide) ?_
        refine lv_iadd hx hb dY_drop_73 ?_
        refine tp_i (y := nI (i + 1)) (nI_1 i) ?_
        refine va_iald hx hb hK hP 8 7 rfl rfl (vp_in_nI (by omega) (by decide)) dY_drop_74 ?_
        refine tp_i (y := (v (i + 1)).2.2) (by rw [nI_clamp (by omega)]) ?_
        refine va_iast hx hb hK hP hD hS 8 7 rfl rfl (vp_in_nI (by omega) (by decide)) dY_drop_75 (fun H locs hP hD hS => ?_)
        rw [show upd (fun z9 => (v z9).2.2) (nI i).toNatClampNeg ((v (i + 1)).2.2) = fun z9 => (va_up v i (v (i + 1)) z9).2.2 from by rw [nI_clamp (by omega)]; exact up_l v i (v (i + 1))] at hP hD
        have hP : va_P (dC, dI) clS [(r0, .inr (1, [.int th, .ref b0, .int (nI tn), .ref b1, .ref b2, .ref b3, .int (nI (wn - 1)), .ref b4, .ref b5, .ref b6, .ref b7, .int (nI ko), .int (nI mw)])), (b0, .inl (cb 0, 8, .inl (fun z9 => nI (cl z9)))), (b1, .inl (cb 1, 2040, .inl (fun z9 => nI ((t z9).1 / 256)))), (b2, .inl (cb 2, 2040, .inl (fun z9 => nI ((t z9).1 % 256)))), (b3, .inl (cb 3, 2040, .inl (fun z9 => (t z9).2))), (b4, .inl (cb 4, 65, .inl (fun z9 => nI ((va_up v i (v (i + 1)) z9).1 / 256)))), (b5, .inl (cb 5, 65, .inl (fun z9 => nI ((va_up v i (v (i + 1)) z9).1 % 256)))), (b6, .inl (cb 6, 65, .inr (.inl (fun z9 => (va_up v i (v (i + 1)) z9).2.1)))), (b7, .inl (cb 7, 65, .inl (fun z9 => (va_up v i (v (i + 1)) z9).2.2)))] H := hP
        have hD : va_D A [(r0, .inr (1, [.int th, .ref b0, .int (nI tn), .ref b1, .ref b2, .ref b3, .int (nI (wn - 1)), .ref b4, .ref b5, .ref b6, .ref b7, .int (nI ko), .int (nI mw)])), (b0, .inl (cb 0, 8, .inl (fun z9 => nI (cl z9)))), (b1, .inl (cb 1, 2040, .inl (fun z9 => nI ((t z9).1 / 256)))), (b2, .inl (cb 2, 2040, .inl (fun z9 => nI ((t z9).1 % 256)))), (b3, .inl (cb 3, 2040, .inl (fun z9 => (t z9).2))), (b4, .inl (cb 4, 65, .inl (fun z9 => nI ((va_up v i (v (i + 1)) z9).1 / 256)))), (b5, .inl (cb 5, 65, .inl (fun z9 => nI ((va_up v i (v (i + 1)) z9).1 % 256)))), (b6, .inl (cb 6, 65, .inr (.inl (fun z9 => (va_up v i (v (i + 1)) z9).2.1)))), (b7, .inl (cb 7, 65, .inl (fun z9 => (va_up v i (v (i + 1)) z9).2.2)))] := hD
        refine lv_iinc (v := (nI (i + 1))) (lv' := [(2, .int (nI (i + 1))), (0, .ref r0), (1, .int (nI q))]) hx hb dY_drop_76 hl (k := 2) rfl (nI_1 i) (by decide) rfl (fun ls hl => ?_)
        refine lv_goto (tgt := 12) hx hb dY_drop_79 (by decide) ?_
        exact ih (i + 1) (va_up v i (v (i + 1))) (by omega) (by rw [← hk9]; rfl) _ _ hP hD hS ls (lv_sub hl [1, 2, 0] rfl)
  exact loop (wn - (q + 1)) q w (by omega) rfl _ _ hP hD hS ls (lv_sub hl [1, 2, 0] rfl)

set_option maxRecDepth 20000 in
theorem in_Y_keep_Y : ∀ w ∈ wsY0, w ∈ wsY_keep := by decide +kernel

set_option maxHeartbeats 4000000 in
set_option maxRecDepth 100000 in
theorem kY_keep (l : Launch) (dC : Nat → ClassId) (dI : Nat → Nat → Nat) (cb : Nat → ClassId) (r0 b0 b1 b2 b3 b4 b5 b6 b7 : Nat) (th : Int32) (cl : Nat → Nat) (t : TF) (tn : Nat) (w : WF) (wn : Nat) (ko mw : Nat) (sz : Nat) (a q : Nat) (ck : Int64) (lb : Int32) (ha : a < 8) (hq : q < 256) (hwn : wn < 65) (hw : ∀ j, j < wn → (w j).1 < 2048) : Met l yY_keep wsY_keep ({ frames := 0, cells := 0, slots := 0, locals := 0 }) (Pm [.ref r0, .int (nI a), .int (nI q), .long ck, .int lb] (dC, dI) clS [(cb 0, .int), (cb 1, .int), (cb 2, .int), (cb 3, .int), (cb 4, .int), (cb 5, .int), (cb 6, .long), (cb 7, .int)] [(r0, .inr (1, [.int th, .ref b0, .int (nI tn), .ref b1, .ref b2, .ref b3, .int (nI wn), .ref b4, .ref b5, .ref b6, .ref b7, .int (nI ko), .int (nI mw)])), (b0, .inl (cb 0, 8, .inl (fun z9 => nI (cl z9)))), (b1, .inl (cb 1, 2040, .inl (fun z9 => nI ((t z9).1 / 256)))), (b2, .inl (cb 2, 2040, .inl (fun z9 => nI ((t z9).1 % 256)))), (b3, .inl (cb 3, 2040, .inl (fun z9 => (t z9).2))), (b4, .inl (cb 4, 65, .inl (fun z9 => nI ((w z9).1 / 256)))), (b5, .inl (cb 5, 65, .inl (fun z9 => nI ((w z9).1 % 256)))), (b6, .inl (cb 6, 65, .inr (.inl (fun z9 => (w z9).2.1)))), (b7, .inl (cb 7, 65, .inl (fun z9 => (w z9).2.2)))] sz) (QmV (dC, dI) clS [(r0, .inr (1, [.int th, .ref b0, .int (nI tn), .ref b1, .ref b2, .ref b3, .int (nI wn), .ref b4, .ref b5, .ref b6, .ref b7, .int (nI ko), .int (nI mw)])), (b0, .inl (cb 0, 8, .inl (fun z9 => nI (cl z9)))), (b1, .inl (cb 1, 2040, .inl (fun z9 => nI ((t z9).1 / 256)))), (b2, .inl (cb 2, 2040, .inl (fun z9 => nI ((t z9).1 % 256)))), (b3, .inl (cb 3, 2040, .inl (fun z9 => (t z9).2))), (b4, .inl (cb 4, 65, .inl (fun z9 => nI ((w z9).1 / 256)))), (b5, .inl (cb 5, 65, .inl (fun z9 => nI ((w z9).1 % 256)))), (b6, .inl (cb 6, 65, .inr (.inl (fun z9 => (w z9).2.1)))), (b7, .inl (cb 7, 65, .inl (fun z9 => (w z9).2.2)))] [(r0, .inr (1, [.int th, .ref b0, .int (nI tn), .ref b1, .ref b2, .ref b3, .int (nI (wn + 1)), .ref b4, .ref b5, .ref b6, .ref b7, .int (nI ko), .int (nI mw)])), (b0, .inl (cb 0, 8, .inl (fun z9 => nI (cl z9)))), (b1, .inl (cb 1, 2040, .inl (fun z9 => nI ((t z9).1 / 256)))), (b2, .inl (cb 2, 2040, .inl (fun z9 => nI ((t z9).1 % 256)))), (b3, .inl (cb 3, 2040, .inl (fun z9 => (t z9).2))), (b4, .inl (cb 4, 65, .inl (fun z9 => nI (((va_up (inS (a * 256 + q) wn w).1 (inS (a * 256 + q) wn w).2 (a * 256 + q, ck, lb)) z9).1 / 256)))), (b5, .inl (cb 5, 65, .inl (fun z9 => nI (((va_up (inS (a * 256 + q) wn w).1 (inS (a * 256 + q) wn w).2 (a * 256 + q, ck, lb)) z9).1 % 256)))), (b6, .inl (cb 6, 65, .inr (.inl (fun z9 => ((va_up (inS (a * 256 + q) wn w).1 (inS (a * 256 + q) wn w).2 (a * 256 + q, ck, lb)) z9).2.1)))), (b7, .inl (cb 7, 65, .inl (fun z9 => ((va_up (inS (a * 256 + q) wn w).1 (inS (a * 256 + q) wn w).2 (a * 256 + q, ck, lb)) z9).2.2)))] sz) 0 0 (va_A [(r0, .inr (1, [.int th, .ref b0, .int (nI tn), .ref b1, .ref b2, .ref b3, .int (nI wn), .ref b4, .ref b5, .ref b6, .ref b7, .int (nI ko), .int (nI mw)])), (b0, .inl (cb 0, 8, .inl (fun z9 => nI (cl z9)))), (b1, .inl (cb 1, 2040, .inl (fun z9 => nI ((t z9).1 / 256)))), (b2, .inl (cb 2, 2040, .inl (fun z9 => nI ((t z9).1 % 256)))), (b3, .inl (cb 3, 2040, .inl (fun z9 => (t z9).2))), (b4, .inl (cb 4, 65, .inl (fun z9 => nI ((w z9).1 / 256)))), (b5, .inl (cb 5, 65, .inl (fun z9 => nI ((w z9).1 % 256)))), (b6, .inl (cb 6, 65, .inr (.inl (fun z9 => (w z9).2.1)))), (b7, .inl (cb 7, 65, .inl (fun z9 => (w z9).2.2)))] sz) := by
  refine Met.ofW (cc := cY_keep) (maxL := 7) (ret := none) (by decide) rfl ?_
  intro p e s m args below meth c s₁ B hml hv
  obtain ⟨hargs, hsz, hP, hK, hD0⟩ := hv
  have hx := B.exec
  have hb := B.bytes
  have hr := B.returns
  have hts := atoms_spec (ws := wsY_keep) B.pre
  have hown : s.vm.findClass RY = some m.cls := findClass_of_methodNamed B.named
  have hlocks := B.notSynchronized
  subst hsz
  have hD := hD0.self (sz := s.heap.size)
  obtain ⟨A, hAe⟩ : ∃ A, A = va_A [(r0, .inr (1, [.int th, .ref b0, .int (nI tn), .ref b1, .ref b2, .ref b3, .int (nI wn), .ref b4, .ref b5, .ref b6, .ref b7, .int (nI ko), .int (nI mw)])), (b0, .inl (cb 0, 8, .inl (fun z9 => nI (cl z9)))), (b1, .inl (cb 1, 2040, .inl (fun z9 => nI ((t z9).1 / 256)))), (b2, .inl (cb 2, 2040, .inl (fun z9 => nI ((t z9).1 % 256)))), (b3, .inl (cb 3, 2040, .inl (fun z9 => (t z9).2))), (b4, .inl (cb 4, 65, .inl (fun z9 => nI ((w z9).1 / 256)))), (b5, .inl (cb 5, 65, .inl (fun z9 => nI ((w z9).1 % 256)))), (b6, .inl (cb 6, 65, .inr (.inl (fun z9 => (w z9).2.1)))), (b7, .inl (cb 7, 65, .inl (fun z9 => (w z9).2.2)))] s.heap.size := ⟨_, rfl⟩
  rw [← hAe] at hD ⊢
  have hA : ∀ q : Nat, s.heap.size ≤ q → A q := fun q h => by rw [hAe]; exact Or.inr h
  have hS : va_S A s.heap s.heap [] := va_S.rf
  have hP : va_P (dC, dI) clS [(r0, .inr (1, [.int th, .ref b0, .int (nI tn), .ref b1, .ref b2, .ref b3, .int (nI wn), .ref b4, .ref b5, .ref b6, .ref b7, .int (nI ko), .int (nI mw)])), (b0, .inl (cb 0, 8, .inl (fun z9 => nI (cl z9)))), (b1, .inl (cb 1, 2040, .inl (fun z9 => nI ((t z9).1 / 256)))), (b2, .inl (cb 2, 2040, .inl (fun z9 => nI ((t z9).1 % 256)))), (b3, .inl (cb 3, 2040, .inl (fun z9 => (t z9).2))), (b4, .inl (cb 4, 65, .inl (fun z9 => nI ((w z9).1 / 256)))), (b5, .inl (cb 5, 65, .inl (fun z9 => nI ((w z9).1 % 256)))), (b6, .inl (cb 6, 65, .inr (.inl (fun z9 => (w z9).2.1)))), (b7, .inl (cb 7, 65, .inl (fun z9 => (w z9).2.2)))] s.heap := hP
  have hl := lv_entry ([.ref r0, .int (nI a), .int (nI q), .long ck, .int lb]) (n := 7) (Nat.le_of_ble_eq_true rfl)
  have hE : entryFrame m args 7 = F0 m 0 ((lg_sl ([.ref r0, .int (nI a), .int (nI q), .long ck, .int lb]) ++ List.replicate (7 - (lg_sl ([.ref r0, .int (nI a), .int (nI q), .long ck, .int lb])).length) Slot.unset).toArray) [] := by rw [hargs]; exact lg_entry_eq m ([.ref r0, .int (nI a), .int (nI q), .long ck, .int lb]) 7
  rw [hE]
  generalize (lg_sl ([.ref r0, .int (nI a), .int (nI q), .long ck, .int lb]) ++ List.replicate (7 - (lg_sl ([.ref r0, .int (nI a), .int (nI q), .long ck, .int lb])).length) Slot.unset).toArray = ls at hl ⊢
  have hl : lv_has ls 7 [(0, .ref r0), (1, .int (nI a)), (2, .int (nI q)), (3, .long ck), (5, .int lb)] := hl
  refine lv_aload_n hx hb dY_keep_0 rfl (lv_at hl 0 rfl) ?_
  refine va_get (D := (dC, dI)) (ci := 1) (v := .int (nI wn)) (C := RY) (T := TY) (N := 13) hx hb hts in_Y_keep_Y hown hK hP 0 rfl rfl 6 (by decide) (hts (.fieldLink RY 49 "CausalGateModel" "waiting" "I") (by decide +kernel)) (fun _ h9 => h9) rfl dY_keep_1 ?_
  refine lv_istore (lv' := [(6, .int (nI wn)), (0, .ref r0), (1, .int (nI a)), (2, .int (nI q)), (3, .long ck), (5, .int lb)]) hx hb dY_keep_4 hl (by decide) rfl (fun ls hl => ?_)
  have loop : ∀ (n : Nat) (v : WF), n ≤ wn → (∀ j, j < n → (v j).1 < 2048) → inS (a * 256 + q) n v = inS (a * 256 + q) wn w → ∀ (H : Heap) (locs : List Loc), va_P (dC, dI) clS [(r0, .inr (1, [.int th, .ref b0, .int (nI tn), .ref b1, .ref b2, .ref b3, .int (nI wn), .ref b4, .ref b5, .ref b6, .ref b7, .int (nI ko), .int (nI mw)])), (b0, .inl (cb 0, 8, .inl (fun z9 => nI (cl z9)))), (b1, .inl (cb 1, 2040, .inl (fun z9 => nI ((t z9).1 / 256)))), (b2, .inl (cb 2, 2040, .inl (fun z9 => nI ((t z9).1 % 256)))), (b3, .inl (cb 3, 2040, .inl (fun z9 => (t z9).2))), (b4, .inl (cb 4, 65, .inl (fun z9 => nI ((v z9).1 / 256)))), (b5, .inl (cb 5, 65, .inl (fun z9 => nI ((v z9).1 % 256)))), (b6, .inl (cb 6, 65, .inr (.inl (fun z9 => (v z9).2.1)))), (b7, .inl (cb 7, 65, .inl (fun z9 => (v z9).2.2)))] H → va_D A [(r0, .inr (1, [.int th, .ref b0, .int (nI tn), .ref b1, .ref b2, .ref b3, .int (nI wn), .ref b4, .ref b5, .ref b6, .ref b7, .int (nI ko), .int (nI mw)])), (b0, .inl (cb 0, 8, .inl (fun z9 => nI (cl z9)))), (b1, .inl (cb 1, 2040, .inl (fun z9 => nI ((t z9).1 / 256)))), (b2, .inl (cb 2, 2040, .inl (fun z9 => nI ((t z9).1 % 256)))), (b3, .inl (cb 3, 2040, .inl (fun z9 => (t z9).2))), (b4, .inl (cb 4, 65, .inl (fun z9 => nI ((v z9).1 / 256)))), (b5, .inl (cb 5, 65, .inl (fun z9 => nI ((v z9).1 % 256)))), (b6, .inl (cb 6, 65, .inr (.inl (fun z9 => (v z9).2.1)))), (b7, .inl (cb 7, 65, .inl (fun z9 => (v z9).2.2)))] → va_S A s.heap H locs → ∀ ls : Array Slot, lv_has ls 7 [(0, .ref r0), (1, .int (nI a)), (2, .int (nI q)), (3, .long ck), (5, .int lb), (6, .int (nI n))] → W p l e (headSpec wsY_keep ({ frames := 0, cells := 0, slots := 0, locals := 0 })).room s m args below meth c H locs 0 0 (MQ below (QmV (dC, dI) clS [(r0, .inr (1, [.int th, .ref b0, .int (nI tn), .ref b1, .ref b2, .ref b3, .int (nI wn), .ref b4, .ref b5, .ref b6, .ref b7, .int (nI ko), .int (nI mw)])), (b0, .inl (cb 0, 8, .inl (fun z9 => nI (cl z9)))), (b1, .inl (cb 1, 2040, .inl (fun z9 => nI ((t z9).1 / 256)))), (b2, .inl (cb 2, 2040, .inl (fun z9 => nI ((t z9).1 % 256)))), (b3, .inl (cb 3, 2040, .inl (fun z9 => (t z9).2))), (b4, .inl (cb 4, 65, .inl (fun z9 => nI ((w z9).1 / 256)))), (b5, .inl (cb 5, 65, .inl (fun z9 => nI ((w z9).1 % 256)))), (b6, .inl (cb 6, 65, .inr (.inl (fun z9 => (w z9).2.1)))), (b7, .inl (cb 7, 65, .inl (fun z9 => (w z9).2.2)))] [(r0, .inr (1, [.int th, .ref b0, .int (nI tn), .ref b1, .ref b2, .ref b3, .int (nI (wn + 1)), .ref b4, .ref b5, .ref b6, .ref b7, .int (nI ko), .int (nI mw)])), (b0, .inl (cb 0, 8, .inl (fun z9 => nI (cl z9)))), (b1, .inl (cb 1, 2040, .inl (fun z9 => nI ((t z9).1 / 256)))), (b2, .inl (cb 2, 2040, .inl (fun z9 => nI ((t z9).1 % 256)))), (b3, .inl (cb 3, 2040, .inl (fun z9 => (t z9).2))), (b4, .inl (cb 4, 65, .inl (fun z9 => nI (((va_up (inS (a * 256 + q) wn w).1 (inS (a * 256 + q) wn w).2 (a * 256 + q, ck, lb)) z9).1 / 256)))), (b5, .inl (cb 5, 65, .inl (fun z9 => nI (((va_up (inS (a * 256 + q) wn w).1 (inS (a * 256 + q) wn w).2 (a * 256 + q, ck, lb)) z9).1 % 256)))), (b6, .inl (cb 6, 65, .inr (.inl (fun z9 => ((va_up (inS (a * 256 + q) wn w).1 (inS (a * 256 + q) wn w).2 (a * 256 + q, ck, lb)) z9).2.1)))), (b7, .inl (cb 7, 65, .inl (fun z9 => ((va_up (inS (a * 256 + q) wn w).1 (inS (a * 256 + q) wn w).2 (a * 256 + q, ck, lb)) z9).2.2)))] s.heap.size) args s 0 0 A) (F0 m 6 ls []) := by
    intro n
    induction n with
    | zero =>
      intro v hn hv hk9 H locs hP hD hS ls hl
      refine lv_iload hx hb dY_keep_6 (lv_at hl 5 rfl) ?_
      refine lv_if_le (tgt := 120) hx hb dY_keep_8 (by decide) (fun c_8 => ?_) (fun c_8 => ?_)
      · have hk8 : inS (a * 256 + q) wn w = (v, 0) := hk9.symm
        refine lv_aload_n hx hb dY_keep_120 rfl (lv_at hl 0 rfl) ?_
        refine va_get (D := (dC, dI)) (ci := 1) (v := .ref b4) (C := RY) (T := TY) (N := 13) hx hb hts in_Y_keep_Y hown hK hP 0 rfl rfl 7 (by decide) (hts (.fieldLink RY 22 "CausalGateModel" "wActors" "[I") (by decide +kernel)) (fun _ h9 => h9) rfl dY_keep_121 ?_
        refine lv_iload hx hb dY_keep_124 (lv_at hl 5 rfl) ?_
        refine lv_iload_n hx hb dY_keep_126 rfl (lv_at hl 1 rfl) ?_
        refine va_iast hx hb hK hP hD hS 5 4 rfl rfl (vp_in_nI (by omega) (by decide)) dY_keep_127 (fun H locs hP hD hS => ?_)
        rw [show upd (fun z9 => nI ((v z9).1 / 256)) (nI 0).toNatClampNeg (nI a) = fun z9 => nI ((va_up v 0 (a * 256 + q, ck, lb) z9).1 / 256) from by rw [nI_clamp (by omega)]; have h : upd (fun z9 => nI ((v z9).1 / 256)) 0 (nI ((a * 256 + q) / 256)) = _ := um_a v 0 (a * 256 + q, ck, lb); rw [key_d hq] at h; exact h] at hP hD
        have hP : va_P (dC, dI) clS [(r0, .inr (1, [.int th, .ref b0, .int (nI tn), .ref b1, .ref b2, .ref b3, .int (nI wn), .ref b4, .ref b5, .ref b6, .ref b7, .int (nI ko), .int (nI mw)])), (b0, .inl (cb 0, 8, .inl (fun z9 => nI (cl z9)))), (b1, .inl (cb 1, 2040, .inl (fun z9 => nI ((t z9).1 / 256)))), (b2, .inl (cb 2, 2040, .inl (fun z9 => nI ((t z9).1 % 256)))), (b3, .inl (cb 3, 2040, .inl (fun z9 => (t z9).2))), (b4, .inl (cb 4, 65, .inl (fun z9 => nI ((va_up v 0 (a * 256 + q, ck, lb) z9).1 / 256)))), (b5, .inl (cb 5, 65, .inl (fun z9 => nI ((v z9).1 % 256)))), (b6, .inl (cb 6, 65, .inr (.inl (fun z9 => (v z9).2.1)))), (b7, .inl (cb 7, 65, .inl (fun z9 => (v z9).2.2)))] H := hP
        have hD : va_D A [(r0, .inr (1, [.int th, .ref b0, .int (nI tn), .ref b1, .ref b2, .ref b3, .int (nI wn), .ref b4, .ref b5, .ref b6, .ref b7, .int (nI ko), .int (nI mw)])), (b0, .inl (cb 0, 8, .inl (fun z9 => nI (cl z9)))), (b1, .inl (cb 1, 2040, .inl (fun z9 => nI ((t z9).1 / 256)))), (b2, .inl (cb 2, 2040, .inl (fun z9 => nI ((t z9).1 % 256)))), (b3, .inl (cb 3, 2040, .inl (fun z9 => (t z9).2))), (b4, .inl (cb 4, 65, .inl (fun z9 => nI ((va_up v 0 (a * 256 + q, ck, lb) z9).1 / 256)))), (b5, .inl (cb 5, 65, .inl (fun z9 => nI ((v z9).1 % 256)))), (b6, .inl (cb 6, 65, .inr (.inl (fun z9 => (v z9).2.1)))), (b7, .inl (cb 7, 65, .inl (fun z9 => (v z9).2.2)))] := hD
        refine lv_aload_n hx hb dY_keep_128 rfl (lv_at hl 0 rfl) ?_
        refine va_get (D := (dC, dI)) (ci := 1) (v := .ref b5) (C := RY) (T := TY) (N := 13) hx hb hts in_Y_keep_Y hown hK hP 0 rfl rfl 8 (by decide) (hts (.fieldLink RY 25 "CausalGateModel" "wSeqs" "[I") (by decide +kernel)) (fun _ h9 => h9) rfl dY_keep_129 ?_
        refine lv_iload hx hb dY_keep_132 (lv_at hl 5 rfl) ?_
        refine lv_iload_n hx hb dY_keep_134 rfl (lv_at hl 2 rfl) ?_
        refine va_iast hx hb hK hP hD hS 6 5 rfl rfl (vp_in_nI (by omega) (by decide)) dY_keep_135 (fun H locs hP hD hS => ?_)
        rw [show upd (fun z9 => nI ((v z9).1 % 256)) (nI 0).toNatClampNeg (nI q) = fun z9 => nI ((va_up v 0 (a * 256 + q, ck, lb) z9).1 % 256) from by rw [nI_clamp (by omega)]; have h : upd (fun z9 => nI ((v z9).1 % 256)) 0 (nI ((a * 256 + q) % 256)) = _ := um_s v 0 (a * 256 + q, ck, lb); rw [key_m hq] at h; exact h] at hP hD
        have hP : va_P (dC, dI) clS [(r0, .inr (1, [.int th, .ref b0, .int (nI tn), .ref b1, .ref b2, .ref b3, .int (nI wn), .ref b4, .ref b5, .ref b6, .ref b7, .int (nI ko), .int (nI mw)])), (b0, .inl (cb 0, 8, .inl (fun z9 => nI (cl z9)))), (b1, .inl (cb 1, 2040, .inl (fun z9 => nI ((t z9).1 / 256)))), (b2, .inl (cb 2, 2040, .inl (fun z9 => nI ((t z9).1 % 256)))), (b3, .inl (cb 3, 2040, .inl (fun z9 => (t z9).2))), (b4, .inl (cb 4, 65, .inl (fun z9 => nI ((va_up v 0 (a * 256 + q, ck, lb) z9).1 / 256)))), (b5, .inl (cb 5, 65, .inl (fun z9 => nI ((va_up v 0 (a * 256 + q, ck, lb) z9).1 % 256)))), (b6, .inl (cb 6, 65, .inr (.inl (fun z9 => (v z9).2.1)))), (b7, .inl (cb 7, 65, .inl (fun z9 => (v z9).2.2)))] H := hP
        have hD : va_D A [(r0, .inr (1, [.int th, .ref b0, .int (nI tn), .ref b1, .ref b2, .ref b3, .int (nI wn), .ref b4, .ref b5, .ref b6, .ref b7, .int (nI ko), .int (nI mw)])), (b0, .inl (cb 0, 8, .inl (fun z9 => nI (cl z9)))), (b1, .inl (cb 1, 2040, .inl (fun z9 => nI ((t z9).1 / 256)))), (b2, .inl (cb 2, 2040, .inl (fun z9 => nI ((t z9).1 % 256)))), (b3, .inl (cb 3, 2040, .inl (fun z9 => (t z9).2))), (b4, .inl (cb 4, 65, .inl (fun z9 => nI ((va_up v 0 (a * 256 + q, ck, lb) z9).1 / 256)))), (b5, .inl (cb 5, 65, .inl (fun z9 => nI ((va_up v 0 (a * 256 + q, ck, lb) z9).1 % 256)))), (b6, .inl (cb 6, 65, .inr (.inl (fun z9 => (v z9).2.1)))), (b7, .inl (cb 7, 65, .inl (fun z9 => (v z9).2.2)))] := hD
        refine lv_aload_n hx hb dY_keep_136 rfl (lv_at hl 0 rfl) ?_
        refine va_get (D := (dC, dI)) (ci := 1) (v := .ref b6) (C := RY) (T := TY) (N := 13) hx hb hts in_Y_keep_Y hown hK hP 0 rfl rfl 9 (by decide) (hts (.fieldLink RY 28 "CausalGateModel" "wClocks" "[J") (by decide +kernel)) (fun _ h9 => h9) rfl dY_keep_137 ?_
        refine lv_iload hx hb dY_keep_140 (lv_at hl 5 rfl) ?_
        refine lv_lload_n hx hb dY_keep_142 rfl (lv_at hl 3 rfl) ?_
        refine va_last hx hb hK hP hD hS 7 6 rfl rfl (vp_in_nI (by omega) (by decide)) dY_keep_143 (fun H locs hP hD hS => ?_)
        rw [show vp_updL (fun z9 => (v z9).2.1) (nI 0).toNatClampNeg ck = fun z9 => (va_up v 0 (a * 256 + q, ck, lb) z9).2.1 from by rw [nI_clamp (by omega)]; exact up_c v 0 (a * 256 + q, ck, lb)] at hP hD
        have hP : va_P (dC, dI) clS [(r0, .inr (1, [.int th, .ref b0, .int (nI tn), .ref b1, .ref b2, .ref b3, .int (nI wn), .ref b4, .ref b5, .ref b6, .ref b7, .int (nI ko), .int (nI mw)])), (b0, .inl (cb 0, 8, .inl (fun z9 => nI (cl z9)))), (b1, .inl (cb 1, 2040, .inl (fun z9 => nI ((t z9).1 / 256)))), (b2, .inl (cb 2, 2040, .inl (fun z9 => nI ((t z9).1 % 256)))), (b3, .inl (cb 3, 2040, .inl (fun z9 => (t z9).2))), (b4, .inl (cb 4, 65, .inl (fun z9 => nI ((va_up v 0 (a * 256 + q, ck, lb) z9).1 / 256)))), (b5, .inl (cb 5, 65, .inl (fun z9 => nI ((va_up v 0 (a * 256 + q, ck, lb) z9).1 % 256)))), (b6, .inl (cb 6, 65, .inr (.inl (fun z9 => (va_up v 0 (a * 256 + q, ck, lb) z9).2.1)))), (b7, .inl (cb 7, 65, .inl (fun z9 => (v z9).2.2)))] H := hP
        have hD : va_D A [(r0, .inr (1, [.int th, .ref b0, .int (nI tn), .ref b1, .ref b2, .ref b3, .int (nI wn), .ref b4, .ref b5, .ref b6, .ref b7, .int (nI ko), .int (nI mw)])), (b0, .inl (cb 0, 8, .inl (fun z9 => nI (cl z9)))), (b1, .inl (cb 1, 2040, .inl (fun z9 => nI ((t z9).1 / 256)))), (b2, .inl (cb 2, 2040, .inl (fun z9 => nI ((t z9).1 % 256)))), (b3, .inl (cb 3, 2040, .inl (fun z9 => (t z9).2))), (b4, .inl (cb 4, 65, .inl (fun z9 => nI ((va_up v 0 (a * 256 + q, ck, lb) z9).1 / 256)))), (b5, .inl (cb 5, 65, .inl (fun z9 => nI ((va_up v 0 (a * 256 + q, ck, lb) z9).1 % 256)))), (b6, .inl (cb 6, 65, .inr (.inl (fun z9 => (va_up v 0 (a * 256 + q, ck, lb) z9).2.1)))), (b7, .inl (cb 7, 65, .inl (fun z9 => (v z9).2.2)))] := hD
        refine lv_aload_n hx hb dY_keep_144 rfl (lv_at hl 0 rfl) ?_
        refine va_get (D := (dC, dI)) (ci := 1) (v := .ref b7) (C := RY) (T := TY) (N := 13) hx hb hts in_Y_keep_Y hown hK hP 0 rfl rfl 10 (by decide) (hts (.fieldLink RY 32 "CausalGateModel" "wLabels" "[I") (by decide +kernel)) (fun _ h9 => h9) rfl dY_keep_145 ?_
        refine lv_iload hx hb dY_keep_148 (lv_at hl 5 rfl) ?_
        refine lv_iload hx hb dY_keep_150 (lv_at hl 4 rfl) ?_
        refine va_iast hx hb hK hP hD hS 8 7 rfl rfl (vp_in_nI (by omega) (by decide)) dY_keep_152 (fun H locs hP hD hS => ?_)
        rw [show upd (fun z9 => (v z9).2.2) (nI 0).toNatClampNeg lb = fun z9 => (va_up v 0 (a * 256 + q, ck, lb) z9).2.2 from by rw [nI_clamp (by omega)]; exact up_l v 0 (a * 256 + q, ck, lb)] at hP hD
        have hP : va_P (dC, dI) clS [(r0, .inr (1, [.int th, .ref b0, .int (nI tn), .ref b1, .ref b2, .ref b3, .int (nI wn), .ref b4, .ref b5, .ref b6, .ref b7, .int (nI ko), .int (nI mw)])), (b0, .inl (cb 0, 8, .inl (fun z9 => nI (cl z9)))), (b1, .inl (cb 1, 2040, .inl (fun z9 => nI ((t z9).1 / 256)))), (b2, .inl (cb 2, 2040, .inl (fun z9 => nI ((t z9).1 % 256)))), (b3, .inl (cb 3, 2040, .inl (fun z9 => (t z9).2))), (b4, .inl (cb 4, 65, .inl (fun z9 => nI ((va_up v 0 (a * 256 + q, ck, lb) z9).1 / 256)))), (b5, .inl (cb 5, 65, .inl (fun z9 => nI ((va_up v 0 (a * 256 + q, ck, lb) z9).1 % 256)))), (b6, .inl (cb 6, 65, .inr (.inl (fun z9 => (va_up v 0 (a * 256 + q, ck, lb) z9).2.1)))), (b7, .inl (cb 7, 65, .inl (fun z9 => (va_up v 0 (a * 256 + q, ck, lb) z9).2.2)))] H := hP
        have hD : va_D A [(r0, .inr (1, [.int th, .ref b0, .int (nI tn), .ref b1, .ref b2, .ref b3, .int (nI wn), .ref b4, .ref b5, .ref b6, .ref b7, .int (nI ko), .int (nI mw)])), (b0, .inl (cb 0, 8, .inl (fun z9 => nI (cl z9)))), (b1, .inl (cb 1, 2040, .inl (fun z9 => nI ((t z9).1 / 256)))), (b2, .inl (cb 2, 2040, .inl (fun z9 => nI ((t z9).1 % 256)))), (b3, .inl (cb 3, 2040, .inl (fun z9 => (t z9).2))), (b4, .inl (cb 4, 65, .inl (fun z9 => nI ((va_up v 0 (a * 256 + q, ck, lb) z9).1 / 256)))), (b5, .inl (cb 5, 65, .inl (fun z9 => nI ((va_up v 0 (a * 256 + q, ck, lb) z9).1 % 256)))), (b6, .inl (cb 6, 65, .inr (.inl (fun z9 => (va_up v 0 (a * 256 + q, ck, lb) z9).2.1)))), (b7, .inl (cb 7, 65, .inl (fun z9 => (va_up v 0 (a * 256 + q, ck, lb) z9).2.2)))] := hD
        refine lv_aload_n hx hb dY_keep_153 rfl (lv_at hl 0 rfl) ?_
        refine lv_dup hx hb dY_keep_154 rfl ?_
        refine va_get (D := (dC, dI)) (ci := 1) (v := .int (nI wn)) (C := RY) (T := TY) (N := 13) hx hb hts in_Y_keep_Y hown hK hP 0 rfl rfl 6 (by decide) (hts (.fieldLink RY 49 "CausalGateModel" "waiting" "I") (by decide +kernel)) (fun _ h9 => h9) rfl dY_keep_155 ?_
        refine lv_iconst (v := 1) hx hb dY_keep_158 (by decide) ?_
        refine lv_iadd hx hb dY_keep_159 ?_
        refine tp_i (y := nI (wn + 1)) (nI_1 wn) ?_
        refine va_put (D := (dC, dI)) (ci := 1) (v := .int (nI (wn + 1))) (ty := .int) (C := RY) (T := TY) (N := 13) hx hb hts in_Y_keep_Y tyY tyY_ok nmY hown hK hP hD hS 0 rfl rfl 6 (by decide) (hts (.fieldLink RY 49 "CausalGateModel" "waiting" "I") (by decide +kernel)) (fun _ h9 => h9) rfl (by decide +kernel) rfl rfl (Nat.le_of_ble_eq_true rfl) dY_keep_160 (fun H locs hP hD hS => ?_)
        have hP : va_P (dC, dI) clS [(r0, .inr (1, [.int th, .ref b0, .int (nI tn), .ref b1, .ref b2, .ref b3, .int (nI (wn + 1)), .ref b4, .ref b5, .ref b6, .ref b7, .int (nI ko), .int (nI mw)])), (b0, .inl (cb 0, 8, .inl (fun z9 => nI (cl z9)))), (b1, .inl (cb 1, 2040, .inl (fun z9 => nI ((t z9).1 / 256)))), (b2, .inl (cb 2, 2040, .inl (fun z9 => nI ((t z9).1 % 256)))), (b3, .inl (cb 3, 2040, .inl (fun z9 => (t z9).2))), (b4, .inl (cb 4, 65, .inl (fun z9 => nI ((va_up v 0 (a * 256 + q, ck, lb) z9).1 / 256)))), (b5, .inl (cb 5, 65, .inl (fun z9 => nI ((va_up v 0 (a * 256 + q, ck, lb) z9).1 % 256)))), (b6, .inl (cb 6, 65, .inr (.inl (fun z9 => (va_up v 0 (a * 256 + q, ck, lb) z9).2.1)))), (b7, .inl (cb 7, 65, .inl (fun z9 => (va_up v 0 (a * 256 + q, ck, lb) z9).2.2)))] H := hP
        have hD : va_D A [(r0, .inr (1, [.int th, .ref b0, .int (nI tn), .ref b1, .ref b2, .ref b3, .int (nI (wn + 1)), .ref b4, .ref b5, .ref b6, .ref b7, .int (nI ko), .int (nI mw)])), (b0, .inl (cb 0, 8, .inl (fun z9 => nI (cl z9)))), (b1, .inl (cb 1, 2040, .inl (fun z9 => nI ((t z9).1 / 256)))), (b2, .inl (cb 2, 2040, .inl (fun z9 => nI ((t z9).1 % 256)))), (b3, .inl (cb 3, 2040, .inl (fun z9 => (t z9).2))), (b4, .inl (cb 4, 65, .inl (fun z9 => nI ((va_up v 0 (a * 256 + q, ck, lb) z9).1 / 256)))), (b5, .inl (cb 5, 65, .inl (fun z9 => nI ((va_up v 0 (a * 256 + q, ck, lb) z9).1 % 256)))), (b6, .inl (cb 6, 65, .inr (.inl (fun z9 => (va_up v 0 (a * 256 + q, ck, lb) z9).2.1)))), (b7, .inl (cb 7, 65, .inl (fun z9 => (va_up v 0 (a * 256 + q, ck, lb) z9).2.2)))] := hD
        rw [hk8]
        exact mv_ret hx hb hr hlocks hAe hP hD hS dY_keep_163
      · exact absurd (by decide) c_8
    | succ n ih =>
      intro v hn hv hk9 H locs hP hD hS ls hl
      refine lv_iload hx hb dY_keep_6 (lv_at hl 5 rfl) ?_
      refine lv_if_le (tgt := 120) hx hb dY_keep_8 (by decide) (fun c_8 => ?_) (fun c_8 => ?_)
      · exact absurd c_8 (nI_nle (by omega) (by omega))
      · refine lv_aload_n hx hb dY_keep_11 rfl (lv_at hl 0 rfl) ?_
        refine va_get (D := (dC, dI)) (ci := 1) (v := .ref b4) (C := RY) (T := TY) (N := 13) hx hb hts in_Y_keep_Y hown hK hP 0 rfl rfl 7 (by decide) (hts (.fieldLink RY 22 "CausalGateModel" "wActors" "[I") (by decide +kernel)) (fun _ h9 => h9) rfl dY_keep_12 ?_
        refine lv_iload hx hb dY_keep_15 (lv_at hl 5 rfl) ?_
        refine lv_iconst (v := 1) hx hb dY_keep_17 (by decide) ?_
        refine lv_isub hx hb dY_keep_18 ?_
        refine tp_i (y := nI n) (nI_pred n) ?_
        refine va_iald hx hb hK hP 5 4 rfl rfl (vp_in_nI (by omega) (by decide)) dY_keep_19 ?_
        refine tp_i (y := nI ((v n).1 / 256)) (by rw [nI_clamp (by omega)]) ?_
        have hvn := hv n (by omega)
        refine lv_iload_n hx hb dY_keep_20 rfl (lv_at hl 1 rfl) ?_
        refine lv_icmp_gt (tgt := 50) hx hb dY_keep_21 (by decide) (fun c_21 => ?_) (fun c_21 => ?_)
        · have c7 : a * 256 + q < (v n).1 := by have := (nI_ltI (by omega) (by omega)).mp c_21; omega
          refine lv_aload_n hx hb dY_keep_50 rfl (lv_at hl 0 rfl) ?_
          refine va_get (D := (dC, dI)) (ci := 1) (v := .ref b4) (C := RY) (T := TY) (N := 13) hx hb hts in_Y_keep_Y hown hK hP 0 rfl rfl 7 (by decide) (hts (.fieldLink RY 22 "CausalGateModel" "wActors" "[I") (by decide +kernel)) (fun _ h9 => h9) rfl dY_keep_51 ?_
          refine lv_iload hx hb dY_keep_54 (lv_at hl 5 rfl) ?_
          refine lv_aload_n hx hb dY_keep_56 rfl (lv_at hl 0 rfl) ?_
          refine va_get (D := (dC, dI)) (ci := 1) (v := .ref b4) (C := RY) (T := TY) (N := 13) hx hb hts in_Y_keep_Y hown hK hP 0 rfl rfl 7 (by decide) (hts (.fieldLink RY 22 "CausalGateModel" "wActors" "[I") (by decide +kernel)) (fun _ h9 => h9) rfl dY_keep_57 ?_
          refine lv_iload hx hb dY_keep_60 (lv_at hl 5 rfl) ?_
          refine lv_iconst (v := 1) hx hb dY_keep_62 (by decide) ?_
          refine lv_isub hx hb dY_keep_63 ?_
          refine tp_i (y := nI n) (nI_pred n) ?_
          refine va_iald hx hb hK hP 5 4 rfl rfl (vp_in_nI (by omega) (by decide)) dY_keep_64 ?_
          refine tp_i (y := nI ((v n).1 / 256)) (by rw [nI_clamp (by omega)]) ?_
          refine va_iast hx hb hK hP hD hS 5 4 rfl rfl (vp_in_nI (by omega) (by decide)) dY_keep_65 (fun H locs hP hD hS => ?_)
          rw [show upd (fun z9 => nI ((v z9).1 / 256)) (nI (n + 1)).toNatClampNeg (nI ((v n).1 / 256)) = fun z9 => nI ((va_up v (n + 1) (v n) z9).1 / 256) from by rw [nI_clamp (by omega)]; exact um_a v (n + 1) (v n)] at hP hD
          have hP : va_P (dC, dI) clS [(r0, .inr (1, [.int th, .ref b0, .int (nI tn), .ref b1, .ref b2, .ref b3, .int (nI wn), .ref b4, .ref b5, .ref b6, .ref b7, .int (nI ko), .int (nI mw)])), (b0, .inl (cb 0, 8, .inl (fun z9 => nI (cl z9)))), (b1, .inl (cb 1, 2040, .inl (fun z9 => nI ((t z9).1 / 256)))), (b2, .inl (cb 2, 2040, .inl (fun z9 => nI ((t z9).1 % 256)))), (b3, .inl (cb 3, 2040, .inl (fun z9 => (t z9).2))), (b4, .inl (cb 4, 65, .inl (fun z9 => nI ((va_up v (n + 1) (v n) z9).1 / 256)))), (b5, .inl (cb 5, 65, .inl (fun z9 => nI ((v z9).1 % 256)))), (b6, .inl (cb 6, 65, .inr (.inl (fun z9 => (v z9).2.1)))), (b7, .inl (cb 7, 65, .inl (fun z9 => (v z9).2.2)))] H := hP
          have hD : va_D A [(r0, .inr (1, [.int th, .ref b0, .int (nI tn), .ref b1, .ref b2, .ref b3, .int (nI wn), .ref b4, .ref b5, .ref b6, .ref b7, .int (nI ko), .int (nI mw)])), (b0, .inl (cb 0, 8, .inl (fun z9 => nI (cl z9)))), (b1, .inl (cb 1, 2040, .inl (fun z9 => nI ((t z9).1 / 256)))), (b2, .inl (cb 2, 2040, .inl (fun z9 => nI ((t z9).1 % 256)))), (b3, .inl (cb 3, 2040, .inl (fun z9 => (t z9).2))), (b4, .inl (cb 4, 65, .inl (fun z9 => nI ((va_up v (n + 1) (v n) z9).1 / 256)))), (b5, .inl (cb 5, 65, .inl (fun z9 => nI ((v z9).1 % 256)))), (b6, .inl (cb 6, 65, .inr (.inl (fun z9 => (v z9).2.1)))), (b7, .inl (cb 7, 65, .inl (fun z9 => (v z9).2.2)))] := hD
          refine lv_aload_n hx hb dY_keep_66 rfl (lv_at hl 0 rfl) ?_
          refine va_get (D := (dC, dI)) (ci := 1) (v := .ref b5) (C := RY) (T := TY) (N := 13) hx hb hts in_Y_keep_Y hown hK hP 0 rfl rfl 8 (by decide) (hts (.fieldLink RY 25 "CausalGateModel" "wSeqs" "[I") (by decide +kernel)) (fun _ h9 => h9) rfl dY_keep_67 ?_
          refine lv_iload hx hb dY_keep_70 (lv_at hl 5 rfl) ?_
          refine lv_aload_n hx hb dY_keep_72 rfl (lv_at hl 0 rfl) ?_
          refine va_get (D := (dC, dI)) (ci := 1) (v := .ref b5) (C := RY) (T := TY) (N := 13) hx hb hts in_Y_keep_Y hown hK hP 0 rfl rfl 8 (by decide) (hts (.fieldLink RY 25 "CausalGateModel" "wSeqs" "[I") (by decide +kernel)) (fun _ h9 => h9) rfl dY_keep_73 ?_
          refine lv_iload hx hb dY_keep_76 (lv_at hl 5 rfl) ?_
          refine lv_iconst (v := 1) hx hb dY_keep_78 (by decide) ?_
          refine lv_isub hx hb dY_keep_79 ?_
          refine tp_i (y := nI n) (nI_pred n) ?_
          refine va_iald hx hb hK hP 6 5 rfl rfl (vp_in_nI (by omega) (by decide)) dY_keep_80 ?_
          refine tp_i (y := nI ((v n).1 % 256)) (by rw [nI_clamp (by omega)]) ?_
          refine va_iast hx hb hK hP hD hS 6 5 rfl rfl (vp_in_nI (by omega) (by decide)) dY_keep_81 (fun H locs hP hD hS => ?_)
          rw [show upd (fun z9 => nI ((v z9).1 % 256)) (nI (n + 1)).toNatClampNeg (nI ((v n).1 % 256)) = fun z9 => nI ((va_up v (n + 1) (v n) z9).1 % 256) from by rw [nI_clamp (by omega)]; exact um_s v (n + 1) (v n)] at hP hD
          have hP : va_P (dC, dI) clS [(r0, .inr (1, [.int th, .ref b0, .int (nI tn), .ref b1, .ref b2, .ref b3, .int (nI wn), .ref b4, .ref b5, .ref b6, .ref b7, .int (nI ko), .int (nI mw)])), (b0, .inl (cb 0, 8, .inl (fun z9 => nI (cl z9)))), (b1, .inl (cb 1, 2040, .inl (fun z9 => nI ((t z9).1 / 256)))), (b2, .inl (cb 2, 2040, .inl (fun z9 => nI ((t z9).1 % 256)))), (b3, .inl (cb 3, 2040, .inl (fun z9 => (t z9).2))), (b4, .inl (cb 4, 65, .inl (fun z9 => nI ((va_up v (n + 1) (v n) z9).1 / 256)))), (b5, .inl (cb 5, 65, .inl (fun z9 => nI ((va_up v (n + 1) (v n) z9).1 % 256)))), (b6, .inl (cb 6, 65, .inr (.inl (fun z9 => (v z9).2.1)))), (b7, .inl (cb 7, 65, .inl (fun z9 => (v z9).2.2)))] H := hP
          have hD : va_D A [(r0, .inr (1, [.int th, .ref b0, .int (nI tn), .ref b1, .ref b2, .ref b3, .int (nI wn), .ref b4, .ref b5, .ref b6, .ref b7, .int (nI ko), .int (nI mw)])), (b0, .inl (cb 0, 8, .inl (fun z9 => nI (cl z9)))), (b1, .inl (cb 1, 2040, .inl (fun z9 => nI ((t z9).1 / 256)))), (b2, .inl (cb 2, 2040, .inl (fun z9 => nI ((t z9).1 % 256)))), (b3, .inl (cb 3, 2040, .inl (fun z9 => (t z9).2))), (b4, .inl (cb 4, 65, .inl (fun z9 => nI ((va_up v (n + 1) (v n) z9).1 / 256)))), (b5, .inl (cb 5, 65, .inl (fun z9 => nI ((va_up v (n + 1) (v n) z9).1 % 256)))), (b6, .inl (cb 6, 65, .inr (.inl (fun z9 => (v z9).2.1)))), (b7, .inl (cb 7, 65, .inl (fun z9 => (v z9).2.2)))] := hD
          refine lv_aload_n hx hb dY_keep_82 rfl (lv_at hl 0 rfl) ?_
          refine va_get (D := (dC, dI)) (ci := 1) (v := .ref b6) (C := RY) (T := TY) (N := 13) hx hb hts in_Y_keep_Y hown hK hP 0 rfl rfl 9 (by decide) (hts (.fieldLink RY 28 "CausalGateModel" "wClocks" "[J") (by decide +kernel)) (fun _ h9 => h9) rfl dY_keep_83 ?_
          refine lv_iload hx hb dY_keep_86 (lv_at hl 5 rfl) ?_
          refine lv_aload_n hx hb dY_keep_88 rfl (lv_at hl 0 rfl) ?_
          refine va_get (D := (dC, dI)) (ci := 1) (v := .ref b6) (C := RY) (T := TY) (N := 13) hx hb hts in_Y_keep_Y hown hK hP 0 rfl rfl 9 (by decide) (hts (.fieldLink RY 28 "CausalGateModel" "wClocks" "[J") (by decide +kernel)) (fun _ h9 => h9) rfl dY_keep_89 ?_
          refine lv_iload hx hb dY_keep_92 (lv_at hl 5 rfl) ?_
          refine lv_iconst (v := 1) hx hb dY_keep_94 (by decide) ?_
          refine lv_isub hx hb dY_keep_95 ?_
          refine tp_i (y := nI n) (nI_pred n) ?_
          refine va_lald hx hb hK hP 7 6 rfl rfl (vp_in_nI (by omega) (by decide)) dY_keep_96 ?_
          refine tp_l (y := (v n).2.1) (by rw [nI_clamp (by omega)]) ?_
          refine va_last hx hb hK hP hD hS 7 6 rfl rfl (vp_in_nI (by omega) (by decide)) dY_keep_97 (fun H locs hP hD hS => ?_)
          rw [show vp_updL (fun z9 => (v z9).2.1) (nI (n + 1)).toNatClampNeg ((v n).2.1) = fun z9 => (va_up v (n + 1) (v n) z9).2.1 from by rw [nI_clamp (by omega)]; exact up_c v (n + 1) (v n)] at hP hD
          have hP : va_P (dC, dI) clS [(r0, .inr (1, [.int th, .ref b0, .int (nI tn), .ref b1, .ref b2, .ref b3, .int (nI wn), .ref b4, .ref b5, .ref b6, .ref b7, .int (nI ko), .int (nI mw)])), (b0, .inl (cb 0, 8, .inl (fun z9 => nI (cl z9)))), (b1, .inl (cb 1, 2040, .inl (fun z9 => nI ((t z9).1 / 256)))), (b2, .inl (cb 2, 2040, .inl (fun z9 => nI ((t z9).1 % 256)))), (b3, .inl (cb 3, 2040, .inl (fun z9 => (t z9).2))), (b4, .inl (cb 4, 65, .inl (fun z9 => nI ((va_up v (n + 1) (v n) z9).1 / 256)))), (b5, .inl (cb 5, 65, .inl (fun z9 => nI ((va_up v (n + 1) (v n) z9).1 % 256)))), (b6, .inl (cb 6, 65, .inr (.inl (fun z9 => (va_up v (n + 1) (v n) z9).2.1)))), (b7, .inl (cb 7, 65, .inl (fun z9 => (v z9).2.2)))] H := hP
          have hD : va_D A [(r0, .inr (1, [.int th, .ref b0, .int (nI tn), .ref b1, .ref b2, .ref b3, .int (nI wn), .ref b4, .ref b5, .ref b6, .ref b7, .int (nI ko), .int (nI mw)])), (b0, .inl (cb 0, 8, .inl (fun z9 => nI (cl z9)))), (b1, .inl (cb 1, 2040, .inl (fun z9 => nI ((t z9).1 / 256)))), (b2, .inl (cb 2, 2040, .inl (fun z9 => nI ((t z9).1 % 256)))), (b3, .inl (cb 3, 2040, .inl (fun z9 => (t z9).2))), (b4, .inl (cb 4, 65, .inl (fun z9 => nI ((va_up v (n + 1) (v n) z9).1 / 256)))), (b5, .inl (cb 5, 65, .inl (fun z9 => nI ((va_up v (n + 1) (v n) z9).1 % 256)))), (b6, .inl (cb 6, 65, .inr (.inl (fun z9 => (va_up v (n + 1) (v n) z9).2.1)))), (b7, .inl (cb 7, 65, .inl (fun z9 => (v z9).2.2)))] := hD
          refine lv_aload_n hx hb dY_keep_98 rfl (lv_at hl 0 rfl) ?_
          refine va_get (D := (dC, dI)) (ci := 1) (v := .ref b7) (C := RY) (T := TY) (N := 13) hx hb hts in_Y_keep_Y hown hK hP 0 rfl rfl 10 (by decide) (hts (.fieldLink RY 32 "CausalGateModel" "wLabels" "[I") (by decide +kernel)) (fun _ h9 => h9) rfl dY_keep_99 ?_
          refine lv_iload hx hb dY_keep_102 (lv_at hl 5 rfl) ?_
          refine lv_aload_n hx hb dY_keep_104 rfl (lv_at hl 0 rfl) ?_
          refine va_get (D := (dC, dI)) (ci := 1) (v := .ref b7) (C := RY) (T := TY) (N := 13) hx hb hts in_Y_keep_Y hown hK hP 0 rfl rfl 10 (by decide) (hts (.fieldLink RY 32 "CausalGateModel" "wLabels" "[I") (by decide +kernel)) (fun _ h9 => h9) rfl dY_keep_105 ?_
          refine lv_iload hx hb dY_keep_108 (lv_at hl 5 rfl) ?_
          refine lv_iconst (v := 1) hx hb dY_keep_110 (by decide) ?_
          refine lv_isub hx hb dY_keep_111 ?_
          refine tp_i (y := nI n) (nI_pred n) ?_
          refine va_iald hx hb hK hP 8 7 rfl rfl (vp_in_nI (by omega) (by decide)) dY_keep_112 ?_
          refine tp_i (y := (v n).2.2) (by rw [nI_clamp (by omega)]) ?_
          refine va_iast hx hb hK hP hD hS 8 7 rfl rfl (vp_in_nI (by omega) (by decide)) dY_keep_113 (fun H locs hP hD hS => ?_)
          rw [show upd (fun z9 => (v z9).2.2) (nI (n + 1)).toNatClampNeg ((v n).2.2) = fun z9 => (va_up v (n + 1) (v n) z9).2.2 from by rw [nI_clamp (by omega)]; exact up_l v (n + 1) (v n)] at hP hD
          have hP : va_P (dC, dI) clS [(r0, .inr (1, [.int th, .ref b0, .int (nI tn), .ref b1, .ref b2, .ref b3, .int (nI wn), .ref b4, .ref b5, .ref b6, .ref b7, .int (nI ko), .int (nI mw)])), (b0, .inl (cb 0, 8, .inl (fun z9 => nI (cl z9)))), (b1, .inl (cb 1, 2040, .inl (fun z9 => nI ((t z9).1 / 256)))), (b2, .inl (cb 2, 2040, .inl (fun z9 => nI ((t z9).1 % 256)))), (b3, .inl (cb 3, 2040, .inl (fun z9 => (t z9).2))), (b4, .inl (cb 4, 65, .inl (fun z9 => nI ((va_up v (n + 1) (v n) z9).1 / 256)))), (b5, .inl (cb 5, 65, .inl (fun z9 => nI ((va_up v (n + 1) (v n) z9).1 % 256)))), (b6, .inl (cb 6, 65, .inr (.inl (fun z9 => (va_up v (n + 1) (v n) z9).2.1)))), (b7, .inl (cb 7, 65, .inl (fun z9 => (va_up v (n + 1) (v n) z9).2.2)))] H := hP
          have hD : va_D A [(r0, .inr (1, [.int th, .ref b0, .int (nI tn), .ref b1, .ref b2, .ref b3, .int (nI wn), .ref b4, .ref b5, .ref b6, .ref b7, .int (nI ko), .int (nI mw)])), (b0, .inl (cb 0, 8, .inl (fun z9 => nI (cl z9)))), (b1, .inl (cb 1, 2040, .inl (fun z9 => nI ((t z9).1 / 256)))), (b2, .inl (cb 2, 2040, .inl (fun z9 => nI ((t z9).1 % 256)))), (b3, .inl (cb 3, 2040, .inl (fun z9 => (t z9).2))), (b4, .inl (cb 4, 65, .inl (fun z9 => nI ((va_up v (n + 1) (v n) z9).1 / 256)))), (b5, .inl (cb 5, 65, .inl (fun z9 => nI ((va_up v (n + 1) (v n) z9).1 % 256)))), (b6, .inl (cb 6, 65, .inr (.inl (fun z9 => (va_up v (n + 1) (v n) z9).2.1)))), (b7, .inl (cb 7, 65, .inl (fun z9 => (va_up v (n + 1) (v n) z9).2.2)))] := hD
          refine lv_iinc (v := (nI n)) (lv' := [(6, .int (nI n)), (0, .ref r0), (1, .int (nI a)), (2, .int (nI q)), (3, .long ck), (5, .int lb)]) hx hb dY_keep_114 hl (k := 5) rfl (pk_m1 n) (by decide) rfl (fun ls hl => ?_)
          refine lv_goto (tgt := 6) hx hb dY_keep_117 (by decide) ?_
          exact ih (va_up v (n + 1) (v n)) (by omega) (fun j hj => by rw [va_up_ne _ _ (by omega)]; exact hv j (by omega)) (by rw [← hk9]; simp only [inS]; rw [if_pos c7]) _ _ hP hD hS ls (lv_sub hl [1, 2, 3, 4, 5, 0] rfl)
        · have hx21 : ¬ a < (v n).1 / 256 := fun z => c_21 (nI_lt z (by omega))
          refine lv_aload_n hx hb dY_keep_24 rfl (lv_at hl 0 rfl) ?_
          refine va_get (D := (dC, dI)) (ci := 1) (v := .ref b4) (C := RY) (T := TY) (N := 13) hx hb hts in_Y_keep_Y hown hK hP 0 rfl rfl 7 (by decide) (hts (.fieldLink RY 22 "CausalGateModel" "wActors" "[I") (by decide +kernel)) (fun _ h9 => h9) rfl dY_keep_25 ?_
          refine lv_iload hx hb dY_keep_28 (lv_at hl 5 rfl) ?_
          refine lv_iconst (v := 1) hx hb dY_keep_30 (by decide) ?_
          refine lv_isub hx hb dY_keep_31 ?_
          refine tp_i (y := nI n) (nI_pred n) ?_
          refine va_iald hx hb hK hP 5 4 rfl rfl (vp_in_nI (by omega) (by decide)) dY_keep_32 ?_
          refine tp_i (y := nI ((v n).1 / 256)) (by rw [nI_clamp (by omega)]) ?_
          refine lv_iload_n hx hb dY_keep_33 rfl (lv_at hl 1 rfl) ?_
          refine lv_icmp_ne (tgt := 120) hx hb dY_keep_34 (by decide) (fun c_34 => ?_) (fun c_34 => ?_)
          · have hx34 : ¬ (v n).1 / 256 = a := fun z => c_34 (by rw [z])
            have hk8 : inS (a * 256 + q) wn w = (v, n + 1) := by rw [← hk9]; simp only [inS]; rw [if_neg (by omega)]
            refine lv_aload_n hx hb dY_keep_120 rfl (lv_at hl 0 rfl) ?_
            refine va_get (D := (dC, dI)) (ci := 1) (v := .ref b4) (C := RY) (T := TY) (N := 13) hx hb hts in_Y_keep_Y hown hK hP 0 rfl rfl 7 (by decide) (hts (.fieldLink RY 22 "CausalGateModel" "wActors" "[I") (by decide +kernel)) (fun _ h9 => h9) rfl dY_keep_121 ?_
            refine lv_iload hx hb dY_keep_124 (lv_at hl 5 rfl) ?_
            refine lv_iload_n hx hb dY_keep_126 rfl (lv_at hl 1 rfl) ?_
            refine va_iast hx hb hK hP hD hS 5 4 rfl rfl (vp_in_nI (by omega) (by decide)) dY_keep_127 (fun H locs hP hD hS => ?_)
            rw [show upd (fun z9 => nI ((v z9).1 / 256)) (nI (n + 1)).toNatClampNeg (nI a) = fun z9 => nI ((va_up v (n + 1) (a * 256 + q, ck, lb) z9).1 / 256) from by rw [nI_clamp (by omega)]; have h : upd (fun z9 => nI ((v z9).1 / 256)) (n + 1) (nI ((a * 256 + q) / 256)) = _ := um_a v (n + 1) (a * 256 + q, ck, lb); rw [key_d hq] at h; exact h] at hP hD
            have hP : va_P (dC, dI) clS [(r0, .inr (1, [.int th, .ref b0, .int (nI tn), .ref b1, .ref b2, .ref b3, .int (nI wn), .ref b4, .ref b5, .ref b6, .ref b7, .int (nI ko), .int (nI mw)])), (b0, .inl (cb 0, 8, .inl (fun z9 => nI (cl z9)))), (b1, .inl (cb 1, 2040, .inl (fun z9 => nI ((t z9).1 / 256)))), (b2, .inl (cb 2, 2040, .inl (fun z9 => nI ((t z9).1 % 256)))), (b3, .inl (cb 3, 2040, .inl (fun z9 => (t z9).2))), (b4, .inl (cb 4, 65, .inl (fun z9 => nI ((va_up v (n + 1) (a * 256 + q, ck, lb) z9).1 / 256)))), (b5, .inl (cb 5, 65, .inl (fun z9 => nI ((v z9).1 % 256)))), (b6, .inl (cb 6, 65, .inr (.inl (fun z9 => (v z9).2.1)))), (b7, .inl (cb 7, 65, .inl (fun z9 => (v z9).2.2)))] H := hP
            have hD : va_D A [(r0, .inr (1, [.int th, .ref b0, .int (nI tn), .ref b1, .ref b2, .ref b3, .int (nI wn), .ref b4, .ref b5, .ref b6, .ref b7, .int (nI ko), .int (nI mw)])), (b0, .inl (cb 0, 8, .inl (fun z9 => nI (cl z9)))), (b1, .inl (cb 1, 2040, .inl (fun z9 => nI ((t z9).1 / 256)))), (b2, .inl (cb 2, 2040, .inl (fun z9 => nI ((t z9).1 % 256)))), (b3, .inl (cb 3, 2040, .inl (fun z9 => (t z9).2))), (b4, .inl (cb 4, 65, .inl (fun z9 => nI ((va_up v (n + 1) (a * 256 + q, ck, lb) z9).1 / 256)))), (b5, .inl (cb 5, 65, .inl (fun z9 => nI ((v z9).1 % 256)))), (b6, .inl (cb 6, 65, .inr (.inl (fun z9 => (v z9).2.1)))), (b7, .inl (cb 7, 65, .inl (fun z9 => (v z9).2.2)))] := hD
            refine lv_aload_n hx hb dY_keep_128 rfl (lv_at hl 0 rfl) ?_
            refine va_get (D := (dC, dI)) (ci := 1) (v := .ref b5) (C := RY) (T := TY) (N := 13) hx hb hts in_Y_keep_Y hown hK hP 0 rfl rfl 8 (by decide) (hts (.fieldLink RY 25 "CausalGateModel" "wSeqs" "[I") (by decide +kernel)) (fun _ h9 => h9) rfl dY_keep_129 ?_
            refine lv_iload hx hb dY_keep_132 (lv_at hl 5 rfl) ?_
            refine lv_iload_n hx hb dY_keep_134 rfl (lv_at hl 2 rfl) ?_
            refine va_iast hx hb hK hP hD hS 6 5 rfl rfl (vp_in_nI (by omega) (by decide)) dY_keep_135 (fun H locs hP hD hS => ?_)
            rw [show upd (fun z9 => nI ((v z9).1 % 256)) (nI (n + 1)).toNatClampNeg (nI q) = fun z9 => nI ((va_up v (n + 1) (a * 256 + q, ck, lb) z9).1 % 256) from by rw [nI_clamp (by omega)]; have h : upd (fun z9 => nI ((v z9).1 % 256)) (n + 1) (nI ((a * 256 + q) % 256)) = _ := um_s v (n + 1) (a * 256 + q, ck, lb); rw [key_m hq] at h; exact h] at hP hD
            have hP : va_P (dC, dI) clS [(r0, .inr (1, [.int th, .ref b0, .int (nI tn), .ref b1, .ref b2, .ref b3, .int (nI wn), .ref b4, .ref b5, .ref b6, .ref b7, .int (nI ko), .int (nI mw)])), (b0, .inl (cb 0, 8, .inl (fun z9 => nI (cl z9)))), (b1, .inl (cb 1, 2040, .inl (fun z9 => nI ((t z9).1 / 256)))), (b2, .inl (cb 2, 2040, .inl (fun z9 => nI ((t z9).1 % 256)))), (b3, .inl (cb 3, 2040, .inl (fun z9 => (t z9).2))), (b4, .inl (cb 4, 65, .inl (fun z9 => nI ((va_up v (n + 1) (a * 256 + q, ck, lb) z9).1 / 256)))), (b5, .inl (cb 5, 65, .inl (fun z9 => nI ((va_up v (n + 1) (a * 256 + q, ck, lb) z9).1 % 256)))), (b6, .inl (cb 6, 65, .inr (.inl (fun z9 => (v z9).2.1)))), (b7, .inl (cb 7, 65, .inl (fun z9 => (v z9).2.2)))] H := hP
            have hD : va_D A [(r0, .inr (1, [.int th, .ref b0, .int (nI tn), .ref b1, .ref b2, .ref b3, .int (nI wn), .ref b4, .ref b5, .ref b6, .ref b7, .int (nI ko), .int (nI mw)])), (b0, .inl (cb 0, 8, .inl (fun z9 => nI (cl z9)))), (b1, .inl (cb 1, 2040, .inl (fun z9 => nI ((t z9).1 / 256)))), (b2, .inl (cb 2, 2040, .inl (fun z9 => nI ((t z9).1 % 256)))), (b3, .inl (cb 3, 2040, .inl (fun z9 => (t z9).2))), (b4, .inl (cb 4, 65, .inl (fun z9 => nI ((va_up v (n + 1) (a * 256 + q, ck, lb) z9).1 / 256)))), (b5, .inl (cb 5, 65, .inl (fun z9 => nI ((va_up v (n + 1) (a * 256 + q, ck, lb) z9).1 % 256)))), (b6, .inl (cb 6, 65, .inr (.inl (fun z9 => (v z9).2.1)))), (b7, .inl (cb 7, 65, .inl (fun z9 => (v z9).2.2)))] := hD
            refine lv_aload_n hx hb dY_keep_136 rfl (lv_at hl 0 rfl) ?_
            refine va_get (D := (dC, dI)) (ci := 1) (v := .ref b6) (C := RY) (T := TY) (N := 13) hx hb hts in_Y_keep_Y hown hK hP 0 rfl rfl 9 (by decide) (hts (.fieldLink RY 28 "CausalGateModel" "wClocks" "[J") (by decide +kernel)) (fun _ h9 => h9) rfl dY_keep_137 ?_
            refine lv_iload hx hb dY_keep_140 (lv_at hl 5 rfl) ?_
            refine lv_lload_n hx hb dY_keep_142 rfl (lv_at hl 3 rfl) ?_
            refine va_last hx hb hK hP hD hS 7 6 rfl rfl (vp_in_nI (by omega) (by decide)) dY_keep_143 (fun H locs hP hD hS => ?_)
            rw [show vp_updL (fun z9 => (v z9).2.1) (nI (n + 1)).toNatClampNeg ck = fun z9 => (va_up v (n + 1) (a * 256 + q, ck, lb) z9).2.1 from by rw [nI_clamp (by omega)]; exact up_c v (n + 1) (a * 256 + q, ck, lb)] at hP hD
            have hP : va_P (dC, dI) clS [(r0, .inr (1, [.int th, .ref b0, .int (nI tn), .ref b1, .ref b2, .ref b3, .int (nI wn), .ref b4, .ref b5, .ref b6, .ref b7, .int (nI ko), .int (nI mw)])), (b0, .inl (cb 0, 8, .inl (fun z9 => nI (cl z9)))), (b1, .inl (cb 1, 2040, .inl (fun z9 => nI ((t z9).1 / 256)))), (b2, .inl (cb 2, 2040, .inl (fun z9 => nI ((t z9).1 % 256)))), (b3, .inl (cb 3, 2040, .inl (fun z9 => (t z9).2))), (b4, .inl (cb 4, 65, .inl (fun z9 => nI ((va_up v (n + 1) (a * 256 + q, ck, lb) z9).1 / 256)))), (b5, .inl (cb 5, 65, .inl (fun z9 => nI ((va_up v (n + 1) (a * 256 + q, ck, lb) z9).1 % 256)))), (b6, .inl (cb 6, 65, .inr (.inl (fun z9 => (va_up v (n + 1) (a * 256 + q, ck, lb) z9).2.1)))), (b7, .inl (cb 7, 65, .inl (fun z9 => (v z9).2.2)))] H := hP
            have hD : va_D A [(r0, .inr (1, [.int th, .ref b0, .int (nI tn), .ref b1, .ref b2, .ref b3, .int (nI wn), .ref b4, .ref b5, .ref b6, .ref b7, .int (nI ko), .int (nI mw)])), (b0, .inl (cb 0, 8, .inl (fun z9 => nI (cl z9)))), (b1, .inl (cb 1, 2040, .inl (fun z9 => nI ((t z9).1 / 256)))), (b2, .inl (cb 2, 2040, .inl (fun z9 => nI ((t z9).1 % 256)))), (b3, .inl (cb 3, 2040, .inl (fun z9 => (t z9).2))), (b4, .inl (cb 4, 65, .inl (fun z9 => nI ((va_up v (n + 1) (a * 256 + q, ck, lb) z9).1 / 256)))), (b5, .inl (cb 5, 65, .inl (fun z9 => nI ((va_up v (n + 1) (a * 256 + q, ck, lb) z9).1 % 256)))), (b6, .inl (cb 6, 65, .inr (.inl (fun z9 => (va_up v (n + 1) (a * 256 + q, ck, lb) z9).2.1)))), (b7, .inl (cb 7, 65, .inl (fun z9 => (v z9).2.2)))] := hD
            refine lv_aload_n hx hb dY_keep_144 rfl (lv_at hl 0 rfl) ?_
            refine va_get (D := (dC, dI)) (ci := 1) (v := .ref b7) (C := RY) (T := TY) (N := 13) hx hb hts in_Y_keep_Y hown hK hP 0 rfl rfl 10 (by decide) (hts (.fieldLink RY 32 "CausalGateModel" "wLabels" "[I") (by decide +kernel)) (fun _ h9 => h9) rfl dY_keep_145 ?_
            refine lv_iload hx hb dY_keep_148 (lv_at hl 5 rfl) ?_
            refine lv_iload hx hb dY_keep_150 (lv_at hl 4 rfl) ?_
            refine va_iast hx hb hK hP hD hS 8 7 rfl rfl (vp_in_nI (by omega) (by decide)) dY_keep_152 (fun H locs hP hD hS => ?_)
            rw [show upd (fun z9 => (v z9).2.2) (nI (n + 1)).toNatClampNeg lb = fun z9 => (va_up v (n + 1) (a * 256 + q, ck, lb) z9).2.2 from by rw [nI_clamp (by omega)]; exact up_l v (n + 1) (a * 256 + q, ck, lb)] at hP hD
            have hP : va_P (dC, dI) clS [(r0, .inr (1, [.int th, .ref b0, .int (nI tn), .ref b1, .ref b2, .ref b3, .int (nI wn), .ref b4, .ref b5, .ref b6, .ref b7, .int (nI ko), .int (nI mw)])), (b0, .inl (cb 0, 8, .inl (fun z9 => nI (cl z9)))), (b1, .inl (cb 1, 2040, .inl (fun z9 => nI ((t z9).1 / 256)))), (b2, .inl (cb 2, 2040, .inl (fun z9 => nI ((t z9).1 % 256)))), (b3, .inl (cb 3, 2040, .inl (fun z9 => (t z9).2))), (b4, .inl (cb 4, 65, .inl (fun z9 => nI ((va_up v (n + 1) (a * 256 + q, ck, lb) z9).1 / 256)))), (b5, .inl (cb 5, 65, .inl (fun z9 => nI ((va_up v (n + 1) (a * 256 + q, ck, lb) z9).1 % 256)))), (b6, .inl (cb 6, 65, .inr (.inl (fun z9 => (va_up v (n + 1) (a * 256 + q, ck, lb) z9).2.1)))), (b7, .inl (cb 7, 65, .inl (fun z9 => (va_up v (n + 1) (a * 256 + q, ck, lb) z9).2.2)))] H := hP
            have hD : va_D A [(r0, .inr (1, [.int th, .ref b0, .int (nI tn), .ref b1, .ref b2, .ref b3, .int (nI wn), .ref b4, .ref b5, .ref b6, .ref b7, .int (nI ko), .int (nI mw)])), (b0, .inl (cb 0, 8, .inl (fun z9 => nI (cl z9)))), (b1, .inl (cb 1, 2040, .inl (fun z9 => nI ((t z9).1 / 256)))), (b2, .inl (cb 2, 2040, .inl (fun z9 => nI ((t z9).1 % 256)))), (b3, .inl (cb 3, 2040, .inl (fun z9 => (t z9).2))), (b4, .inl (cb 4, 65, .inl (fun z9 => nI ((va_up v (n + 1) (a * 256 + q, ck, lb) z9).1 / 256)))), (b5, .inl (cb 5, 65, .inl (fun z9 => nI ((va_up v (n + 1) (a * 256 + q, ck, lb) z9).1 % 256)))), (b6, .inl (cb 6, 65, .inr (.inl (fun z9 => (va_up v (n + 1) (a * 256 + q, ck, lb) z9).2.1)))), (b7, .inl (cb 7, 65, .inl (fun z9 => (va_up v (n + 1) (a * 256 + q, ck, lb) z9).2.2)))] := hD
            refine lv_aload_n hx hb dY_keep_153 rfl (lv_at hl 0 rfl) ?_
            refine lv_dup hx hb dY_keep_154 rfl ?_
            refine va_get (D := (dC, dI)) (ci := 1) (v := .int (nI wn)) (C := RY) (T := TY) (N := 13) hx hb hts in_Y_keep_Y hown hK hP 0 rfl rfl 6 (by decide) (hts (.fieldLink RY 49 "CausalGateModel" "waiting" "I") (by decide +kernel)) (fun _ h9 => h9) rfl dY_keep_155 ?_
            refine lv_iconst (v := 1) hx hb dY_keep_158 (by decide) ?_
            refine lv_iadd hx hb dY_keep_159 ?_
            refine tp_i (y := nI (wn + 1)) (nI_1 wn) ?_
            refine va_put (D := (dC, dI)) (ci := 1) (v := .int (nI (wn + 1))) (ty := .int) (C := RY) (T := TY) (N := 13) hx hb hts in_Y_keep_Y tyY tyY_ok nmY hown hK hP hD hS 0 rfl rfl 6 (by decide) (hts (.fieldLink RY 49 "CausalGateModel" "waiting" "I") (by decide +kernel)) (fun _ h9 => h9) rfl (by decide +kernel) rfl rfl (Nat.le_of_ble_eq_true rfl) dY_keep_160 (fun H locs hP hD hS => ?_)
            have hP : va_P (dC, dI) clS [(r0, .inr (1, [.int th, .ref b0, .int (nI tn), .ref b1, .ref b2, .ref b3, .int (nI (wn + 1)), .ref b4, .ref b5, .ref b6, .ref b7, .int (nI ko), .int (nI mw)])), (b0, .inl (cb 0, 8, .inl (fun z9 => nI (cl z9)))), (b1, .inl (cb 1, 2040, .inl (fun z9 => nI ((t z9).1 / 256)))), (b2, .inl (cb 2, 2040, .inl (fun z9 => nI ((t z9).1 % 256)))), (b3, .inl (cb 3, 2040, .inl (fun z9 => (t z9).2))), (b4, .inl (cb 4, 65, .inl (fun z9 => nI ((va_up v (n + 1) (a * 256 + q, ck, lb) z9).1 / 256)))), (b5, .inl (cb 5, 65, .inl (fun z9 => nI ((va_up v (n + 1) (a * 256 + q, ck, lb) z9).1 % 256)))), (b6, .inl (cb 6, 65, .inr (.inl (fun z9 => (va_up v (n + 1) (a * 256 + q, ck, lb) z9).2.1)))), (b7, .inl (cb 7, 65, .inl (fun z9 => (va_up v (n + 1) (a * 256 + q, ck, lb) z9).2.2)))] H := hP
            have hD : va_D A [(r0, .inr (1, [.int th, .ref b0, .int (nI tn), .ref b1, .ref b2, .ref b3, .int (nI (wn + 1)), .ref b4, .ref b5, .ref b6, .ref b7, .int (nI ko), .int (nI mw)])), (b0, .inl (cb 0, 8, .inl (fun z9 => nI (cl z9)))), (b1, .inl (cb 1, 2040, .inl (fun z9 => nI ((t z9).1 / 256)))), (b2, .inl (cb 2, 2040, .inl (fun z9 => nI ((t z9).1 % 256)))), (b3, .inl (cb 3, 2040, .inl (fun z9 => (t z9).2))), (b4, .inl (cb 4, 65, .inl (fun z9 => nI ((va_up v (n + 1) (a * 256 + q, ck, lb) z9).1 / 256)))), (b5, .inl (cb 5, 65, .inl (fun z9 => nI ((va_up v (n + 1) (a * 256 + q, ck, lb) z9).1 % 256)))), (b6, .inl (cb 6, 65, .inr (.inl (fun z9 => (va_up v (n + 1) (a * 256 + q, ck, lb) z9).2.1)))), (b7, .inl (cb 7, 65, .inl (fun z9 => (va_up v (n + 1) (a * 256 + q, ck, lb) z9).2.2)))] := hD
            rw [hk8]
            exact mv_ret hx hb hr hlocks hAe hP hD hS dY_keep_163
          · have hx34 : (v n).1 / 256 = a := (nI_eq (by omega) (by omega)).mp c_34
            refine lv_aload_n hx hb dY_keep_37 rfl (lv_at hl 0 rfl) ?_
            refine va_get (D := (dC, dI)) (ci := 1) (v := .ref b5) (C := RY) (T := TY) (N := 13) hx hb hts in_Y_keep_Y hown hK hP 0 rfl rfl 8 (by decide) (hts (.fieldLink RY 25 "CausalGateModel" "wSeqs" "[I") (by decide +kernel)) (fun _ h9 => h9) rfl dY_keep_38 ?_
            refine lv_iload hx hb dY_keep_41 (lv_at hl 5 rfl) ?_
            refine lv_iconst (v := 1) hx hb dY_keep_43 (by decide) ?_
            refine lv_isub hx hb dY_keep_44 ?_
            refine tp_i (y := nI n) (nI_pred n) ?_
            refine va_iald hx hb hK hP 6 5 rfl rfl (vp_in_nI (by omega) (by decide)) dY_keep_45 ?_
            refine tp_i (y := nI ((v n).1 % 256)) (by rw [nI_clamp (by omega)]) ?_
            refine lv_iload_n hx hb dY_keep_46 rfl (lv_at hl 2 rfl) ?_
            refine lv_icmp_le (tgt := 120) hx hb dY_keep_47 (by decide) (fun c_47 => ?_) (fun c_47 => ?_)
            · have hx47 := (nI_leI (by omega) (by omega)).mp c_47
              have hk8 : inS (a * 256 + q) wn w = (v, n + 1) := by rw [← hk9]; simp only [inS]; rw [if_neg (by omega)]
              refine lv_aload_n hx hb dY_keep_120 rfl (lv_at hl 0 rfl) ?_
              refine va_get (D := (dC, dI)) (ci := 1) (v := .ref b4) (C := RY) (T := TY) (N := 13) hx hb hts in_Y_keep_Y hown hK hP 0 rfl rfl 7 (by decide) (hts (.fieldLink RY 22 "CausalGateModel" "wActors" "[I") (by decide +kernel)) (fun _ h9 => h9) rfl dY_keep_121 ?_
              refine lv_iload hx hb dY_keep_124 (lv_at hl 5 rfl) ?_
              refine lv_iload_n hx hb dY_keep_126 rfl (lv_at hl 1 rfl) ?_
              refine va_iast hx hb hK hP hD hS 5 4 rfl rfl (vp_in_nI (by omega) (by decide)) dY_keep_127 (fun H locs hP hD hS => ?_)
              rw [show upd (fun z9 => nI ((v z9).1 / 256)) (nI (n + 1)).toNatClampNeg (nI a) = fun z9 => nI ((va_up v (n + 1) (a * 256 + q, ck, lb) z9).1 / 256) from by rw [nI_clamp (by omega)]; have h : upd (fun z9 => nI ((v z9).1 / 256)) (n + 1) (nI ((a * 256 + q) / 256)) = _ := um_a v (n + 1) (a * 256 + q, ck, lb); rw [key_d hq] at h; exact h] at hP hD
              have hP : va_P (dC, dI) clS [(r0, .inr (1, [.int th, .ref b0, .int (nI tn), .ref b1, .ref b2, .ref b3, .int (nI wn), .ref b4, .ref b5, .ref b6, .ref b7, .int (nI ko), .int (nI mw)])), (b0, .inl (cb 0, 8, .inl (fun z9 => nI (cl z9)))), (b1, .inl (cb 1, 2040, .inl (fun z9 => nI ((t z9).1 / 256)))), (b2, .inl (cb 2, 2040, .inl (fun z9 => nI ((t z9).1 % 256)))), (b3, .inl (cb 3, 2040, .inl (fun z9 => (t z9).2))), (b4, .inl (cb 4, 65, .inl (fun z9 => nI ((va_up v (n + 1) (a * 256 + q, ck, lb) z9).1 / 256)))), (b5, .inl (cb 5, 65, .inl (fun z9 => nI ((v z9).1 % 256)))), (b6, .inl (cb 6, 65, .inr (.inl (fun z9 => (v z9).2.1)))), (b7, .inl (cb 7, 65, .inl (fun z9 => (v z9).2.2)))] H := hP
              have hD : va_D A [(r0, .inr (1, [.int th, .ref b0, .int (nI tn), .ref b1, .ref b2, .ref b3, .int (nI wn), .ref b4, .ref b5, .ref b6, .ref b7, .int (nI ko), .int (nI mw)])), (b0, .inl (cb 0, 8, .inl (fun z9 => nI (cl z9)))), (b1, .inl (cb 1, 2040, .inl (fun z9 => nI ((t z9).1 / 256)))), (b2, .inl (cb 2, 2040, .inl (fun z9 => nI ((t z9).1 % 256)))), (b3, .inl (cb 3, 2040, .inl (fun z9 => (t z9).2))), (b4, .inl (cb 4, 65, .inl (fun z9 => nI ((va_up v (n + 1) (a * 256 + q, ck, lb) z9).1 / 256)))), (b5, .inl (cb 5, 65, .inl (fun z9 => nI ((v z9).1 % 256)))), (b6, .inl (cb 6, 65, .inr (.inl (fun z9 => (v z9).2.1)))), (b7, .inl (cb 7, 65, .inl (fun z9 => (v z9).2.2)))] := hD
              refine lv_aload_n hx hb dY_keep_128 rfl (lv_at hl 0 rfl) ?_
              refine va_get (D := (dC, dI)) (ci := 1) (v := .ref b5) (C := RY) (T := TY) (N := 13) hx hb hts in_Y_keep_Y hown hK hP 0 rfl rfl 8 (by decide) (hts (.fieldLink RY 25 "CausalGateModel" "wSeqs" "[I") (by decide +kernel)) (fun _ h9 => h9) rfl dY_keep_129 ?_
              refine lv_iload hx hb dY_keep_132 (lv_at hl 5 rfl) ?_
              refine lv_iload_n hx hb dY_keep_134 rfl (lv_at hl 2 rfl) ?_
              refine va_iast hx hb hK hP hD hS 6 5 rfl rfl (vp_in_nI (by omega) (by decide)) dY_keep_135 (fun H locs hP hD hS => ?_)
              rw [show upd (fun z9 => nI ((v z9).1 % 256)) (nI (n + 1)).toNatClampNeg (nI q) = fun z9 => nI ((va_up v (n + 1) (a * 256 + q, ck, lb) z9).1 % 256) from by rw [nI_clamp (by omega)]; have h : upd (fun z9 => nI ((v z9).1 % 256)) (n + 1) (nI ((a * 256 + q) % 256)) = _ := um_s v (n + 1) (a * 256 + q, ck, lb); rw [key_m hq] at h; exact h] at hP hD
              have hP : va_P (dC, dI) clS [(r0, .inr (1, [.int th, .ref b0, .int (nI tn), .ref b1, .ref b2, .ref b3, .int (nI wn), .ref b4, .ref b5, .ref b6, .ref b7, .int (nI ko), .int (nI mw)])), (b0, .inl (cb 0, 8, .inl (fun z9 => nI (cl z9)))), (b1, .inl (cb 1, 2040, .inl (fun z9 => nI ((t z9).1 / 256)))), (b2, .inl (cb 2, 2040, .inl (fun z9 => nI ((t z9).1 % 256)))), (b3, .inl (cb 3, 2040, .inl (fun z9 => (t z9).2))), (b4, .inl (cb 4, 65, .inl (fun z9 => nI ((va_up v (n + 1) (a * 256 + q, ck, lb) z9).1 / 256)))), (b5, .inl (cb 5, 65, .inl (fun z9 => nI ((va_up v (n + 1) (a * 256 + q, ck, lb) z9).1 % 256)))), (b6, .inl (cb 6, 65, .inr (.inl (fun z9 => (v z9).2.1)))), (b7, .inl (cb 7, 65, .inl (fun z9 => (v z9).2.2)))] H := hP
              have hD : va_D A [(r0, .inr (1, [.int th, .ref b0, .int (nI tn), .ref b1, .ref b2, .ref b3, .int (nI wn), .ref b4, .ref b5, .ref b6, .ref b7, .int (nI ko), .int (nI mw)])), (b0, .inl (cb 0, 8, .inl (fun z9 => nI (cl z9)))), (b1, .inl (cb 1, 2040, .inl (fun z9 => nI ((t z9).1 / 256)))), (b2, .inl (cb 2, 2040, .inl (fun z9 => nI ((t z9).1 % 256)))), (b3, .inl (cb 3, 2040, .inl (fun z9 => (t z9).2))), (b4, .inl (cb 4, 65, .inl (fun z9 => nI ((va_up v (n + 1) (a * 256 + q, ck, lb) z9).1 / 256)))), (b5, .inl (cb 5, 65, .inl (fun z9 => nI ((va_up v (n + 1) (a * 256 + q, ck, lb) z9).1 % 256)))), (b6, .inl (cb 6, 65, .inr (.inl (fun z9 => (v z9).2.1)))), (b7, .inl (cb 7, 65, .inl (fun z9 => (v z9).2.2)))] := hD
              refine lv_aload_n hx hb dY_keep_136 rfl (lv_at hl 0 rfl) ?_
              refine va_get (D := (dC, dI)) (ci := 1) (v := .ref b6) (C := RY) (T := TY) (N := 13) hx hb hts in_Y_keep_Y hown hK hP 0 rfl rfl 9 (by decide) (hts (.fieldLink RY 28 "CausalGateModel" "wClocks" "[J") (by decide +kernel)) (fun _ h9 => h9) rfl dY_keep_137 ?_
              refine lv_iload hx hb dY_keep_140 (lv_at hl 5 rfl) ?_
              refine lv_lload_n hx hb dY_keep_142 rfl (lv_at hl 3 rfl) ?_
              refine va_last hx hb hK hP hD hS 7 6 rfl rfl (vp_in_nI (by omega) (by decide)) dY_keep_143 (fun H locs hP hD hS => ?_)
              rw [show vp_updL (fun z9 => (v z9).2.1) (nI (n + 1)).toNatClampNeg ck = fun z9 => (va_up v (n + 1) (a * 256 + q, ck, lb) z9).2.1 from by rw [nI_clamp (by omega)]; exact up_c v (n + 1) (a * 256 + q, ck, lb)] at hP hD
              have hP : va_P (dC, dI) clS [(r0, .inr (1, [.int th, .ref b0, .int (nI tn), .ref b1, .ref b2, .ref b3, .int (nI wn), .ref b4, .ref b5, .ref b6, .ref b7, .int (nI ko), .int (nI mw)])), (b0, .inl (cb 0, 8, .inl (fun z9 => nI (cl z9)))), (b1, .inl (cb 1, 2040, .inl (fun z9 => nI ((t z9).1 / 256)))), (b2, .inl (cb 2, 2040, .inl (fun z9 => nI ((t z9).1 % 256)))), (b3, .inl (cb 3, 2040, .inl (fun z9 => (t z9).2))), (b4, .inl (cb 4, 65, .inl (fun z9 => nI ((va_up v (n + 1) (a * 256 + q, ck, lb) z9).1 / 256)))), (b5, .inl (cb 5, 65, .inl (fun z9 => nI ((va_up v (n + 1) (a * 256 + q, ck, lb) z9).1 % 256)))), (b6, .inl (cb 6, 65, .inr (.inl (fun z9 => (va_up v (n + 1) (a * 256 + q, ck, lb) z9).2.1)))), (b7, .inl (cb 7, 65, .inl (fun z9 => (v z9).2.2)))] H := hP
              have hD : va_D A [(r0, .inr (1, [.int th, .ref b0, .int (nI tn), .ref b1, .ref b2, .ref b3, .int (nI wn), .ref b4, .ref b5, .ref b6, .ref b7, .int (nI ko), .int (nI mw)])), (b0, .inl (cb 0, 8, .inl (fun z9 => nI (cl z9)))), (b1, .inl (cb 1, 2040, .inl (fun z9 => nI ((t z9).1 / 256)))), (b2, .inl (cb 2, 2040, .inl (fun z9 => nI ((t z9).1 % 256)))), (b3, .inl (cb 3, 2040, .inl (fun z9 => (t z9).2))), (b4, .inl (cb 4, 65, .inl (fun z9 => nI ((va_up v (n + 1) (a * 256 + q, ck, lb) z9).1 / 256)))), (b5, .inl (cb 5, 65, .inl (fun z9 => nI ((va_up v (n + 1) (a * 256 + q, ck, lb) z9).1 % 256)))), (b6, .inl (cb 6, 65, .inr (.inl (fun z9 => (va_up v (n + 1) (a * 256 + q, ck, lb) z9).2.1)))), (b7, .inl (cb 7, 65, .inl (fun z9 => (v z9).2.2)))] := hD
              refine lv_aload_n hx hb dY_keep_144 rfl (lv_at hl 0 rfl) ?_
              refine va_get (D := (dC, dI)) (ci := 1) (v := .ref b7) (C := RY) (T := TY) (N := 13) hx hb hts in_Y_keep_Y hown hK hP 0 rfl rfl 10 (by decide) (hts (.fieldLink RY 32 "CausalGateModel" "wLabels" "[I") (by decide +kernel)) (fun _ h9 => h9) rfl dY_keep_145 ?_
              refine lv_iload hx hb dY_keep_148 (lv_at hl 5 rfl) ?_
              refine lv_iload hx hb dY_keep_150 (lv_at hl 4 rfl) ?_
              refine va_iast hx hb hK hP hD hS 8 7 rfl rfl (vp_in_nI (by omega) (by decide)) dY_keep_152 (fun H locs hP hD hS => ?_)
              rw [show upd (fun z9 => (v z9).2.2) (nI (n + 1)).toNatClampNeg lb = fun z9 => (va_up v (n + 1) (a * 256 + q, ck, lb) z9).2.2 from by rw [nI_clamp (by omega)]; exact up_l v (n + 1) (a * 256 + q, ck, lb)] at hP hD
              have hP : va_P (dC, dI) clS [(r0, .inr (1, [.int th, .ref b0, .int (nI tn), .ref b1, .ref b2, .ref b3, .int (nI wn), .ref b4, .ref b5, .ref b6, .ref b7, .int (nI ko), .int (nI mw)])), (b0, .inl (cb 0, 8, .inl (fun z9 => nI (cl z9)))), (b1, .inl (cb 1, 2040, .inl (fun z9 => nI ((t z9).1 / 256)))), (b2, .inl (cb 2, 2040, .inl (fun z9 => nI ((t z9).1 % 256)))), (b3, .inl (cb 3, 2040, .inl (fun z9 => (t z9).2))), (b4, .inl (cb 4, 65, .inl (fun z9 => nI ((va_up v (n + 1) (a * 256 + q, ck, lb) z9).1 / 256)))), (b5, .inl (cb 5, 65, .inl (fun z9 => nI ((va_up v (n + 1) (a * 256 + q, ck, lb) z9).1 % 256)))), (b6, .inl (cb 6, 65, .inr (.inl (fun z9 => (va_up v (n + 1) (a * 256 + q, ck, lb) z9).2.1)))), (b7, .inl (cb 7, 65, .inl (fun z9 => (va_up v (n + 1) (a * 256 + q, ck, lb) z9).2.2)))] H := hP
              have hD : va_D A [(r0, .inr (1, [.int th, .ref b0, .int (nI tn), .ref b1, .ref b2, .ref b3, .int (nI wn), .ref b4, .ref b5, .ref b6, .ref b7, .int (nI ko), .int (nI mw)])), (b0, .inl (cb 0, 8, .inl (fun z9 => nI (cl z9)))), (b1, .inl (cb 1, 2040, .inl (fun z9 => nI ((t z9).1 / 256)))), (b2, .inl (cb 2, 2040, .inl (fun z9 => nI ((t z9).1 % 256)))), (b3, .inl (cb 3, 2040, .inl (fun z9 => (t z9).2))), (b4, .inl (cb 4, 65, .inl (fun z9 => nI ((va_up v (n + 1) (a * 256 + q, ck, lb) z9).1 / 256)))), (b5, .inl (cb 5, 65, .inl (fun z9 => nI ((va_up v (n + 1) (a * 256 + q, ck, lb) z9).1 % 256)))), (b6, .inl (cb 6, 65, .inr (.inl (fun z9 => (va_up v (n + 1) (a * 256 + q, ck, lb) z9).2.1)))), (b7, .inl (cb 7, 65, .inl (fun z9 => (va_up v (n + 1) (a * 256 + q, ck, lb) z9).2.2)))] := hD
              refine lv_aload_n hx hb dY_keep_153 rfl (lv_at hl 0 rfl) ?_
              refine lv_dup hx hb dY_keep_154 rfl ?_
              refine va_get (D := (dC, dI)) (ci := 1) (v := .int (nI wn)) (C := RY) (T := TY) (N := 13) hx hb hts in_Y_keep_Y hown hK hP 0 rfl rfl 6 (by decide) (hts (.fieldLink RY 49 "CausalGateModel" "waiting" "I") (by decide +kernel)) (fun _ h9 => h9) rfl dY_keep_155 ?_
              refine lv_iconst (v := 1) hx hb dY_keep_158 (by decide) ?_
              refine lv_iadd hx hb dY_keep_159 ?_
              refine tp_i (y := nI (wn + 1)) (nI_1 wn) ?_
              refine va_put (D := (dC, dI)) (ci := 1) (v := .int (nI (wn + 1))) (ty := .int) (C := RY) (T := TY) (N := 13) hx hb hts in_Y_keep_Y tyY tyY_ok nmY hown hK hP hD hS 0 rfl rfl 6 (by decide) (hts (.fieldLink RY 49 "CausalGateModel" "waiting" "I") (by decide +kernel)) (fun _ h9 => h9) rfl (by decide +kernel) rfl rfl (Nat.le_of_ble_eq_true rfl) dY_keep_160 (fun H locs hP hD hS => ?_)
              have hP : va_P (dC, dI) clS [(r0, .inr (1, [.int th, .ref b0, .int (nI tn), .ref b1, .ref b2, .ref b3, .int (nI (wn + 1)), .ref b4, .ref b5, .ref b6, .ref b7, .int (nI ko), .int (nI mw)])), (b0, .inl (cb 0, 8, .inl (fun z9 => nI (cl z9)))), (b1, .inl (cb 1, 2040, .inl (fun z9 => nI ((t z9).1 / 256)))), (b2, .inl (cb 2, 2040, .inl (fun z9 => nI ((t z9).1 % 256)))), (b3, .inl (cb 3, 2040, .inl (fun z9 => (t z9).2))), (b4, .inl (cb 4, 65, .inl (fun z9 => nI ((va_up v (n + 1) (a * 256 + q, ck, lb) z9).1 / 256)))), (b5, .inl (cb 5, 65, .inl (fun z9 => nI ((va_up v (n + 1) (a * 256 + q, ck, lb) z9).1 % 256)))), (b6, .inl (cb 6, 65, .inr (.inl (fun z9 => (va_up v (n + 1) (a * 256 + q, ck, lb) z9).2.1)))), (b7, .inl (cb 7, 65, .inl (fun z9 => (va_up v (n + 1) (a * 256 + q, ck, lb) z9).2.2)))] H := hP
              have hD : va_D A [(r0, .inr (1, [.int th, .ref b0, .int (nI tn), .ref b1, .ref b2, .ref b3, .int (nI (wn + 1)), .ref b4, .ref b5, .ref b6, .ref b7, .int (nI ko), .int (nI mw)])), (b0, .inl (cb 0, 8, .inl (fun z9 => nI (cl z9)))), (b1, .inl (cb 1, 2040, .inl (fun z9 => nI ((t z9).1 / 256)))), (b2, .inl (cb 2, 2040, .inl (fun z9 => nI ((t z9).1 % 256)))), (b3, .inl (cb 3, 2040, .inl (fun z9 => (t z9).2))), (b4, .inl (cb 4, 65, .inl (fun z9 => nI ((va_up v (n + 1) (a * 256 + q, ck, lb) z9).1 / 256)))), (b5, .inl (cb 5, 65, .inl (fun z9 => nI ((va_up v (n + 1) (a * 256 + q, ck, lb) z9).1 % 256)))), (b6, .inl (cb 6, 65, .inr (.inl (fun z9 => (va_up v (n + 1) (a * 256 + q, ck, lb) z9).2.1)))), (b7, .inl (cb 7, 65, .inl (fun z9 => (va_up v (n + 1) (a * 256 + q, ck, lb) z9).2.2)))] := hD
              rw [hk8]
              exact mv_ret hx hb hr hlocks hAe hP hD hS dY_keep_163
            · have c7 : a * 256 + q < (v n).1 := by have : q < (v n).1 % 256 := Nat.lt_of_not_le fun z => c_47 (nI_le z (by omega)); omega
              refine lv_aload_n hx hb dY_keep_50 rfl (lv_at hl 0 rfl) ?_
              refine va_get (D := (dC, dI)) (ci := 1) (v := .ref b4) (C := RY) (T := TY) (N := 13) hx hb hts in_Y_keep_Y hown hK hP 0 rfl rfl 7 (by decide) (hts (.fieldLink RY 22 "CausalGateModel" "wActors" "[I") (by decide +kernel)) (fun _ h9 => h9) rfl dY_keep_51 ?_
              refine lv_iload hx hb dY_keep_54 (lv_at hl 5 rfl) ?_
              refine lv_aload_n hx hb dY_keep_56 rfl (lv_at hl 0 rfl) ?_
              refine va_get (D := (dC, dI)) (ci := 1) (v := .ref b4) (C := RY) (T := TY) (N := 13) hx hb hts in_Y_keep_Y hown hK hP 0 rfl rfl 7 (by decide) (hts (.fieldLink RY 22 "CausalGateModel" "wActors" "[I") (by decide +kernel)) (fun _ h9 => h9) rfl dY_keep_57 ?_
              refine lv_iload hx hb dY_keep_60 (lv_at hl 5 rfl) ?_
              refine lv_iconst (v := 1) hx hb dY_keep_62 (by decide) ?_
              refine lv_isub hx hb dY_keep_63 ?_
              refine tp_i (y := nI n) (nI_pred n) ?_
              refine va_iald hx hb hK hP 5 4 rfl rfl (vp_in_nI (by omega) (by decide)) dY_keep_64 ?_
              refine tp_i (y := nI ((v n).1 / 256)) (by rw [nI_clamp (by omega)]) ?_
              refine va_iast hx hb hK hP hD hS 5 4 rfl rfl (vp_in_nI (by omega) (by decide)) dY_keep_65 (fun H locs hP hD hS => ?_)
              rw [show upd (fun z9 => nI ((v z9).1 / 256)) (nI (n + 1)).toNatClampNeg (nI ((v n).1 / 256)) = fun z9 => nI ((va_up v (n + 1) (v n) z9).1 / 256) from by rw [nI_clamp (by omega)]; exact um_a v (n + 1) (v n)] at hP hD
              have hP : va_P (dC, dI) clS [(r0, .inr (1, [.int th, .ref b0, .int (nI tn), .ref b1, .ref b2, .ref b3, .int (nI wn), .ref b4, .ref b5, .ref b6, .ref b7, .int (nI ko), .int (nI mw)])), (b0, .inl (cb 0, 8, .inl (fun z9 => nI (cl z9)))), (b1, .inl (cb 1, 2040, .inl (fun z9 => nI ((t z9).1 / 256)))), (b2, .inl (cb 2, 2040, .inl (fun z9 => nI ((t z9).1 % 256)))), (b3, .inl (cb 3, 2040, .inl (fun z9 => (t z9).2))), (b4, .inl (cb 4, 65, .inl (fun z9 => nI ((va_up v (n + 1) (v n) z9).1 / 256)))), (b5, .inl (cb 5, 65, .inl (fun z9 => nI ((v z9).1 % 256)))), (b6, .inl (cb 6, 65, .inr (.inl (fun z9 => (v z9).2.1)))), (b7, .inl (cb 7, 65, .inl (fun z9 => (v z9).2.2)))] H := hP
              have hD : va_D A [(r0, .inr (1, [.int th, .ref b0, .int (nI tn), .ref b1, .ref b2, .ref b3, .int (nI wn), .ref b4, .ref b5, .ref b6, .ref b7, .int (nI ko), .int (nI mw)])), (b0, .inl (cb 0, 8, .inl (fun z9 => nI (cl z9)))), (b1, .inl (cb 1, 2040, .inl (fun z9 => nI ((t z9).1 / 256)))), (b2, .inl (cb 2, 2040, .inl (fun z9 => nI ((t z9).1 % 256)))), (b3, .inl (cb 3, 2040, .inl (fun z9 => (t z9).2))), (b4, .inl (cb 4, 65, .inl (fun z9 => nI ((va_up v (n + 1) (v n) z9).1 / 256)))), (b5, .inl (cb 5, 65, .inl (fun z9 => nI ((v z9).1 % 256)))), (b6, .inl (cb 6, 65, .inr (.inl (fun z9 => (v z9).2.1)))), (b7, .inl (cb 7, 65, .inl (fun z9 => (v z9).2.2)))] := hD
              refine lv_aload_n hx hb dY_keep_66 rfl (lv_at hl 0 rfl) ?_
              refine va_get (D := (dC, dI)) (ci := 1) (v := .ref b5) (C := RY) (T := TY) (N := 13) hx hb hts in_Y_keep_Y hown hK hP 0 rfl rfl 8 (by decide) (hts (.fieldLink RY 25 "CausalGateModel" "wSeqs" "[I") (by decide +kernel)) (fun _ h9 => h9) rfl dY_keep_67 ?_
              refine lv_iload hx hb dY_keep_70 (lv_at hl 5 rfl) ?_
              refine lv_aload_n hx hb dY_keep_72 rfl (lv_at hl 0 rfl) ?_
              refine va_get (D := (dC, dI)) (ci := 1) (v := .ref b5) (C := RY) (T := TY) (N := 13) hx hb hts in_Y_keep_Y hown hK hP 0 rfl rfl 8 (by decide) (hts (.fieldLink RY 25 "CausalGateModel" "wSeqs" "[I") (by decide +kernel)) (fun _ h9 => h9) rfl dY_keep_73 ?_
              refine lv_iload hx hb dY_keep_76 (lv_at hl 5 rfl) ?_
              refine lv_iconst (v := 1) hx hb dY_keep_78 (by decide) ?_
              refine lv_isub hx hb dY_keep_79 ?_
              refine tp_i (y := nI n) (nI_pred n) ?_
              refine va_iald hx hb hK hP 6 5 rfl rfl (vp_in_nI (by omega) (by decide)) dY_keep_80 ?_
              refine tp_i (y := nI ((v n).1 % 256)) (by rw [nI_clamp (by omega)]) ?_
              refine va_iast hx hb hK hP hD hS 6 5 rfl rfl (vp_in_nI (by omega) (by decide)) dY_keep_81 (fun H locs hP hD hS => ?_)
              rw [show upd (fun z9 => nI ((v z9).1 % 256)) (nI (n + 1)).toNatClampNeg (nI ((v n).1 % 256)) = fun z9 => nI ((va_up v (n + 1) (v n) z9).1 % 256) from by rw [nI_clamp (by omega)]; exact um_s v (n + 1) (v n)] at hP hD
              have hP : va_P (dC, dI) clS [(r0, .inr (1, [.int th, .ref b0, .int (nI tn), .ref b1, .ref b2, .ref b3, .int (nI wn), .ref b4, .ref b5, .ref b6, .ref b7, .int (nI ko), .int (nI mw)])), (b0, .inl (cb 0, 8, .inl (fun z9 => nI (cl z9)))), (b1, .inl (cb 1, 2040, .inl (fun z9 => nI ((t z9).1 / 256)))), (b2, .inl (cb 2, 2040, .inl (fun z9 => nI ((t z9).1 % 256)))), (b3, .inl (cb 3, 2040, .inl (fun z9 => (t z9).2))), (b4, .inl (cb 4, 65, .inl (fun z9 => nI ((va_up v (n + 1) (v n) z9).1 / 256)))), (b5, .inl (cb 5, 65, .inl (fun z9 => nI ((va_up v (n + 1) (v n) z9).1 % 256)))), (b6, .inl (cb 6, 65, .inr (.inl (fun z9 => (v z9).2.1)))), (b7, .inl (cb 7, 65, .inl (fun z9 => (v z9).2.2)))] H := hP
              have hD : va_D A [(r0, .inr (1, [.int th, .ref b0, .int (nI tn), .ref b1, .ref b2, .ref b3, .int (nI wn), .ref b4, .ref b5, .ref b6, .ref b7, .int (nI ko), .int (nI mw)])), (b0, .inl (cb 0, 8, .inl (fun z9 => nI (cl z9)))), (b1, .inl (cb 1, 2040, .inl (fun z9 => nI ((t z9).1 / 256)))), (b2, .inl (cb 2, 2040, .inl (fun z9 => nI ((t z9).1 % 256)))), (b3, .inl (cb 3, 2040, .inl (fun z9 => (t z9).2))), (b4, .inl (cb 4, 65, .inl (fun z9 => nI ((va_up v (n + 1) (v n) z9).1 / 256)))), (b5, .inl (cb 5, 65, .inl (fun z9 => nI ((va_up v (n + 1) (v n) z9).1 % 256)))), (b6, .inl (cb 6, 65, .inr (.inl (fun z9 => (v z9).2.1)))), (b7, .inl (cb 7, 65, .inl (fun z9 => (v z9).2.2)))] := hD
              refine lv_aload_n hx hb dY_keep_82 rfl (lv_at hl 0 rfl) ?_
              refine va_get (D := (dC, dI)) (ci := 1) (v := .ref b6) (C := RY) (T := TY) (N := 13) hx hb hts in_Y_keep_Y hown hK hP 0 rfl rfl 9 (by decide) (hts (.fieldLink RY 28 "CausalGateModel" "wClocks" "[J") (by decide +kernel)) (fun _ h9 => h9) rfl dY_keep_83 ?_
              refine lv_iload hx hb dY_keep_86 (lv_at hl 5 rfl) ?_
              refine lv_aload_n hx hb dY_keep_88 rfl (lv_at hl 0 rfl) ?_
              refine va_get (D := (dC, dI)) (ci := 1) (v := .ref b6) (C := RY) (T := TY) (N := 13) hx hb hts in_Y_keep_Y hown hK hP 0 rfl rfl 9 (by decide) (hts (.fieldLink RY 28 "CausalGateModel" "wClocks" "[J") (by decide +kernel)) (fun _ h9 => h9) rfl dY_keep_89 ?_
              refine lv_iload hx hb dY_keep_92 (lv_at hl 5 rfl) ?_
              refine lv_iconst (v := 1) hx hb dY_keep_94 (by decide) ?_
              refine lv_isub hx hb dY_keep_95 ?_
              refine tp_i (y := nI n) (nI_pred n) ?_
              refine va_lald hx hb hK hP 7 6 rfl rfl (vp_in_nI (by omega) (by decide)) dY_keep_96 ?_
              refine tp_l (y := (v n).2.1) (by rw [nI_clamp (by omega)]) ?_
              refine va_last hx hb hK hP hD hS 7 6 rfl rfl (vp_in_nI (by omega) (by decide)) dY_keep_97 (fun H locs hP hD hS => ?_)
              rw [show vp_updL (fun z9 => (v z9).2.1) (nI (n + 1)).toNatClampNeg ((v n).2.1) = fun z9 => (va_up v (n + 1) (v n) z9).2.1 from by rw [nI_clamp (by omega)]; exact up_c v (n + 1) (v n)] at hP hD
              have hP : va_P (dC, dI) clS [(r0, .inr (1, [.int th, .ref b0, .int (nI tn), .ref b1, .ref b2, .ref b3, .int (nI wn), .ref b4, .ref b5, .ref b6, .ref b7, .int (nI ko), .int (nI mw)])), (b0, .inl (cb 0, 8, .inl (fun z9 => nI (cl z9)))), (b1, .inl (cb 1, 2040, .inl (fun z9 => nI ((t z9).1 / 256)))), (b2, .inl (cb 2, 2040, .inl (fun z9 => nI ((t z9).1 % 256)))), (b3, .inl (cb 3, 2040, .inl (fun z9 => (t z9).2))), (b4, .inl (cb 4, 65, .inl (fun z9 => nI ((va_up v (n + 1) (v n) z9).1 / 256)))), (b5, .inl (cb 5, 65, .inl (fun z9 => nI ((va_up v (n + 1) (v n) z9).1 % 256)))), (b6, .inl (cb 6, 65, .inr (.inl (fun z9 => (va_up v (n + 1) (v n) z9).2.1)))), (b7, .inl (cb 7, 65, .inl (fun z9 => (v z9).2.2)))] H := hP
              have hD : va_D A [(r0, .inr (1, [.int th, .ref b0, .int (nI tn), .ref b1, .ref b2, .ref b3, .int (nI wn), .ref b4, .ref b5, .ref b6, .ref b7, .int (nI ko), .int (nI mw)])), (b0, .inl (cb 0, 8, .inl (fun z9 => nI (cl z9)))), (b1, .inl (cb 1, 2040, .inl (fun z9 => nI ((t z9).1 / 256)))), (b2, .inl (cb 2, 2040, .inl (fun z9 => nI ((t z9).1 % 256)))), (b3, .inl (cb 3, 2040, .inl (fun z9 => (t z9).2))), (b4, .inl (cb 4, 65, .inl (fun z9 => nI ((va_up v (n + 1) (v n) z9).1 / 256)))), (b5, .inl (cb 5, 65, .inl (fun z9 => nI ((va_up v (n + 1) (v n) z9).1 % 256)))), (b6, .inl (cb 6, 65, .inr (.inl (fun z9 => (va_up v (n + 1) (v n) z9).2.1)))), (b7, .inl (cb 7, 65, .inl (fun z9 => (v z9).2.2)))] := hD
              refine lv_aload_n hx hb dY_keep_98 rfl (lv_at hl 0 rfl) ?_
              refine va_get (D := (dC, dI)) (ci := 1) (v := .ref b7) (C := RY) (T := TY) (N := 13) hx hb hts in_Y_keep_Y hown hK hP 0 rfl rfl 10 (by decide) (hts (.fieldLink RY 32 "CausalGateModel" "wLabels" "[I") (by decide +kernel)) (fun _ h9 => h9) rfl dY_keep_99 ?_
              refine lv_iload hx hb dY_keep_102 (lv_at hl 5 rfl) ?_
              refine lv_aload_n hx hb dY_keep_104 rfl (lv_at hl 0 rfl) ?_
              refine va_get (D := (dC, dI)) (ci := 1) (v := .ref b7) (C := RY) (T := TY) (N := 13) hx hb hts in_Y_keep_Y hown hK hP 0 rfl rfl 10 (by decide) (hts (.fieldLink RY 32 "CausalGateModel" "wLabels" "[I") (by decide +kernel)) (fun _ h9 => h9) rfl dY_keep_105 ?_
              refine lv_iload hx hb dY_keep_108 (lv_at hl 5 rfl) ?_
              refine lv_iconst (v := 1) hx hb dY_keep_110 (by decide) ?_
              refine lv_isub hx hb dY_keep_111 ?_
              refine tp_i (y := nI n) (nI_pred n) ?_
              refine va_iald hx hb hK hP 8 7 rfl rfl (vp_in_nI (by omega) (by decide)) dY_keep_112 ?_
              refine tp_i (y := (v n).2.2) (by rw [nI_clamp (by omega)]) ?_
              refine va_iast hx hb hK hP hD hS 8 7 rfl rfl (vp_in_nI (by omega) (by decide)) dY_keep_113 (fun H locs hP hD hS => ?_)
              rw [show upd (fun z9 => (v z9).2.2) (nI (n + 1)).toNatClampNeg ((v n).2.2) = fun z9 => (va_up v (n + 1) (v n) z9).2.2 from by rw [nI_clamp (by omega)]; exact up_l v (n + 1) (v n)] at hP hD
              have hP : va_P (dC, dI) clS [(r0, .inr (1, [.int th, .ref b0, .int (nI tn), .ref b1, .ref b2, .ref b3, .int (nI wn), .ref b4, .ref b5, .ref b6, .ref b7, .int (nI ko), .int (nI mw)])), (b0, .inl (cb 0, 8, .inl (fun z9 => nI (cl z9)))), (b1, .inl (cb 1, 2040, .inl (fun z9 => nI ((t z9).1 / 256)))), (b2, .inl (cb 2, 2040, .inl (fun z9 => nI ((t z9).1 % 256)))), (b3, .inl (cb 3, 2040, .inl (fun z9 => (t z9).2))), (b4, .inl (cb 4, 65, .inl (fun z9 => nI ((va_up v (n + 1) (v n) z9).1 / 256)))), (b5, .inl (cb 5, 65, .inl (fun z9 => nI ((va_up v (n + 1) (v n) z9).1 % 256)))), (b6, .inl (cb 6, 65, .inr (.inl (fun z9 => (va_up v (n + 1) (v n) z9).2.1)))), (b7, .inl (cb 7, 65, .inl (fun z9 => (va_up v (n + 1) (v n) z9).2.2)))] H := hP
              have hD : va_D A [(r0, .inr (1, [.int th, .ref b0, .int (nI tn), .ref b1, .ref b2, .ref b3, .int (nI wn), .ref b4, .ref b5, .ref b6, .ref b7, .int (nI ko), .int (nI mw)])), (b0, .inl (cb 0, 8, .inl (fun z9 => nI (cl z9)))), (b1, .inl (cb 1, 2040, .inl (fun z9 => nI ((t z9).1 / 256)))), (b2, .inl (cb 2, 2040, .inl (fun z9 => nI ((t z9).1 % 256)))), (b3, .inl (cb 3, 2040, .inl (fun z9 => (t z9).2))), (b4, .inl (cb 4, 65, .inl (fun z9 => nI ((va_up v (n + 1) (v n) z9).1 / 256)))), (b5, .inl (cb 5, 65, .inl (fun z9 => nI ((va_up v (n + 1) (v n) z9).1 % 256)))), (b6, .inl (cb 6, 65, .inr (.inl (fun z9 => (va_up v (n + 1) (v n) z9).2.1)))), (b7, .inl (cb 7, 65, .inl (fun z9 => (va_up v (n + 1) (v n) z9).2.2)))] := hD
              refine lv_iinc (v := (nI n)) (lv' := [(6, .int (nI n)), (0, .ref r0), (1, .int (nI a)), (2, .int (nI q)), (3, .long ck), (5, .int lb)]) hx hb dY_keep_114 hl (k := 5) rfl (pk_m1 n) (by decide) rfl (fun ls hl => ?_)
              refine lv_goto (tgt := 6) hx hb dY_keep_117 (by decide) ?_
              exact ih (va_up v (n + 1) (v n)) (by omega) (fun j hj => by rw [va_up_ne _ _ (by omega)]; exact hv j (by omega)) (by rw [← hk9]; simp only [inS]; rw [if_pos c7]) _ _ hP hD hS ls (lv_sub hl [1, 2, 3, 4, 5, 0] rfl)
  exact loop wn w (Nat.le_refl _) hw rfl _ _ hP hD hS ls (lv_sub hl [1, 2, 3, 4, 5, 0] rfl)
end
section
set_option maxRecDepth 20000 in
theorem in_Y_clear_Y : ∀ w ∈ wsY0, w ∈ wsY_clear := by decide +kernel

set_option maxHeartbeats 4000000 in
set_option maxRecDepth 100000 in
theorem kY_clear (l : Launch) (dC : Nat → ClassId) (dI : Nat → Nat → Nat) (cb : Nat → ClassId) (r0 b0 b1 b2 b3 b4 b5 b6 b7 : Nat) (th : Int32) (cl : Nat → Nat) (t : TF) (tn : Nat) (w : WF) (wn : Nat) (ko mw : Nat) (sz : Nat)  : Met l yY_clear wsY_clear ({ frames := 0, cells := 0, slots := 0, locals := 0 }) (Pm [.ref r0] (dC, dI) clS [(cb 0, .int), (cb 1, .int), (cb 2, .int), (cb 3, .int), (cb 4, .int), (cb 5, .int), (cb 6, .long), (cb 7, .int)] [(r0, .inr (1, [.int th, .ref b0, .int (nI tn), .ref b1, .ref b2, .ref b3, .int (nI wn), .ref b4, .ref b5, .ref b6, .ref b7, .int (nI ko), .int (nI mw)])), (b0, .inl (cb 0, 8, .inl (fun z9 => nI (cl z9)))), (b1, .inl (cb 1, 2040, .inl (fun z9 => nI ((t z9).1 / 256)))), (b2, .inl (cb 2, 2040, .inl (fun z9 => nI ((t z9).1 % 256)))), (b3, .inl (cb 3, 2040, .inl (fun z9 => (t z9).2))), (b4, .inl (cb 4, 65, .inl (fun z9 => nI ((w z9).1 / 256)))), (b5, .inl (cb 5, 65, .inl (fun z9 => nI ((w z9).1 % 256)))), (b6, .inl (cb 6, 65, .inr (.inl (fun z9 => (w z9).2.1)))), (b7, .inl (cb 7, 65, .inl (fun z9 => (w z9).2.2)))] sz) (QmV (dC, dI) clS [(r0, .inr (1, [.int th, .ref b0, .int (nI tn), .ref b1, .ref b2, .ref b3, .int (nI wn), .ref b4, .ref b5, .ref b6, .ref b7, .int (nI ko), .int (nI mw)])), (b0, .inl (cb 0, 8, .inl (fun z9 => nI (cl z9)))), (b1, .inl (cb 1, 2040, .inl (fun z9 => nI ((t z9).1 / 256)))), (b2, .inl (cb 2, 2040, .inl (fun z9 => nI ((t z9).1 % 256)))), (b3, .inl (cb 3, 2040, .inl (fun z9 => (t z9).2))), (b4, .inl (cb 4, 65, .inl (fun z9 => nI ((w z9).1 / 256)))), (b5, .inl (cb 5, 65, .inl (fun z9 => nI ((w z9).1 % 256)))), (b6, .inl (cb 6, 65, .inr (.inl (fun z9 => (w z9).2.1)))), (b7, .inl (cb 7, 65, .inl (fun z9 => (w z9).2.2)))] [(r0, .inr (1, [.int 0, .ref b0, .int (nI 0), .ref b1, .ref b2, .ref b3, .int (nI 0), .ref b4, .ref b5, .ref b6, .ref b7, .int (nI 0), .int (nI 0)])), (b0, .inl (cb 0, 8, .inl (fun z9 => nI ((zcS 8 0 cl) z9)))), (b1, .inl (cb 1, 2040, .inl (fun z9 => nI ((t z9).1 / 256)))), (b2, .inl (cb 2, 2040, .inl (fun z9 => nI ((t z9).1 % 256)))), (b3, .inl (cb 3, 2040, .inl (fun z9 => (t z9).2))), (b4, .inl (cb 4, 65, .inl (fun z9 => nI ((w z9).1 / 256)))), (b5, .inl (cb 5, 65, .inl (fun z9 => nI ((w z9).1 % 256)))), (b6, .inl (cb 6, 65, .inr (.inl (fun z9 => (w z9).2.1)))), (b7, .inl (cb 7, 65, .inl (fun z9 => (w z9).2.2)))] sz) 0 0 (va_A [(r0, .inr (1, [.int th, .ref b0, .int (nI tn), .ref b1, .ref b2, .ref b3, .int (nI wn), .ref b4, .ref b5, .ref b6, .ref b7, .int (nI ko), .int (nI mw)])), (b0, .inl (cb 0, 8, .inl (fun z9 => nI (cl z9)))), (b1, .inl (cb 1, 2040, .inl (fun z9 => nI ((t z9).1 / 256)))), (b2, .inl (cb 2, 2040, .inl (fun z9 => nI ((t z9).1 % 256)))), (b3, .inl (cb 3, 2040, .inl (fun z9 => (t z9).2))), (b4, .inl (cb 4, 65, .inl (fun z9 => nI ((w z9).1 / 256)))), (b5, .inl (cb 5, 65, .inl (fun z9 => nI ((w z9).1 % 256)))), (b6, .inl (cb 6, 65, .inr (.inl (fun z9 => (w z9).2.1)))), (b7, .inl (cb 7, 65, .inl (fun z9 => (w z9).2.2)))] sz) := by
  refine Met.ofW (cc := cY_clear) (maxL := 2) (ret := none) (by decide) rfl ?_
  intro p e s m args below meth c s₁ B hml hv
  obtain ⟨hargs, hsz, hP, hK, hD0⟩ := hv
  have hx := B.exec
  have hb := B.bytes
  have hr := B.returns
  have hts := atoms_spec (ws := wsY_clear) B.pre
  have hown : s.vm.findClass RY = some m.cls := findClass_of_methodNamed B.named
  have hlocks := B.notSynchronized
  subst hsz
  have hD := hD0.self (sz := s.heap.size)
  obtain ⟨A, hAe⟩ : ∃ A, A = va_A [(r0, .inr (1, [.int th, .ref b0, .int (nI tn), .ref b1, .ref b2, .ref b3, .int (nI wn), .ref b4, .ref b5, .ref b6, .ref b7, .int (nI ko), .int (nI mw)])), (b0, .inl (cb 0, 8, .inl (fun z9 => nI (cl z9)))), (b1, .inl (cb 1, 2040, .inl (fun z9 => nI ((t z9).1 / 256)))), (b2, .inl (cb 2, 2040, .inl (fun z9 => nI ((t z9).1 % 256)))), (b3, .inl (cb 3, 2040, .inl (fun z9 => (t z9).2))), (b4, .inl (cb 4, 65, .inl (fun z9 => nI ((w z9).1 / 256)))), (b5, .inl (cb 5, 65, .inl (fun z9 => nI ((w z9).1 % 256)))), (b6, .inl (cb 6, 65, .inr (.inl (fun z9 => (w z9).2.1)))), (b7, .inl (cb 7, 65, .inl (fun z9 => (w z9).2.2)))] s.heap.size := ⟨_, rfl⟩
  rw [← hAe] at hD ⊢
  have hA : ∀ q : Nat, s.heap.size ≤ q → A q := fun q h => by rw [hAe]; exact Or.inr h
  have hS : va_S A s.heap s.heap [] := va_S.rf
  have hP : va_P (dC, dI) clS [(r0, .inr (1, [.int th, .ref b0, .int (nI tn), .ref b1, .ref b2, .ref b3, .int (nI wn), .ref b4, .ref b5, .ref b6, .ref b7, .int (nI ko), .int (nI mw)])), (b0, .inl (cb 0, 8, .inl (fun z9 => nI (cl z9)))), (b1, .inl (cb 1, 2040, .inl (fun z9 => nI ((t z9).1 / 256)))), (b2, .inl (cb 2, 2040, .inl (fun z9 => nI ((t z9).1 % 256)))), (b3, .inl (cb 3, 2040, .inl (fun z9 => (t z9).2))), (b4, .inl (cb 4, 65, .inl (fun z9 => nI ((w z9).1 / 256)))), (b5, .inl (cb 5, 65, .inl (fun z9 => nI ((w z9).1 % 256)))), (b6, .inl (cb 6, 65, .inr (.inl (fun z9 => (w z9).2.1)))), (b7, .inl (cb 7, 65, .inl (fun z9 => (w z9).2.2)))] s.heap := hP
  have hl := lv_entry ([.ref r0]) (n := 2) (Nat.le_of_ble_eq_true rfl)
  have hE : entryFrame m args 2 = F0 m 0 ((lg_sl ([.ref r0]) ++ List.replicate (2 - (lg_sl ([.ref r0])).length) Slot.unset).toArray) [] := by rw [hargs]; exact lg_entry_eq m ([.ref r0]) 2
  rw [hE]
  generalize (lg_sl ([.ref r0]) ++ List.replicate (2 - (lg_sl ([.ref r0])).length) Slot.unset).toArray = ls at hl ⊢
  have hl : lv_has ls 2 [(0, .ref r0)] := hl
  refine lv_aload_n hx hb dY_clear_0 rfl (lv_at hl 0 rfl) ?_
  refine lv_iconst (v := 0) hx hb dY_clear_1 (by decide) ?_
  refine va_put (D := (dC, dI)) (ci := 1) (v := .int 0) (ty := .int) (C := RY) (T := TY) (N := 13) hx hb hts in_Y_clear_Y tyY tyY_ok nmY hown hK hP hD hS 0 rfl rfl 0 (by decide) (hts (.fieldLink RY 35 "CausalGateModel" "thrown" "I") (by decide +kernel)) (fun _ h9 => h9) rfl (by decide +kernel) rfl rfl (Nat.le_of_ble_eq_true rfl) dY_clear_2 (fun H locs hP hD hS => ?_)
  have hP : va_P (dC, dI) clS [(r0, .inr (1, [.int 0, .ref b0, .int (nI tn), .ref b1, .ref b2, .ref b3, .int (nI wn), .ref b4, .ref b5, .ref b6, .ref b7, .int (nI ko), .int (nI mw)])), (b0, .inl (cb 0, 8, .inl (fun z9 => nI (cl z9)))), (b1, .inl (cb 1, 2040, .inl (fun z9 => nI ((t z9).1 / 256)))), (b2, .inl (cb 2, 2040, .inl (fun z9 => nI ((t z9).1 % 256)))), (b3, .inl (cb 3, 2040, .inl (fun z9 => (t z9).2))), (b4, .inl (cb 4, 65, .inl (fun z9 => nI ((w z9).1 / 256)))), (b5, .inl (cb 5, 65, .inl (fun z9 => nI ((w z9).1 % 256)))), (b6, .inl (cb 6, 65, .inr (.inl (fun z9 => (w z9).2.1)))), (b7, .inl (cb 7, 65, .inl (fun z9 => (w z9).2.2)))] H := hP
  have hD : va_D A [(r0, .inr (1, [.int 0, .ref b0, .int (nI tn), .ref b1, .ref b2, .ref b3, .int (nI wn), .ref b4, .ref b5, .ref b6, .ref b7, .int (nI ko), .int (nI mw)])), (b0, .inl (cb 0, 8, .inl (fun z9 => nI (cl z9)))), (b1, .inl (cb 1, 2040, .inl (fun z9 => nI ((t z9).1 / 256)))), (b2, .inl (cb 2, 2040, .inl (fun z9 => nI ((t z9).1 % 256)))), (b3, .inl (cb 3, 2040, .inl (fun z9 => (t z9).2))), (b4, .inl (cb 4, 65, .inl (fun z9 => nI ((w z9).1 / 256)))), (b5, .inl (cb 5, 65, .inl (fun z9 => nI ((w z9).1 % 256)))), (b6, .inl (cb 6, 65, .inr (.inl (fun z9 => (w z9).2.1)))), (b7, .inl (cb 7, 65, .inl (fun z9 => (w z9).2.2)))] := hD
  refine lv_iconst (v := 0) hx hb dY_clear_5 (by decide) ?_
  refine tp_i (y := nI 0) (nI_0.symm) ?_
  refine lv_istore_n (lv' := [(1, .int (nI 0)), (0, .ref r0)]) hx hb dY_clear_6 rfl hl (by decide) rfl (fun ls hl => ?_)
  have loop : ∀ (n : Nat) (a : Nat) (v : Nat → Nat), a + n = 8 → zcS n a v = zcS 8 0 cl → ∀ (H : Heap) (locs : List Loc), va_P (dC, dI) clS [(r0, .inr (1, [.int 0, .ref b0, .int (nI tn), .ref b1, .ref b2, .ref b3, .int (nI wn), .ref b4, .ref b5, .ref b6, .ref b7, .int (nI ko), .int (nI mw)])), (b0, .inl (cb 0, 8, .inl (fun z9 => nI (v z9)))), (b1, .inl (cb 1, 2040, .inl (fun z9 => nI ((t z9).1 / 256)))), (b2, .inl (cb 2, 2040, .inl (fun z9 => nI ((t z9).1 % 256)))), (b3, .inl (cb 3, 2040, .inl (fun z9 => (t z9).2))), (b4, .inl (cb 4, 65, .inl (fun z9 => nI ((w z9).1 / 256)))), (b5, .inl (cb 5, 65, .inl (fun z9 => nI ((w z9).1 % 256)))), (b6, .inl (cb 6, 65, .inr (.inl (fun z9 => (w z9).2.1)))), (b7, .inl (cb 7, 65, .inl (fun z9 => (w z9).2.2)))] H → va_D A [(r0, .inr (1, [.int 0, .ref b0, .int (nI tn), .ref b1, .ref b2, .ref b3, .int (nI wn), .ref b4, .ref b5, .ref b6, .ref b7, .int (nI ko), .int (nI mw)])), (b0, .inl (cb 0, 8, .inl (fun z9 => nI (v z9)))), (b1, .inl (cb 1, 2040, .inl (fun z9 => nI ((t z9).1 / 256)))), (b2, .inl (cb 2, 2040, .inl (fun z9 => nI ((t z9).1 % 256)))), (b3, .inl (cb 3, 2040, .inl (fun z9 => (t z9).2))), (b4, .inl (cb 4, 65, .inl (fun z9 => nI ((w z9).1 / 256)))), (b5, .inl (cb 5, 65, .inl (fun z9 => nI ((w z9).1 % 256)))), (b6, .inl (cb 6, 65, .inr (.inl (fun z9 => (w z9).2.1)))), (b7, .inl (cb 7, 65, .inl (fun z9 => (w z9).2.2)))] → va_S A s.heap H locs → ∀ ls : Array Slot, lv_has ls 2 [(0, .ref r0), (1, .int (nI a))] → W p l e (headSpec wsY_clear ({ frames := 0, cells := 0, slots := 0, locals := 0 })).room s m args below meth c H locs 0 0 (MQ below (QmV (dC, dI) clS [(r0, .inr (1, [.int th, .ref b0, .int (nI tn), .ref b1, .ref b2, .ref b3, .int (nI wn), .ref b4, .ref b5, .ref b6, .ref b7, .int (nI ko), .int (nI mw)])), (b0, .inl (cb 0, 8, .inl (fun z9 => nI (cl z9)))), (b1, .inl (cb 1, 2040, .inl (fun z9 => nI ((t z9).1 / 256)))), (b2, .inl (cb 2, 2040, .inl (fun z9 => nI ((t z9).1 % 256)))), (b3, .inl (cb 3, 2040, .inl (fun z9 => (t z9).2))), (b4, .inl (cb 4, 65, .inl (fun z9 => nI ((w z9).1 / 256)))), (b5, .inl (cb 5, 65, .inl (fun z9 => nI ((w z9).1 % 256)))), (b6, .inl (cb 6, 65, .inr (.inl (fun z9 => (w z9).2.1)))), (b7, .inl (cb 7, 65, .inl (fun z9 => (w z9).2.2)))] [(r0, .inr (1, [.int 0, .ref b0, .int (nI 0), .ref b1, .ref b2, .ref b3, .int (nI 0), .ref b4, .ref b5, .ref b6, .ref b7, .int (nI 0), .int (nI 0)])), (b0, .inl (cb 0, 8, .inl (fun z9 => nI ((zcS 8 0 cl) z9)))), (b1, .inl (cb 1, 2040, .inl (fun z9 => nI ((t z9).1 / 256)))), (b2, .inl (cb 2, 2040, .inl (fun z9 => nI ((t z9).1 % 256)))), (b3, .inl (cb 3, 2040, .inl (fun z9 => (t z9).2))), (b4, .inl (cb 4, 65, .inl (fun z9 => nI ((w z9).1 / 256)))), (b5, .inl (cb 5, 65, .inl (fun z9 => nI ((w z9).1 % 256)))), (b6, .inl (cb 6, 65, .inr (.inl (fun z9 => (w z9).2.1)))), (b7, .inl (cb 7, 65, .inl (fun z9 => (w z9).2.2)))] s.heap.size) args s 0 0 A) (F0 m 7 ls []) := by
    intro n
    induction n with
    | zero =>
      intro a v ha hk9 H locs hP hD hS ls hl
      refine lv_iload_n hx hb dY_clear_7 rfl (lv_at hl 1 rfl) ?_
      refine lv_bipush (v := 8) hx hb dY_clear_8 (by decide) ?_
      refine tp_i (y := nI 8) (rfl) ?_
      refine lv_icmp_ge (tgt := 26) hx hb dY_clear_10 (by decide) (fun c_10 => ?_) (fun c_10 => ?_)
      · refine lv_aload_n hx hb dY_clear_26 rfl (lv_at hl 0 rfl) ?_
        refine lv_iconst (v := 0) hx hb dY_clear_27 (by decide) ?_
        refine tp_i (y := nI 0) (nI_0.symm) ?_
        refine va_put (D := (dC, dI)) (ci := 1) (v := .int (nI 0)) (ty := .int) (C := RY) (T := TY) (N := 13) hx hb hts in_Y_clear_Y tyY tyY_ok nmY hown hK hP hD hS 0 rfl rfl 2 (by decide) (hts (.fieldLink RY 52 "CausalGateModel" "through" "I") (by decide +kernel)) (fun _ h9 => h9) rfl (by decide +kernel) rfl rfl (Nat.le_of_ble_eq_true rfl) dY_clear_28 (fun H locs hP hD hS => ?_)
        have hP : va_P (dC, dI) clS [(r0, .inr (1, [.int 0, .ref b0, .int (nI 0), .ref b1, .ref b2, .ref b3, .int (nI wn), .ref b4, .ref b5, .ref b6, .ref b7, .int (nI ko), .int (nI mw)])), (b0, .inl (cb 0, 8, .inl (fun z9 => nI (v z9)))), (b1, .inl (cb 1, 2040, .inl (fun z9 => nI ((t z9).1 / 256)))), (b2, .inl (cb 2, 2040, .inl (fun z9 => nI ((t z9).1 % 256)))), (b3, .inl (cb 3, 2040, .inl (fun z9 => (t z9).2))), (b4, .inl (cb 4, 65, .inl (fun z9 => nI ((w z9).1 / 256)))), (b5, .inl (cb 5, 65, .inl (fun z9 => nI ((w z9).1 % 256)))), (b6, .inl (cb 6, 65, .inr (.inl (fun z9 => (w z9).2.1)))), (b7, .inl (cb 7, 65, .inl (fun z9 => (w z9).2.2)))] H := hP
        have hD : va_D A [(r0, .inr (1, [.int 0, .ref b0, .int (nI 0), .ref b1, .ref b2, .ref b3, .int (nI wn), .ref b4, .ref b5, .ref b6, .ref b7, .int (nI ko), .int (nI mw)])), (b0, .inl (cb 0, 8, .inl (fun z9 => nI (v z9)))), (b1, .inl (cb 1, 2040, .inl (fun z9 => nI ((t z9).1 / 256)))), (b2, .inl (cb 2, 2040, .inl (fun z9 => nI ((t z9).1 % 256)))), (b3, .inl (cb 3, 2040, .inl (fun z9 => (t z9).2))), (b4, .inl (cb 4, 65, .inl (fun z9 => nI ((w z9).1 / 256)))), (b5, .inl (cb 5, 65, .inl (fun z9 => nI ((w z9).1 % 256)))), (b6, .inl (cb 6, 65, .inr (.inl (fun z9 => (w z9).2.1)))), (b7, .inl (cb 7, 65, .inl (fun z9 => (w z9).2.2)))] := hD
        refine lv_aload_n hx hb dY_clear_31 rfl (lv_at hl 0 rfl) ?_
        refine lv_iconst (v := 0) hx hb dY_clear_32 (by decide) ?_
        refine tp_i (y := nI 0) (nI_0.symm) ?_
        refine va_put (D := (dC, dI)) (ci := 1) (v := .int (nI 0)) (ty := .int) (C := RY) (T := TY) (N := 13) hx hb hts in_Y_clear_Y tyY tyY_ok nmY hown hK hP hD hS 0 rfl rfl 6 (by decide) (hts (.fieldLink RY 49 "CausalGateModel" "waiting" "I") (by decide +kernel)) (fun _ h9 => h9) rfl (by decide +kernel) rfl rfl (Nat.le_of_ble_eq_true rfl) dY_clear_33 (fun H locs hP hD hS => ?_)
        have hP : va_P (dC, dI) clS [(r0, .inr (1, [.int 0, .ref b0, .int (nI 0), .ref b1, .ref b2, .ref b3, .int (nI 0), .ref b4, .ref b5, .ref b6, .ref b7, .int (nI ko), .int (nI mw)])), (b0, .inl (cb 0, 8, .inl (fun z9 => nI (v z9)))), (b1, .inl (cb 1, 2040, .inl (fun z9 => nI ((t z9).1 / 256)))), (b2, .inl (cb 2, 2040, .inl (fun z9 => nI ((t z9).1 % 256)))), (b3, .inl (cb 3, 2040, .inl (fun z9 => (t z9).2))), (b4, .inl (cb 4, 65, .inl (fun z9 => nI ((w z9).1 / 256)))), (b5, .inl (cb 5, 65, .inl (fun z9 => nI ((w z9).1 % 256)))), (b6, .inl (cb 6, 65, .inr (.inl (fun z9 => (w z9).2.1)))), (b7, .inl (cb 7, 65, .inl (fun z9 => (w z9).2.2)))] H := hP
        have hD : va_D A [(r0, .inr (1, [.int 0, .ref b0, .int (nI 0), .ref b1, .ref b2, .ref b3, .int (nI 0), .ref b4, .ref b5, .ref b6, .ref b7, .int (nI ko), .int (nI mw)])), (b0, .inl (cb 0, 8, .inl (fun z9 => nI (v z9)))), (b1, .inl (cb 1, 2040, .inl (fun z9 => nI ((t z9).1 / 256)))), (b2, .inl (cb 2, 2040, .inl (fun z9 => nI ((t z9).1 % 256)))), (b3, .inl (cb 3, 2040, .inl (fun z9 => (t z9).2))), (b4, .inl (cb 4, 65, .inl (fun z9 => nI ((w z9).1 / 256)))), (b5, .inl (cb 5, 65, .inl (fun z9 => nI ((w z9).1 % 256)))), (b6, .inl (cb 6, 65, .inr (.inl (fun z9 => (w z9).2.1)))), (b7, .inl (cb 7, 65, .inl (fun z9 => (w z9).2.2)))] := hD
        refine lv_aload_n hx hb dY_clear_36 rfl (lv_at hl 0 rfl) ?_
        refine lv_iconst (v := 0) hx hb dY_clear_37 (by decide) ?_
        refine tp_i (y := nI 0) (nI_0.symm) ?_
        refine va_put (D := (dC, dI)) (ci := 1) (v := .int (nI 0)) (ty := .int) (C := RY) (T := TY) (N := 13) hx hb hts in_Y_clear_Y tyY tyY_ok nmY hown hK hP hD hS 0 rfl rfl 11 (by decide) (hts (.fieldLink RY 59 "CausalGateModel" "knownOffers" "I") (by decide +kernel)) (fun _ h9 => h9) rfl (by decide +kernel) rfl rfl (Nat.le_of_ble_eq_true rfl) dY_clear_38 (fun H locs hP hD hS => ?_)
        have hP : va_P (dC, dI) clS [(r0, .inr (1, [.int 0, .ref b0, .int (nI 0), .ref b1, .ref b2, .ref b3, .int (nI 0), .ref b4, .ref b5, .ref b6, .ref b7, .int (nI 0), .int (nI mw)])), (b0, .inl (cb 0, 8, .inl (fun z9 => nI (v z9)))), (b1, .inl (cb 1, 2040, .inl (fun z9 => nI ((t z9).1 / 256)))), (b2, .inl (cb 2, 2040, .inl (fun z9 => nI ((t z9).1 % 256)))), (b3, .inl (cb 3, 2040, .inl (fun z9 => (t z9).2))), (b4, .inl (cb 4, 65, .inl (fun z9 => nI ((w z9).1 / 256)))), (b5, .inl (cb 5, 65, .inl (fun z9 => nI ((w z9).1 % 256)))), (b6, .inl (cb 6, 65, .inr (.inl (fun z9 => (w z9).2.1)))), (b7, .inl (cb 7, 65, .inl (fun z9 => (w z9).2.2)))] H := hP
        have hD : va_D A [(r0, .inr (1, [.int 0, .ref b0, .int (nI 0), .ref b1, .ref b2, .ref b3, .int (nI 0), .ref b4, .ref b5, .ref b6, .ref b7, .int (nI 0), .int (nI mw)])), (b0, .inl (cb 0, 8, .inl (fun z9 => nI (v z9)))), (b1, .inl (cb 1, 2040, .inl (fun z9 => nI ((t z9).1 / 256)))), (b2, .inl (cb 2, 2040, .inl (fun z9 => nI ((t z9).1 % 256)))), (b3, .inl (cb 3, 2040, .inl (fun z9 => (t z9).2))), (b4, .inl (cb 4, 65, .inl (fun z9 => nI ((w z9).1 / 256)))), (b5, .inl (cb 5, 65, .inl (fun z9 => nI ((w z9).1 % 256)))), (b6, .inl (cb 6, 65, .inr (.inl (fun z9 => (w z9).2.1)))), (b7, .inl (cb 7, 65, .inl (fun z9 => (w z9).2.2)))] := hD
        refine lv_aload_n hx hb dY_clear_41 rfl (lv_at hl 0 rfl) ?_
        refine lv_iconst (v := 0) hx hb dY_clear_42 (by decide) ?_
        refine tp_i (y := nI 0) (nI_0.symm) ?_
        refine va_put (D := (dC, dI)) (ci := 1) (v := .int (nI 0)) (ty := .int) (C := RY) (T := TY) (N := 13) hx hb hts in_Y_clear_Y tyY tyY_ok nmY hown hK hP hD hS 0 rfl rfl 12 (by decide) (hts (.fieldLink RY 62 "CausalGateModel" "most" "I") (by decide +kernel)) (fun _ h9 => h9) rfl (by decide +kernel) rfl rfl (Nat.le_of_ble_eq_true rfl) dY_clear_43 (fun H locs hP hD hS => ?_)
        have hP : va_P (dC, dI) clS [(r0, .inr (1, [.int 0, .ref b0, .int (nI 0), .ref b1, .ref b2, .ref b3, .int (nI 0), .ref b4, .ref b5, .ref b6, .ref b7, .int (nI 0), .int (nI 0)])), (b0, .inl (cb 0, 8, .inl (fun z9 => nI (v z9)))), (b1, .inl (cb 1, 2040, .inl (fun z9 => nI ((t z9).1 / 256)))), (b2, .inl (cb 2, 2040, .inl (fun z9 => nI ((t z9).1 % 256)))), (b3, .inl (cb 3, 2040, .inl (fun z9 => (t z9).2))), (b4, .inl (cb 4, 65, .inl (fun z9 => nI ((w z9).1 / 256)))), (b5, .inl (cb 5, 65, .inl (fun z9 => nI ((w z9).1 % 256)))), (b6, .inl (cb 6, 65, .inr (.inl (fun z9 => (w z9).2.1)))), (b7, .inl (cb 7, 65, .inl (fun z9 => (w z9).2.2)))] H := hP
        have hD : va_D A [(r0, .inr (1, [.int 0, .ref b0, .int (nI 0), .ref b1, .ref b2, .ref b3, .int (nI 0), .ref b4, .ref b5, .ref b6, .ref b7, .int (nI 0), .int (nI 0)])), (b0, .inl (cb 0, 8, .inl (fun z9 => nI (v z9)))), (b1, .inl (cb 1, 2040, .inl (fun z9 => nI ((t z9).1 / 256)))), (b2, .inl (cb 2, 2040, .inl (fun z9 => nI ((t z9).1 % 256)))), (b3, .inl (cb 3, 2040, .inl (fun z9 => (t z9).2))), (b4, .inl (cb 4, 65, .inl (fun z9 => nI ((w z9).1 / 256)))), (b5, .inl (cb 5, 65, .inl (fun z9 => nI ((w z9).1 % 256)))), (b6, .inl (cb 6, 65, .inr (.inl (fun z9 => (w z9).2.1)))), (b7, .inl (cb 7, 65, .inl (fun z9 => (w z9).2.2)))] := hD
        have hk8 : v = zcS 8 0 cl := hk9
        subst hk8
        exact mv_ret hx hb hr hlocks hAe hP hD hS dY_clear_46
      · exact absurd (nI_le (by omega) (by omega)) c_10
    | succ n ih =>
      intro a v ha hk9 H locs hP hD hS ls hl
      refine lv_iload_n hx hb dY_clear_7 rfl (lv_at hl 1 rfl) ?_
      refine lv_bipush (v := 8) hx hb dY_clear_8 (by decide) ?_
      refine tp_i (y := nI 8) (rfl) ?_
      refine lv_icmp_ge (tgt := 26) hx hb dY_clear_10 (by decide) (fun c_10 => ?_) (fun c_10 => ?_)
      · exact absurd ((nI_leI (by omega) (by omega)).mp c_10) (by omega)
      · refine lv_aload_n hx hb dY_clear_13 rfl (lv_at hl 0 rfl) ?_
        refine va_get (D := (dC, dI)) (ci := 1) (v := .ref b0) (C := RY) (T := TY) (N := 13) hx hb hts in_Y_clear_Y hown hK hP 0 rfl rfl 1 (by decide) (hts (.fieldLink RY 7 "CausalGateModel" "clock" "[I") (by decide +kernel)) (fun _ h9 => h9) rfl dY_clear_14 ?_
        refine lv_iload_n hx hb dY_clear_17 rfl (lv_at hl 1 rfl) ?_
        refine lv_iconst (v := 0) hx hb dY_clear_18 (by decide) ?_
        refine tp_i (y := nI 0) (nI_0.symm) ?_
        refine va_iast hx hb hK hP hD hS 1 0 rfl rfl (vp_in_nI (by omega) (by decide)) dY_clear_19 (fun H locs hP hD hS => ?_)
        rw [show upd (fun z9 => nI (v z9)) (nI a).toNatClampNeg (nI 0) = fun z9 => nI (va_up v a 0 z9) from by rw [nI_clamp (by omega)]; exact uc_ v a 0] at hP hD
        have hP : va_P (dC, dI) clS [(r0, .inr (1, [.int 0, .ref b0, .int (nI tn), .ref b1, .ref b2, .ref b3, .int (nI wn), .ref b4, .ref b5, .ref b6, .ref b7, .int (nI ko), .int (nI mw)])), (b0, .inl (cb 0, 8, .inl (fun z9 => nI (va_up v a 0 z9)))), (b1, .inl (cb 1, 2040, .inl (fun z9 => nI ((t z9).1 / 256)))), (b2, .inl (cb 2, 2040, .inl (fun z9 => nI ((t z9).1 % 256)))), (b3, .inl (cb 3, 2040, .inl (fun z9 => (t z9).2))), (b4, .inl (cb 4, 65, .inl (fun z9 => nI ((w z9).1 / 256)))), (b5, .inl (cb 5, 65, .inl (fun z9 => nI ((w z9).1 % 256)))), (b6, .inl (cb 6, 65, .inr (.inl (fun z9 => (w z9).2.1)))), (b7, .inl (cb 7, 65, .inl (fun z9 => (w z9).2.2)))] H := hP
        have hD : va_D A [(r0, .inr (1, [.int 0, .ref b0, .int (nI tn), .ref b1, .ref b2, .ref b3, .int (nI wn), .ref b4, .ref b5, .ref b6, .ref b7, .int (nI ko), .int (nI mw)])), (b0, .inl (cb 0, 8, .inl (fun z9 => nI (va_up v a 0 z9)))), (b1, .inl (cb 1, 2040, .inl (fun z9 => nI ((t z9).1 / 256)))), (b2, .inl (cb 2, 2040, .inl (fun z9 => nI ((t z9).1 % 256)))), (b3, .inl (cb 3, 2040, .inl (fun z9 => (t z9).2))), (b4, .inl (cb 4, 65, .inl (fun z9 => nI ((w z9).1 / 256)))), (b5, .inl (cb 5, 65, .inl (fun z9 => nI ((w z9).1 % 256)))), (b6, .inl (cb 6, 65, .inr (.inl (fun z9 => (w z9).2.1)))), (b7, .inl (cb 7, 65, .inl (fun z9 => (w z9).2.2)))] := hD
        refine lv_iinc (v := (nI (a + 1))) (lv' := [(1, .int (nI (a + 1))), (0, .ref r0)]) hx hb dY_clear_20 hl (k := 1) rfl (nI_1 a) (by decide) rfl (fun ls hl => ?_)
        refine lv_goto (tgt := 7) hx hb dY_clear_23 (by decide) ?_
        exact ih (a + 1) (va_up v a 0) (by omega) (by rw [← hk9]; rfl) _ _ hP hD hS ls (lv_sub hl [1, 0] rfl)
  exact loop 8 0 cl (by omega) rfl _ _ hP hD hS ls (lv_sub hl [1, 0] rfl)

set_option maxRecDepth 20000 in
theorem in_Y_known_Y : ∀ w ∈ wsY0, w ∈ wsY_known := by decide +kernel

set_option maxHeartbeats 4000000 in
set_option maxRecDepth 100000 in
theorem kY_known (l : Launch) (dC : Nat → ClassId) (dI : Nat → Nat → Nat) (cb : Nat → ClassId) (r0 b0 b1 b2 b3 b4 b5 b6 b7 : Nat) (th : Int32) (cl : Nat → Nat) (t : TF) (tn : Nat) (w : WF) (wn : Nat) (ko mw : Nat) (sz : Nat) (hcl : ∀ a, a < 8 → cl a < 256) (hwn : wn ≤ 65) (hw : ∀ j, j < wn → (w j).1 < 2048) (x y : Int32) : Met l yY_known wsY_known ({ frames := 1, cells := 0, slots := 0, locals := 24 }) (Pm [.ref r0, .int x, .int y] (dC, dI) clS [(cb 0, .int), (cb 1, .int), (cb 2, .int), (cb 3, .int), (cb 4, .int), (cb 5, .int), (cb 6, .long), (cb 7, .int)] [(r0, .inr (1, [.int th, .ref b0, .int (nI tn), .ref b1, .ref b2, .ref b3, .int (nI wn), .ref b4, .ref b5, .ref b6, .ref b7, .int (nI ko), .int (nI mw)])), (b0, .inl (cb 0, 8, .inl (fun z9 => nI (cl z9)))), (b1, .inl (cb 1, 2040, .inl (fun z9 => nI ((t z9).1 / 256)))), (b2, .inl (cb 2, 2040, .inl (fun z9 => nI ((t z9).1 % 256)))), (b3, .inl (cb 3, 2040, .inl (fun z9 => (t z9).2))), (b4, .inl (cb 4, 65, .inl (fun z9 => nI ((w z9).1 / 256)))), (b5, .inl (cb 5, 65, .inl (fun z9 => nI ((w z9).1 % 256)))), (b6, .inl (cb 6, 65, .inr (.inl (fun z9 => (w z9).2.1)))), (b7, .inl (cb 7, 65, .inl (fun z9 => (w z9).2.2)))] sz) (QmI (bI (kwM cl w wn x y)) (dC, dI) clS [(r0, .inr (1, [.int th, .ref b0, .int (nI tn), .ref b1, .ref b2, .ref b3, .int (nI wn), .ref b4, .ref b5, .ref b6, .ref b7, .int (nI ko), .int (nI mw)])), (b0, .inl (cb 0, 8, .inl (fun z9 => nI (cl z9)))), (b1, .inl (cb 1, 2040, .inl (fun z9 => nI ((t z9).1 / 256)))), (b2, .inl (cb 2, 2040, .inl (fun z9 => nI ((t z9).1 % 256)))), (b3, .inl (cb 3, 2040, .inl (fun z9 => (t z9).2))), (b4, .inl (cb 4, 65, .inl (fun z9 => nI ((w z9).1 / 256)))), (b5, .inl (cb 5, 65, .inl (fun z9 => nI ((w z9).1 % 256)))), (b6, .inl (cb 6, 65, .inr (.inl (fun z9 => (w z9).2.1)))), (b7, .inl (cb 7, 65, .inl (fun z9 => (w z9).2.2)))] [(r0, .inr (1, [.int 0, .ref b0, .int (nI tn), .ref b1, .ref b2, .ref b3, .int (nI wn), .ref b4, .ref b5, .ref b6, .ref b7, .int (nI ko), .int (nI mw)])), (b0, .inl (cb 0, 8, .inl (fun z9 => nI (cl z9)))), (b1, .inl (cb 1, 2040, .inl (fun z9 => nI ((t z9).1 / 256)))), (b2, .inl (cb 2, 2040, .inl (fun z9 => nI ((t z9).1 % 256)))), (b3, .inl (cb 3, 2040, .inl (fun z9 => (t z9).2))), (b4, .inl (cb 4, 65, .inl (fun z9 => nI ((w z9).1 / 256)))), (b5, .inl (cb 5, 65, .inl (fun z9 => nI ((w z9).1 % 256)))), (b6, .inl (cb 6, 65, .inr (.inl (fun z9 => (w z9).2.1)))), (b7, .inl (cb 7, 65, .inl (fun z9 => (w z9).2.2)))] sz) 0 0 (va_A [(r0, .inr (1, [.int th, .ref b0, .int (nI tn), .ref b1, .ref b2, .ref b3, .int (nI wn), .ref b4, .ref b5, .ref b6, .ref b7, .int (nI ko), .int (nI mw)])), (b0, .inl (cb 0, 8, .inl (fun z9 => nI (cl z9)))), (b1, .inl (cb 1, 2040, .inl (fun z9 => nI ((t z9).1 / 256)))), (b2, .inl (cb 2, 2040, .inl (fun z9 => nI ((t z9).1 % 256)))), (b3, .inl (cb 3, 2040, .inl (fun z9 => (t z9).2))), (b4, .inl (cb 4, 65, .inl (fun z9 => nI ((w z9).1 / 256)))), (b5, .inl (cb 5, 65, .inl (fun z9 => nI ((w z9).1 % 256)))), (b6, .inl (cb 6, 65, .inr (.inl (fun z9 => (w z9).2.1)))), (b7, .inl (cb 7, 65, .inl (fun z9 => (w z9).2.2)))] sz) := by
  refine Met.ofW (cc := cY_known) (maxL := 3) (ret := (some .boolean)) (by decide) rfl ?_
  intro p e s m args below meth c s₁ B hml hv
  obtain ⟨hargs, hsz, hP, hK, hD0⟩ := hv
  have hx := B.exec
  have hb := B.bytes
  have hr := B.returns
  have hts := atoms_spec (ws := wsY_known) B.pre
  have hown : s.vm.findClass RY = some m.cls := findClass_of_methodNamed B.named
  have hlocks := B.notSynchronized
  subst hsz
  have hD := hD0.self (sz := s.heap.size)
  obtain ⟨A, hAe⟩ : ∃ A, A = va_A [(r0, .inr (1, [.int th, .ref b0, .int (nI tn), .ref b1, .ref b2, .ref b3, .int (nI wn), .ref b4, .ref b5, .ref b6, .ref b7, .int (nI ko), .int (nI mw)])), (b0, .inl (cb 0, 8, .inl (fun z9 => nI (cl z9)))), (b1, .inl (cb 1, 2040, .inl (fun z9 => nI ((t z9).1 / 256)))), (b2, .inl (cb 2, 2040, .inl (fun z9 => nI ((t z9).1 % 256)))), (b3, .inl (cb 3, 2040, .inl (fun z9 => (t z9).2))), (b4, .inl (cb 4, 65, .inl (fun z9 => nI ((w z9).1 / 256)))), (b5, .inl (cb 5, 65, .inl (fun z9 => nI ((w z9).1 % 256)))), (b6, .inl (cb 6, 65, .inr (.inl (fun z9 => (w z9).2.1)))), (b7, .inl (cb 7, 65, .inl (fun z9 => (w z9).2.2)))] s.heap.size := ⟨_, rfl⟩
  rw [← hAe] at hD ⊢
  have hA : ∀ q : Nat, s.heap.size ≤ q → A q := fun q h => by rw [hAe]; exact Or.inr h
  have hS : va_S A s.heap s.heap [] := va_S.rf
  have hP : va_P (dC, dI) clS [(r0, .inr (1, [.int th, .ref b0, .int (nI tn), .ref b1, .ref b2, .ref b3, .int (nI wn), .ref b4, .ref b5, .ref b6, .ref b7, .int (nI ko), .int (nI mw)])), (b0, .inl (cb 0, 8, .inl (fun z9 => nI (cl z9)))), (b1, .inl (cb 1, 2040, .inl (fun z9 => nI ((t z9).1 / 256)))), (b2, .inl (cb 2, 2040, .inl (fun z9 => nI ((t z9).1 % 256)))), (b3, .inl (cb 3, 2040, .inl (fun z9 => (t z9).2))), (b4, .inl (cb 4, 65, .inl (fun z9 => nI ((w z9).1 / 256)))), (b5, .inl (cb 5, 65, .inl (fun z9 => nI ((w z9).1 % 256)))), (b6, .inl (cb 6, 65, .inr (.inl (fun z9 => (w z9).2.1)))), (b7, .inl (cb 7, 65, .inl (fun z9 => (w z9).2.2)))] s.heap := hP
  have hl := lv_entry ([.ref r0, .int x, .int y]) (n := 3) (Nat.le_of_ble_eq_true rfl)
  have hE : entryFrame m args 3 = F0 m 0 ((lg_sl ([.ref r0, .int x, .int y]) ++ List.replicate (3 - (lg_sl ([.ref r0, .int x, .int y])).length) Slot.unset).toArray) [] := by rw [hargs]; exact lg_entry_eq m ([.ref r0, .int x, .int y]) 3
  rw [hE]
  generalize (lg_sl ([.ref r0, .int x, .int y]) ++ List.replicate (3 - (lg_sl ([.ref r0, .int x, .int y])).length) Slot.unset).toArray = ls at hl ⊢
  have hl : lv_has ls 3 [(0, .ref r0), (1, .int x), (2, .int y)] := hl
  refine lv_aload_n hx hb dY_known_0 rfl (lv_at hl 0 rfl) ?_
  refine lv_iconst (v := 0) hx hb dY_known_1 (by decide) ?_
  refine va_put (D := (dC, dI)) (ci := 1) (v := .int 0) (ty := .int) (C := RY) (T := TY) (N := 13) hx hb hts in_Y_known_Y tyY tyY_ok nmY hown hK hP hD hS 0 rfl rfl 0 (by decide) (hts (.fieldLink RY 35 "CausalGateModel" "thrown" "I") (by decide +kernel)) (fun _ h9 => h9) rfl (by decide +kernel) rfl rfl (Nat.le_of_ble_eq_true rfl) dY_known_2 (fun H locs hP hD hS => ?_)
  have hP : va_P (dC, dI) clS [(r0, .inr (1, [.int 0, .ref b0, .int (nI tn), .ref b1, .ref b2, .ref b3, .int (nI wn), .ref b4, .ref b5, .ref b6, .ref b7, .int (nI ko), .int (nI mw)])), (b0, .inl (cb 0, 8, .inl (fun z9 => nI (cl z9)))), (b1, .inl (cb 1, 2040, .inl (fun z9 => nI ((t z9).1 / 256)))), (b2, .inl (cb 2, 2040, .inl (fun z9 => nI ((t z9).1 % 256)))), (b3, .inl (cb 3, 2040, .inl (fun z9 => (t z9).2))), (b4, .inl (cb 4, 65, .inl (fun z9 => nI ((w z9).1 / 256)))), (b5, .inl (cb 5, 65, .inl (fun z9 => nI ((w z9).1 % 256)))), (b6, .inl (cb 6, 65, .inr (.inl (fun z9 => (w z9).2.1)))), (b7, .inl (cb 7, 65, .inl (fun z9 => (w z9).2.2)))] H := hP
  have hD : va_D A [(r0, .inr (1, [.int 0, .ref b0, .int (nI tn), .ref b1, .ref b2, .ref b3, .int (nI wn), .ref b4, .ref b5, .ref b6, .ref b7, .int (nI ko), .int (nI mw)])), (b0, .inl (cb 0, 8, .inl (fun z9 => nI (cl z9)))), (b1, .inl (cb 1, 2040, .inl (fun z9 => nI ((t z9).1 / 256)))), (b2, .inl (cb 2, 2040, .inl (fun z9 => nI ((t z9).1 % 256)))), (b3, .inl (cb 3, 2040, .inl (fun z9 => (t z9).2))), (b4, .inl (cb 4, 65, .inl (fun z9 => nI ((w z9).1 / 256)))), (b5, .inl (cb 5, 65, .inl (fun z9 => nI ((w z9).1 % 256)))), (b6, .inl (cb 6, 65, .inr (.inl (fun z9 => (w z9).2.1)))), (b7, .inl (cb 7, 65, .inl (fun z9 => (w z9).2.2)))] := hD
  refine lv_iload_n hx hb dY_known_5 rfl (lv_at hl 1 rfl) ?_
  refine lv_if_lt (tgt := 39) hx hb dY_known_6 (by decide) (fun c_6 => ?_) (fun c_6 => ?_)
  · have e9 : kwM cl w wn x y = false := by simp [kwM, isA, c_6]
    refine lv_iconst (v := 0) hx hb dY_known_39 (by decide) ?_
    exact mz_ret hx hb hr hlocks rfl (by rw [e9]; rfl) hAe hP hD hS dY_known_40
  · refine lv_iload_n hx hb dY_known_9 rfl (lv_at hl 1 rfl) ?_
    refine lv_bipush (v := 8) hx hb dY_known_10 (by decide) ?_
    refine lv_icmp_ge (tgt := 39) hx hb dY_known_12 (by decide) (fun c_12 => ?_) (fun c_12 => ?_)
    · have e9 : kwM cl w wn x y = false := by simp [kwM, isA, c_12]
      refine lv_iconst (v := 0) hx hb dY_known_39 (by decide) ?_
      exact mz_ret hx hb hr hlocks rfl (by rw [e9]; rfl) hAe hP hD hS dY_known_40
    · have c9 : isA x = true := by simp [isA, c_6, c_12]
      obtain ⟨a, ha, rfl⟩ := isA_nI c9
      refine lv_iload_n hx hb dY_known_15 rfl (lv_at hl 2 rfl) ?_
      refine lv_if_le (tgt := 39) hx hb dY_known_16 (by decide) (fun c_16 => ?_) (fun c_16 => ?_)
      · have e9 : kwM cl w wn (nI a) y = false := by simp [kwM, isS_lo c_16]
        refine lv_iconst (v := 0) hx hb dY_known_39 (by decide) ?_
        exact mz_ret hx hb hr hlocks rfl (by rw [e9]; rfl) hAe hP hD hS dY_known_40
      · refine lv_iload_n hx hb dY_known_19 rfl (lv_at hl 2 rfl) ?_
        refine lv_sipush (v := 256) hx hb dY_known_20 (by decide) ?_
        refine lv_icmp_ge (tgt := 39) hx hb dY_known_23 (by decide) (fun c_23 => ?_) (fun c_23 => ?_)
        · have e9 : kwM cl w wn (nI a) y = false := by simp [kwM, isS_hi c_23]
          refine lv_iconst (v := 0) hx hb dY_known_39 (by decide) ?_
          exact mz_ret hx hb hr hlocks rfl (by rw [e9]; rfl) hAe hP hD hS dY_known_40
        · have c8 : isS y = true := isS_in c_16 c_23
          obtain ⟨q, hq1, hq, rfl⟩ := isS_nI c8
          refine lv_aload_n hx hb dY_known_26 rfl (lv_at hl 0 rfl) ?_
          refine lv_iload_n hx hb dY_known_27 rfl (lv_at hl 1 rfl) ?_
          refine lv_iload_n hx hb dY_known_28 rfl (lv_at hl 2 rfl) ?_
          refine rd_i (W.runV (As := [.int (nI a), .int (nI q)]) (rest := []) ⟨hx, hb, hml, hown, hts⟩ (kY_isKnown l dC dI cb r0 b0 b1 b2 b3 b4 b5 b6 b7 0 cl t tn w wn ko mw hcl hwn hw a q (by omega) (by omega)) (cwV 2 hts gY_known_Y_isKnown rfl rfl rfl (by decide +kernel) ⟨Nat.le_of_ble_eq_true rfl, Nat.le_of_ble_eq_true rfl⟩) (pr_V (ci := 1) (q0 := 0) hK hP rfl rfl) rfl rfl hl.1 rfl (lv_room (Nat.le_of_ble_eq_true rfl)) dY_known_29 ⟨Nat.zero_le _, Nat.zero_le _⟩) ?_
          refine lv_if_eq (tgt := 39) hx hb dY_known_32 (by decide) (fun c_32 => ?_) (fun c_32 => ?_)
          · have e9 : kwM cl w wn (nI a) (nI q) = false := by simp [kwM, c9, c8, nI_clamp (show a < 2 ^ 31 by omega), nI_clamp (show q < 2 ^ 31 by omega), bI_0.mp c_32]
            refine lv_iconst (v := 0) hx hb dY_known_39 (by decide) ?_
            exact mz_ret hx hb hr hlocks rfl (by rw [e9]; rfl) hAe hP hD hS dY_known_40
          · have e9 : kwM cl w wn (nI a) (nI q) = true := by simp only [kwM, c9, c8, nI_clamp (show a < 2 ^ 31 by omega), nI_clamp (show q < 2 ^ 31 by omega)]; cases hq9 : knM cl w wn a q; exact absurd (by rw [hq9]; rfl) c_32; rfl
            refine lv_iconst (v := 1) hx hb dY_known_35 (by decide) ?_
            refine lv_goto (tgt := 40) hx hb dY_known_36 (by decide) ?_
            exact mz_ret hx hb hr hlocks rfl (by rw [e9]; rfl) hAe hP hD hS dY_known_40

set_option maxRecDepth 20000 in
theorem in_Y_clock_Y : ∀ w ∈ wsY0, w ∈ wsY_clock := by decide +kernel

set_option maxHeartbeats 4000000 in
set_option maxRecDepth 100000 in
theorem kY_clock (l : Launch) (dC : Nat → ClassId) (dI : Nat → Nat → Nat) (cb : Nat → ClassId) (r0 b0 b1 b2 b3 b4 b5 b6 b7 : Nat) (th : Int32) (cl : Nat → Nat) (t : TF) (tn : Nat) (w : WF) (wn : Nat) (ko mw : Nat) (sz : Nat)  : Met l yY_clock wsY_clock ({ frames := 0, cells := 0, slots := 0, locals := 0 }) (Pm [.ref r0] (dC, dI) clS [(cb 0, .int), (cb 1, .int), (cb 2, .int), (cb 3, .int), (cb 4, .int), (cb 5, .int), (cb 6, .long), (cb 7, .int)] [(r0, .inr (1, [.int th, .ref b0, .int (nI tn), .ref b1, .ref b2, .ref b3, .int (nI wn), .ref b4, .ref b5, .ref b6, .ref b7, .int (nI ko), .int (nI mw)])), (b0, .inl (cb 0, 8, .inl (fun z9 => nI (cl z9)))), (b1, .inl (cb 1, 2040, .inl (fun z9 => nI ((t z9).1 / 256)))), (b2, .inl (cb 2, 2040, .inl (fun z9 => nI ((t z9).1 % 256)))), (b3, .inl (cb 3, 2040, .inl (fun z9 => (t z9).2))), (b4, .inl (cb 4, 65, .inl (fun z9 => nI ((w z9).1 / 256)))), (b5, .inl (cb 5, 65, .inl (fun z9 => nI ((w z9).1 % 256)))), (b6, .inl (cb 6, 65, .inr (.inl (fun z9 => (w z9).2.1)))), (b7, .inl (cb 7, 65, .inl (fun z9 => (w z9).2.2)))] sz) (QmL (ckM cl 8 0) (dC, dI) clS [(r0, .inr (1, [.int th, .ref b0, .int (nI tn), .ref b1, .ref b2, .ref b3, .int (nI wn), .ref b4, .ref b5, .ref b6, .ref b7, .int (nI ko), .int (nI mw)])), (b0, .inl (cb 0, 8, .inl (fun z9 => nI (cl z9)))), (b1, .inl (cb 1, 2040, .inl (fun z9 => nI ((t z9).1 / 256)))), (b2, .inl (cb 2, 2040, .inl (fun z9 => nI ((t z9).1 % 256)))), (b3, .inl (cb 3, 2040, .inl (fun z9 => (t z9).2))), (b4, .inl (cb 4, 65, .inl (fun z9 => nI ((w z9).1 / 256)))), (b5, .inl (cb 5, 65, .inl (fun z9 => nI ((w z9).1 % 256)))), (b6, .inl (cb 6, 65, .inr (.inl (fun z9 => (w z9).2.1)))), (b7, .inl (cb 7, 65, .inl (fun z9 => (w z9).2.2)))] [(r0, .inr (1, [.int 0, .ref b0, .int (nI tn), .ref b1, .ref b2, .ref b3, .int (nI wn), .ref b4, .ref b5, .ref b6, .ref b7, .int (nI ko), .int (nI mw)])), (b0, .inl (cb 0, 8, .inl (fun z9 => nI (cl z9)))), (b1, .inl (cb 1, 2040, .inl (fun z9 => nI ((t z9).1 / 256)))), (b2, .inl (cb 2, 2040, .inl (fun z9 => nI ((t z9).1 % 256)))), (b3, .inl (cb 3, 2040, .inl (fun z9 => (t z9).2))), (b4, .inl (cb 4, 65, .inl (fun z9 => nI ((w z9).1 / 256)))), (b5, .inl (cb 5, 65, .inl (fun z9 => nI ((w z9).1 % 256)))), (b6, .inl (cb 6, 65, .inr (.inl (fun z9 => (w z9).2.1)))), (b7, .inl (cb 7, 65, .inl (fun z9 => (w z9).2.2)))] sz) 0 0 (va_A [(r0, .inr (1, [.int th, .ref b0, .int (nI tn), .ref b1, .ref b2, .ref b3, .int (nI wn), .ref b4, .ref b5, .ref b6, .ref b7, .int (nI ko), .int (nI mw)])), (b0, .inl (cb 0, 8, .inl (fun z9 => nI (cl z9)))), (b1, .inl (cb 1, 2040, .inl (fun z9 => nI ((t z9).1 / 256)))), (b2, .inl (cb 2, 2040, .inl (fun z9 => nI ((t z9).1 % 256)))), (b3, .inl (cb 3, 2040, .inl (fun z9 => (t z9).2))), (b4, .inl (cb 4, 65, .inl (fun z9 => nI ((w z9).1 / 256)))), (b5, .inl (cb 5, 65, .inl (fun z9 => nI ((w z9).1 % 256)))), (b6, .inl (cb 6, 65, .inr (.inl (fun z9 => (w z9).2.1)))), (b7, .inl (cb 7, 65, .inl (fun z9 => (w z9).2.2)))] sz) := by
  refine Met.ofW (cc := cY_clock) (maxL := 4) (ret := (some .long)) (by decide) rfl ?_
  intro p e s m args below meth c s₁ B hml hv
  obtain ⟨hargs, hsz, hP, hK, hD0⟩ := hv
  have hx := B.exec
  have hb := B.bytes
  have hr := B.returns
  have hts := atoms_spec (ws := wsY_clock) B.pre
  have hown : s.vm.findClass RY = some m.cls := findClass_of_methodNamed B.named
  have hlocks := B.notSynchronized
  subst hsz
  have hD := hD0.self (sz := s.heap.size)
  obtain ⟨A, hAe⟩ : ∃ A, A = va_A [(r0, .inr (1, [.int th, .ref b0, .int (nI tn), .ref b1, .ref b2, .ref b3, .int (nI wn), .ref b4, .ref b5, .ref b6, .ref b7, .int (nI ko), .int (nI mw)])), (b0, .inl (cb 0, 8, .inl (fun z9 => nI (cl z9)))), (b1, .inl (cb 1, 2040, .inl (fun z9 => nI ((t z9).1 / 256)))), (b2, .inl (cb 2, 2040, .inl (fun z9 => nI ((t z9).1 % 256)))), (b3, .inl (cb 3, 2040, .inl (fun z9 => (t z9).2))), (b4, .inl (cb 4, 65, .inl (fun z9 => nI ((w z9).1 / 256)))), (b5, .inl (cb 5, 65, .inl (fun z9 => nI ((w z9).1 % 256)))), (b6, .inl (cb 6, 65, .inr (.inl (fun z9 => (w z9).2.1)))), (b7, .inl (cb 7, 65, .inl (fun z9 => (w z9).2.2)))] s.heap.size := ⟨_, rfl⟩
  rw [← hAe] at hD ⊢
  have hA : ∀ q : Nat, s.heap.size ≤ q → A q := fun q h => by rw [hAe]; exact Or.inr h
  have hS : va_S A s.heap s.heap [] := va_S.rf
  have hP : va_P (dC, dI) clS [(r0, .inr (1, [.int th, .ref b0, .int (nI tn), .ref b1, .ref b2, .ref b3, .int (nI wn), .ref b4, .ref b5, .ref b6, .ref b7, .int (nI ko), .int (nI mw)])), (b0, .inl (cb 0, 8, .inl (fun z9 => nI (cl z9)))), (b1, .inl (cb 1, 2040, .inl (fun z9 => nI ((t z9).1 / 256)))), (b2, .inl (cb 2, 2040, .inl (fun z9 => nI ((t z9).1 % 256)))), (b3, .inl (cb 3, 2040, .inl (fun z9 => (t z9).2))), (b4, .inl (cb 4, 65, .inl (fun z9 => nI ((w z9).1 / 256)))), (b5, .inl (cb 5, 65, .inl (fun z9 => nI ((w z9).1 % 256)))), (b6, .inl (cb 6, 65, .inr (.inl (fun z9 => (w z9).2.1)))), (b7, .inl (cb 7, 65, .inl (fun z9 => (w z9).2.2)))] s.heap := hP
  have hl := lv_entry ([.ref r0]) (n := 4) (Nat.le_of_ble_eq_true rfl)
  have hE : entryFrame m args 4 = F0 m 0 ((lg_sl ([.ref r0]) ++ List.replicate (4 - (lg_sl ([.ref r0])).length) Slot.unset).toArray) [] := by rw [hargs]; exact lg_entry_eq m ([.ref r0]) 4
  rw [hE]
  generalize (lg_sl ([.ref r0]) ++ List.replicate (4 - (lg_sl ([.ref r0])).length) Slot.unset).toArray = ls at hl ⊢
  have hl : lv_has ls 4 [(0, .ref r0)] := hl
  refine lv_aload_n hx hb dY_clock_0 rfl (lv_at hl 0 rfl) ?_
  refine lv_iconst (v := 0) hx hb dY_clock_1 (by decide) ?_
  refine va_put (D := (dC, dI)) (ci := 1) (v := .int 0) (ty := .int) (C := RY) (T := TY) (N := 13) hx hb hts in_Y_clock_Y tyY tyY_ok nmY hown hK hP hD hS 0 rfl rfl 0 (by decide) (hts (.fieldLink RY 35 "CausalGateModel" "thrown" "I") (by decide +kernel)) (fun _ h9 => h9) rfl (by decide +kernel) rfl rfl (Nat.le_of_ble_eq_true rfl) dY_clock_2 (fun H locs hP hD hS => ?_)
  have hP : va_P (dC, dI) clS [(r0, .inr (1, [.int 0, .ref b0, .int (nI tn), .ref b1, .ref b2, .ref b3, .int (nI wn), .ref b4, .ref b5, .ref b6, .ref b7, .int (nI ko), .int (nI mw)])), (b0, .inl (cb 0, 8, .inl (fun z9 => nI (cl z9)))), (b1, .inl (cb 1, 2040, .inl (fun z9 => nI ((t z9).1 / 256)))), (b2, .inl (cb 2, 2040, .inl (fun z9 => nI ((t z9).1 % 256)))), (b3, .inl (cb 3, 2040, .inl (fun z9 => (t z9).2))), (b4, .inl (cb 4, 65, .inl (fun z9 => nI ((w z9).1 / 256)))), (b5, .inl (cb 5, 65, .inl (fun z9 => nI ((w z9).1 % 256)))), (b6, .inl (cb 6, 65, .inr (.inl (fun z9 => (w z9).2.1)))), (b7, .inl (cb 7, 65, .inl (fun z9 => (w z9).2.2)))] H := hP
  have hD : va_D A [(r0, .inr (1, [.int 0, .ref b0, .int (nI tn), .ref b1, .ref b2, .ref b3, .int (nI wn), .ref b4, .ref b5, .ref b6, .ref b7, .int (nI ko), .int (nI mw)])), (b0, .inl (cb 0, 8, .inl (fun z9 => nI (cl z9)))), (b1, .inl (cb 1, 2040, .inl (fun z9 => nI ((t z9).1 / 256)))), (b2, .inl (cb 2, 2040, .inl (fun z9 => nI ((t z9).1 % 256)))), (b3, .inl (cb 3, 2040, .inl (fun z9 => (t z9).2))), (b4, .inl (cb 4, 65, .inl (fun z9 => nI ((w z9).1 / 256)))), (b5, .inl (cb 5, 65, .inl (fun z9 => nI ((w z9).1 % 256)))), (b6, .inl (cb 6, 65, .inr (.inl (fun z9 => (w z9).2.1)))), (b7, .inl (cb 7, 65, .inl (fun z9 => (w z9).2.2)))] := hD
  refine lv_lconst (v := 0) hx hb dY_clock_5 (by decide) ?_
  refine lv_lstore_n (lv' := [(1, .long 0), (0, .ref r0)]) hx hb dY_clock_6 rfl hl (by decide) rfl (fun ls hl => ?_)
  refine lv_bipush (v := 7) hx hb dY_clock_7 (by decide) ?_
  refine tp_i (y := dN 8) (rfl) ?_
  refine lv_istore_n (lv' := [(3, .int (dN 8)), (1, .long 0), (0, .ref r0)]) hx hb dY_clock_9 rfl hl (by decide) rfl (fun ls hl => ?_)
  have loop : ∀ (n : Nat) (v : Int64), n ≤ 8 → ckM cl n v = ckM cl 8 0 → ∀ (H : Heap) (locs : List Loc), va_P (dC, dI) clS [(r0, .inr (1, [.int 0, .ref b0, .int (nI tn), .ref b1, .ref b2, .ref b3, .int (nI wn), .ref b4, .ref b5, .ref b6, .ref b7, .int (nI ko), .int (nI mw)])), (b0, .inl (cb 0, 8, .inl (fun z9 => nI (cl z9)))), (b1, .inl (cb 1, 2040, .inl (fun z9 => nI ((t z9).1 / 256)))), (b2, .inl (cb 2, 2040, .inl (fun z9 => nI ((t z9).1 % 256)))), (b3, .inl (cb 3, 2040, .inl (fun z9 => (t z9).2))), (b4, .inl (cb 4, 65, .inl (fun z9 => nI ((w z9).1 / 256)))), (b5, .inl (cb 5, 65, .inl (fun z9 => nI ((w z9).1 % 256)))), (b6, .inl (cb 6, 65, .inr (.inl (fun z9 => (w z9).2.1)))), (b7, .inl (cb 7, 65, .inl (fun z9 => (w z9).2.2)))] H → va_D A [(r0, .inr (1, [.int 0, .ref b0, .int (nI tn), .ref b1, .ref b2, .ref b3, .int (nI wn), .ref b4, .ref b5, .ref b6, .ref b7, .int (nI ko), .int (nI mw)])), (b0, .inl (cb 0, 8, .inl (fun z9 => nI (cl z9)))), (b1, .inl (cb 1, 2040, .inl (fun z9 => nI ((t z9).1 / 256)))), (b2, .inl (cb 2, 2040, .inl (fun z9 => nI ((t z9).1 % 256)))), (b3, .inl (cb 3, 2040, .inl (fun z9 => (t z9).2))), (b4, .inl (cb 4, 65, .inl (fun z9 => nI ((w z9).1 / 256)))), (b5, .inl (cb 5, 65, .inl (fun z9 => nI ((w z9).1 % 256)))), (b6, .inl (cb 6, 65, .inr (.inl (fun z9 => (w z9).2.1)))), (b7, .inl (cb 7, 65, .inl (fun z9 => (w z9).2.2)))] → va_S A s.heap H locs → ∀ ls : Array Slot, lv_has ls 4 [(0, .ref r0), (1, .long v), (3, .int (dN n))] → W p l e (headSpec wsY_clock ({ frames := 0, cells := 0, slots := 0, locals := 0 })).room s m args below meth c H locs 0 0 (MQ below (QmL (ckM cl 8 0) (dC, dI) clS [(r0, .inr (1, [.int th, .ref b0, .int (nI tn), .ref b1, .ref b2, .ref b3, .int (nI wn), .ref b4, .ref b5, .ref b6, .ref b7, .int (nI ko), .int (nI mw)])), (b0, .inl (cb 0, 8, .inl (fun z9 => nI (cl z9)))), (b1, .inl (cb 1, 2040, .inl (fun z9 => nI ((t z9).1 / 256)))), (b2, .inl (cb 2, 2040, .inl (fun z9 => nI ((t z9).1 % 256)))), (b3, .inl (cb 3, 2040, .inl (fun z9 => (t z9).2))), (b4, .inl (cb 4, 65, .inl (fun z9 => nI ((w z9).1 / 256)))), (b5, .inl (cb 5, 65, .inl (fun z9 => nI ((w z9).1 % 256)))), (b6, .inl (cb 6, 65, .inr (.inl (fun z9 => (w z9).2.1)))), (b7, .inl (cb 7, 65, .inl (fun z9 => (w z9).2.2)))] [(r0, .inr (1, [.int 0, .ref b0, .int (nI tn), .ref b1, .ref b2, .ref b3, .int (nI wn), .ref b4, .ref b5, .ref b6, .ref b7, .int (nI ko), .int (nI mw)])), (b0, .inl (cb 0, 8, .inl (fun z9 => nI (cl z9)))), (b1, .inl (cb 1, 2040, .inl (fun z9 => nI ((t z9).1 / 256)))), (b2, .inl (cb 2, 2040, .inl (fun z9 => nI ((t z9).1 % 256)))), (b3, .inl (cb 3, 2040, .inl (fun z9 => (t z9).2))), (b4, .inl (cb 4, 65, .inl (fun z9 => nI ((w z9).1 / 256)))), (b5, .inl (cb 5, 65, .inl (fun z9 => nI ((w z9).1 % 256)))), (b6, .inl (cb 6, 65, .inr (.inl (fun z9 => (w z9).2.1)))), (b7, .inl (cb 7, 65, .inl (fun z9 => (w z9).2.2)))] s.heap.size) args s 0 0 A) (F0 m 10 ls []) := by
    intro n
    induction n with
    | zero =>
      intro v hn hk9 H locs hP hD hS ls hl
      have hl : lv_has ls 4 [(0, .ref r0), (1, .long v), (3, .int (-1))] := hl
      refine lv_iload_n hx hb dY_clock_10 rfl (lv_at hl 2 rfl) ?_
      refine lv_if_lt (tgt := 33) hx hb dY_clock_11 (by decide) (fun c_11 => ?_) (fun c_11 => ?_)
      · refine lv_lload_n hx hb dY_clock_33 rfl (lv_at hl 1 rfl) ?_
        exact ml_ret hx hb hr hlocks (hk9) hAe hP hD hS dY_clock_34
      · exact absurd (by decide) c_11
    | succ n ih =>
      intro v hn hk9 H locs hP hD hS ls hl
      have hl : lv_has ls 4 [(0, .ref r0), (1, .long v), (3, .int (nI n))] := hl
      refine lv_iload_n hx hb dY_clock_10 rfl (lv_at hl 2 rfl) ?_
      refine lv_if_lt (tgt := 33) hx hb dY_clock_11 (by decide) (fun c_11 => ?_) (fun c_11 => ?_)
      · exact absurd c_11 (nI_pos (by omega))
      · refine lv_lload_n hx hb dY_clock_14 rfl (lv_at hl 1 rfl) ?_
        refine lv_bipush (v := 8) hx hb dY_clock_15 (by decide) ?_
        refine lv_lshl (v := v <<< ((8 : Int32).toInt64 &&& 63)) hx hb dY_clock_17 (rfl) ?_
        refine lv_aload_n hx hb dY_clock_18 rfl (lv_at hl 0 rfl) ?_
        refine va_get (D := (dC, dI)) (ci := 1) (v := .ref b0) (C := RY) (T := TY) (N := 13) hx hb hts in_Y_clock_Y hown hK hP 0 rfl rfl 1 (by decide) (hts (.fieldLink RY 7 "CausalGateModel" "clock" "[I") (by decide +kernel)) (fun _ h9 => h9) rfl dY_clock_19 ?_
        refine lv_iload_n hx hb dY_clock_22 rfl (lv_at hl 2 rfl) ?_
        refine va_iald hx hb hK hP 1 0 rfl rfl (vp_in_nI (by omega) (by decide)) dY_clock_23 ?_
        refine tp_i (y := nI (cl n)) (by rw [nI_clamp (by omega)]) ?_
        refine lv_i2l (v := (nI (cl n)).toInt64) hx hb dY_clock_24 (rfl) ?_
        refine lv_lor hx hb dY_clock_25 ?_
        refine lv_lstore_n (lv' := [(1, .long ((v <<< ((8 : Int32).toInt64 &&& 63)) ||| ((nI (cl n)).toInt64))), (0, .ref r0), (3, .int (nI n))]) hx hb dY_clock_26 rfl hl (by decide) rfl (fun ls hl => ?_)
        refine lv_iinc (v := (dN n)) (lv' := [(3, .int (dN n)), (1, .long ((v <<< ((8 : Int32).toInt64 &&& 63)) ||| ((nI (cl n)).toInt64))), (0, .ref r0)]) hx hb dY_clock_27 hl (k := 2) rfl (dN_dec n) (by decide) rfl (fun ls hl => ?_)
        refine lv_goto (tgt := 10) hx hb dY_clock_30 (by decide) ?_
        exact ih _ (by omega) (by rw [← hk9]; rfl) _ _ hP hD hS ls (lv_sub hl [2, 1, 0] rfl)
  exact loop 8 0 (Nat.le_refl _) rfl _ _ hP hD hS ls (lv_sub hl [2, 1, 0] rfl)

set_option maxRecDepth 20000 in
theorem in_Y_look_Y : ∀ w ∈ wsY0, w ∈ wsY_look := by decide +kernel

set_option maxHeartbeats 4000000 in
set_option maxRecDepth 100000 in
theorem kY_look (l : Launch) (dC : Nat → ClassId) (dI : Nat → Nat → Nat) (cb : Nat → ClassId) (r0 b0 b1 b2 b3 b4 b5 b6 b7 : Nat) (th : Int32) (cl : Nat → Nat) (t : TF) (tn : Nat) (w : WF) (wn : Nat) (ko mw : Nat) (sz : Nat) (x : Int32) : Met l yY_look wsY_look ({ frames := 0, cells := 0, slots := 0, locals := 0 }) (Pm [.ref r0, .int x] (dC, dI) clS [(cb 0, .int), (cb 1, .int), (cb 2, .int), (cb 3, .int), (cb 4, .int), (cb 5, .int), (cb 6, .long), (cb 7, .int)] [(r0, .inr (1, [.int th, .ref b0, .int (nI tn), .ref b1, .ref b2, .ref b3, .int (nI wn), .ref b4, .ref b5, .ref b6, .ref b7, .int (nI ko), .int (nI mw)])), (b0, .inl (cb 0, 8, .inl (fun z9 => nI (cl z9)))), (b1, .inl (cb 1, 2040, .inl (fun z9 => nI ((t z9).1 / 256)))), (b2, .inl (cb 2, 2040, .inl (fun z9 => nI ((t z9).1 % 256)))), (b3, .inl (cb 3, 2040, .inl (fun z9 => (t z9).2))), (b4, .inl (cb 4, 65, .inl (fun z9 => nI ((w z9).1 / 256)))), (b5, .inl (cb 5, 65, .inl (fun z9 => nI ((w z9).1 % 256)))), (b6, .inl (cb 6, 65, .inr (.inl (fun z9 => (w z9).2.1)))), (b7, .inl (cb 7, 65, .inl (fun z9 => (w z9).2.2)))] sz) (QmI (lok tn wn ko mw x) (dC, dI) clS [(r0, .inr (1, [.int th, .ref b0, .int (nI tn), .ref b1, .ref b2, .ref b3, .int (nI wn), .ref b4, .ref b5, .ref b6, .ref b7, .int (nI ko), .int (nI mw)])), (b0, .inl (cb 0, 8, .inl (fun z9 => nI (cl z9)))), (b1, .inl (cb 1, 2040, .inl (fun z9 => nI ((t z9).1 / 256)))), (b2, .inl (cb 2, 2040, .inl (fun z9 => nI ((t z9).1 % 256)))), (b3, .inl (cb 3, 2040, .inl (fun z9 => (t z9).2))), (b4, .inl (cb 4, 65, .inl (fun z9 => nI ((w z9).1 / 256)))), (b5, .inl (cb 5, 65, .inl (fun z9 => nI ((w z9).1 % 256)))), (b6, .inl (cb 6, 65, .inr (.inl (fun z9 => (w z9).2.1)))), (b7, .inl (cb 7, 65, .inl (fun z9 => (w z9).2.2)))] [(r0, .inr (1, [.int 0, .ref b0, .int (nI tn), .ref b1, .ref b2, .ref b3, .int (nI wn), .ref b4, .ref b5, .ref b6, .ref b7, .int (nI ko), .int (nI mw)])), (b0, .inl (cb 0, 8, .inl (fun z9 => nI (cl z9)))), (b1, .inl (cb 1, 2040, .inl (fun z9 => nI ((t z9).1 / 256)))), (b2, .inl (cb 2, 2040, .inl (fun z9 => nI ((t z9).1 % 256)))), (b3, .inl (cb 3, 2040, .inl (fun z9 => (t z9).2))), (b4, .inl (cb 4, 65, .inl (fun z9 => nI ((w z9).1 / 256)))), (b5, .inl (cb 5, 65, .inl (fun z9 => nI ((w z9).1 % 256)))), (b6, .inl (cb 6, 65, .inr (.inl (fun z9 => (w z9).2.1)))), (b7, .inl (cb 7, 65, .inl (fun z9 => (w z9).2.2)))] sz) 0 0 (va_A [(r0, .inr (1, [.int th, .ref b0, .int (nI tn), .ref b1, .ref b2, .ref b3, .int (nI wn), .ref b4, .ref b5, .ref b6, .ref b7, .int (nI ko), .int (nI mw)])), (b0, .inl (cb 0, 8, .inl (fun z9 => nI (cl z9)))), (b1, .inl (cb 1, 2040, .inl (fun z9 => nI ((t z9).1 / 256)))), (b2, .inl (cb 2, 2040, .inl (fun z9 => nI ((t z9).1 % 256)))), (b3, .inl (cb 3, 2040, .inl (fun z9 => (t z9).2))), (b4, .inl (cb 4, 65, .inl (fun z9 => nI ((w z9).1 / 256)))), (b5, .inl (cb 5, 65, .inl (fun z9 => nI ((w z9).1 % 256)))), (b6, .inl (cb 6, 65, .inr (.inl (fun z9 => (w z9).2.1)))), (b7, .inl (cb 7, 65, .inl (fun z9 => (w z9).2.2)))] sz) := by
  refine Met.ofW (cc := cY_look) (maxL := 2) (ret := (some .int)) (by decide) rfl ?_
  intro p e s m args below meth c s₁ B hml hv
  obtain ⟨hargs, hsz, hP, hK, hD0⟩ := hv
  have hx := B.exec
  have hb := B.bytes
  have hr := B.returns
  have hts := atoms_spec (ws := wsY_look) B.pre
  have hown : s.vm.findClass RY = some m.cls := findClass_of_methodNamed B.named
  have hlocks := B.notSynchronized
  subst hsz
  have hD := hD0.self (sz := s.heap.size)
  obtain ⟨A, hAe⟩ : ∃ A, A = va_A [(r0, .inr (1, [.int th, .ref b0, .int (nI tn), .ref b1, .ref b2, .ref b3, .int (nI wn), .ref b4, .ref b5, .ref b6, .ref b7, .int (nI ko), .int (nI mw)])), (b0, .inl (cb 0, 8, .inl (fun z9 => nI (cl z9)))), (b1, .inl (cb 1, 2040, .inl (fun z9 => nI ((t z9).1 / 256)))), (b2, .inl (cb 2, 2040, .inl (fun z9 => nI ((t z9).1 % 256)))), (b3, .inl (cb 3, 2040, .inl (fun z9 => (t z9).2))), (b4, .inl (cb 4, 65, .inl (fun z9 => nI ((w z9).1 / 256)))), (b5, .inl (cb 5, 65, .inl (fun z9 => nI ((w z9).1 % 256)))), (b6, .inl (cb 6, 65, .inr (.inl (fun z9 => (w z9).2.1)))), (b7, .inl (cb 7, 65, .inl (fun z9 => (w z9).2.2)))] s.heap.size := ⟨_, rfl⟩
  rw [← hAe] at hD ⊢
  have hA : ∀ q : Nat, s.heap.size ≤ q → A q := fun q h => by rw [hAe]; exact Or.inr h
  have hS : va_S A s.heap s.heap [] := va_S.rf
  have hP : va_P (dC, dI) clS [(r0, .inr (1, [.int th, .ref b0, .int (nI tn), .ref b1, .ref b2, .ref b3, .int (nI wn), .ref b4, .ref b5, .ref b6, .ref b7, .int (nI ko), .int (nI mw)])), (b0, .inl (cb 0, 8, .inl (fun z9 => nI (cl z9)))), (b1, .inl (cb 1, 2040, .inl (fun z9 => nI ((t z9).1 / 256)))), (b2, .inl (cb 2, 2040, .inl (fun z9 => nI ((t z9).1 % 256)))), (b3, .inl (cb 3, 2040, .inl (fun z9 => (t z9).2))), (b4, .inl (cb 4, 65, .inl (fun z9 => nI ((w z9).1 / 256)))), (b5, .inl (cb 5, 65, .inl (fun z9 => nI ((w z9).1 % 256)))), (b6, .inl (cb 6, 65, .inr (.inl (fun z9 => (w z9).2.1)))), (b7, .inl (cb 7, 65, .inl (fun z9 => (w z9).2.2)))] s.heap := hP
  have hl := lv_entry ([.ref r0, .int x]) (n := 2) (Nat.le_of_ble_eq_true rfl)
  have hE : entryFrame m args 2 = F0 m 0 ((lg_sl ([.ref r0, .int x]) ++ List.replicate (2 - (lg_sl ([.ref r0, .int x])).length) Slot.unset).toArray) [] := by rw [hargs]; exact lg_entry_eq m ([.ref r0, .int x]) 2
  rw [hE]
  generalize (lg_sl ([.ref r0, .int x]) ++ List.replicate (2 - (lg_sl ([.ref r0, .int x])).length) Slot.unset).toArray = ls at hl ⊢
  have hl : lv_has ls 2 [(0, .ref r0), (1, .int x)] := hl
  refine lv_aload_n hx hb dY_look_0 rfl (lv_at hl 0 rfl) ?_
  refine lv_iconst (v := 0) hx hb dY_look_1 (by decide) ?_
  refine va_put (D := (dC, dI)) (ci := 1) (v := .int 0) (ty := .int) (C := RY) (T := TY) (N := 13) hx hb hts in_Y_look_Y tyY tyY_ok nmY hown hK hP hD hS 0 rfl rfl 0 (by decide) (hts (.fieldLink RY 35 "CausalGateModel" "thrown" "I") (by decide +kernel)) (fun _ h9 => h9) rfl (by decide +kernel) rfl rfl (Nat.le_of_ble_eq_true rfl) dY_look_2 (fun H locs hP hD hS => ?_)
  have hP : va_P (dC, dI) clS [(r0, .inr (1, [.int 0, .ref b0, .int (nI tn), .ref b1, .ref b2, .ref b3, .int (nI wn), .ref b4, .ref b5, .ref b6, .ref b7, .int (nI ko), .int (nI mw)])), (b0, .inl (cb 0, 8, .inl (fun z9 => nI (cl z9)))), (b1, .inl (cb 1, 2040, .inl (fun z9 => nI ((t z9).1 / 256)))), (b2, .inl (cb 2, 2040, .inl (fun z9 => nI ((t z9).1 % 256)))), (b3, .inl (cb 3, 2040, .inl (fun z9 => (t z9).2))), (b4, .inl (cb 4, 65, .inl (fun z9 => nI ((w z9).1 / 256)))), (b5, .inl (cb 5, 65, .inl (fun z9 => nI ((w z9).1 % 256)))), (b6, .inl (cb 6, 65, .inr (.inl (fun z9 => (w z9).2.1)))), (b7, .inl (cb 7, 65, .inl (fun z9 => (w z9).2.2)))] H := hP
  have hD : va_D A [(r0, .inr (1, [.int 0, .ref b0, .int (nI tn), .ref b1, .ref b2, .ref b3, .int (nI wn), .ref b4, .ref b5, .ref b6, .ref b7, .int (nI ko), .int (nI mw)])), (b0, .inl (cb 0, 8, .inl (fun z9 => nI (cl z9)))), (b1, .inl (cb 1, 2040, .inl (fun z9 => nI ((t z9).1 / 256)))), (b2, .inl (cb 2, 2040, .inl (fun z9 => nI ((t z9).1 % 256)))), (b3, .inl (cb 3, 2040, .inl (fun z9 => (t z9).2))), (b4, .inl (cb 4, 65, .inl (fun z9 => nI ((w z9).1 / 256)))), (b5, .inl (cb 5, 65, .inl (fun z9 => nI ((w z9).1 % 256)))), (b6, .inl (cb 6, 65, .inr (.inl (fun z9 => (w z9).2.1)))), (b7, .inl (cb 7, 65, .inl (fun z9 => (w z9).2.2)))] := hD
  refine lv_iload_n hx hb dY_look_5 rfl (lv_at hl 1 rfl) ?_
  refine lv_if_ne (tgt := 16) hx hb dY_look_6 (by decide) (fun c_6 => ?_) (fun c_6 => ?_)
  · refine lv_iload_n hx hb dY_look_16 rfl (lv_at hl 1 rfl) ?_
    refine lv_iconst (v := 1) hx hb dY_look_17 (by decide) ?_
    refine lv_icmp_ne (tgt := 28) hx hb dY_look_18 (by decide) (fun c_18 => ?_) (fun c_18 => ?_)
    · refine lv_iload_n hx hb dY_look_28 rfl (lv_at hl 1 rfl) ?_
      refine lv_iconst (v := 2) hx hb dY_look_29 (by decide) ?_
      refine lv_icmp_ne (tgt := 40) hx hb dY_look_30 (by decide) (fun c_30 => ?_) (fun c_30 => ?_)
      · refine lv_iload_n hx hb dY_look_40 rfl (lv_at hl 1 rfl) ?_
        refine lv_iconst (v := 3) hx hb dY_look_41 (by decide) ?_
        refine lv_icmp_ne (tgt := 52) hx hb dY_look_42 (by decide) (fun c_42 => ?_) (fun c_42 => ?_)
        · refine lv_iconst (v := -1) hx hb dY_look_52 (by decide) ?_
          exact mi_ret hx hb hr hlocks (by simp [lok, *]) hAe hP hD hS dY_look_53
        · refine lv_aload_n hx hb dY_look_45 rfl (lv_at hl 0 rfl) ?_
          refine va_get (D := (dC, dI)) (ci := 1) (v := .int (nI mw)) (C := RY) (T := TY) (N := 13) hx hb hts in_Y_look_Y hown hK hP 0 rfl rfl 12 (by decide) (hts (.fieldLink RY 62 "CausalGateModel" "most" "I") (by decide +kernel)) (fun _ h9 => h9) rfl dY_look_46 ?_
          refine lv_goto (tgt := 53) hx hb dY_look_49 (by decide) ?_
          exact mi_ret hx hb hr hlocks (by simp [lok, *]) hAe hP hD hS dY_look_53
      · refine lv_aload_n hx hb dY_look_33 rfl (lv_at hl 0 rfl) ?_
        refine va_get (D := (dC, dI)) (ci := 1) (v := .int (nI ko)) (C := RY) (T := TY) (N := 13) hx hb hts in_Y_look_Y hown hK hP 0 rfl rfl 11 (by decide) (hts (.fieldLink RY 59 "CausalGateModel" "knownOffers" "I") (by decide +kernel)) (fun _ h9 => h9) rfl dY_look_34 ?_
        refine lv_goto (tgt := 53) hx hb dY_look_37 (by decide) ?_
        exact mi_ret hx hb hr hlocks (by simp [lok, *]) hAe hP hD hS dY_look_53
    · refine lv_aload_n hx hb dY_look_21 rfl (lv_at hl 0 rfl) ?_
      refine va_get (D := (dC, dI)) (ci := 1) (v := .int (nI wn)) (C := RY) (T := TY) (N := 13) hx hb hts in_Y_look_Y hown hK hP 0 rfl rfl 6 (by decide) (hts (.fieldLink RY 49 "CausalGateModel" "waiting" "I") (by decide +kernel)) (fun _ h9 => h9) rfl dY_look_22 ?_
      refine lv_goto (tgt := 53) hx hb dY_look_25 (by decide) ?_
      exact mi_ret hx hb hr hlocks (by simp [lok, *]) hAe hP hD hS dY_look_53
  · refine lv_aload_n hx hb dY_look_9 rfl (lv_at hl 0 rfl) ?_
    refine va_get (D := (dC, dI)) (ci := 1) (v := .int (nI tn)) (C := RY) (T := TY) (N := 13) hx hb hts in_Y_look_Y hown hK hP 0 rfl rfl 2 (by decide) (hts (.fieldLink RY 52 "CausalGateModel" "through" "I") (by decide +kernel)) (fun _ h9 => h9) rfl dY_look_10 ?_
    refine lv_goto (tgt := 53) hx hb dY_look_13 (by decide) ?_
    exact mi_ret hx hb hr hlocks (by simp [lok, *]) hAe hP hD hS dY_look_53

set_option maxRecDepth 20000 in
theorem in_Y_ahead_Y : ∀ w ∈ wsY0, w ∈ wsY_ahead := by decide +kernel

set_option maxHeartbeats 4000000 in
set_option maxRecDepth 100000 in
theorem kY_ahead (l : Launch) (dC : Nat → ClassId) (dI : Nat → Nat → Nat) (cb : Nat → ClassId) (r0 b0 b1 b2 b3 b4 b5 b6 b7 : Nat) (th : Int32) (cl : Nat → Nat) (t : TF) (tn : Nat) (w : WF) (wn : Nat) (ko mw : Nat) (sz : Nat) (htn : tn ≤ 2040) (ht : ∀ j, j < tn → (t j).1 < 2048) (ck : Int64) : Met l yY_ahead wsY_ahead ({ frames := 2, cells := 0, slots := 0, locals := 45 }) (Pm [.ref r0, .long ck] (dC, dI) clS [(cb 0, .int), (cb 1, .int), (cb 2, .int), (cb 3, .int), (cb 4, .int), (cb 5, .int), (cb 6, .long), (cb 7, .int)] [(r0, .inr (1, [.int th, .ref b0, .int (nI tn), .ref b1, .ref b2, .ref b3, .int (nI wn), .ref b4, .ref b5, .ref b6, .ref b7, .int (nI ko), .int (nI mw)])), (b0, .inl (cb 0, 8, .inl (fun z9 => nI (cl z9)))), (b1, .inl (cb 1, 2040, .inl (fun z9 => nI ((t z9).1 / 256)))), (b2, .inl (cb 2, 2040, .inl (fun z9 => nI ((t z9).1 % 256)))), (b3, .inl (cb 3, 2040, .inl (fun z9 => (t z9).2))), (b4, .inl (cb 4, 65, .inl (fun z9 => nI ((w z9).1 / 256)))), (b5, .inl (cb 5, 65, .inl (fun z9 => nI ((w z9).1 % 256)))), (b6, .inl (cb 6, 65, .inr (.inl (fun z9 => (w z9).2.1)))), (b7, .inl (cb 7, 65, .inl (fun z9 => (w z9).2.2)))] sz) (QmI (nI (ahM t ck tn 0 0)) (dC, dI) clS [(r0, .inr (1, [.int th, .ref b0, .int (nI tn), .ref b1, .ref b2, .ref b3, .int (nI wn), .ref b4, .ref b5, .ref b6, .ref b7, .int (nI ko), .int (nI mw)])), (b0, .inl (cb 0, 8, .inl (fun z9 => nI (cl z9)))), (b1, .inl (cb 1, 2040, .inl (fun z9 => nI ((t z9).1 / 256)))), (b2, .inl (cb 2, 2040, .inl (fun z9 => nI ((t z9).1 % 256)))), (b3, .inl (cb 3, 2040, .inl (fun z9 => (t z9).2))), (b4, .inl (cb 4, 65, .inl (fun z9 => nI ((w z9).1 / 256)))), (b5, .inl (cb 5, 65, .inl (fun z9 => nI ((w z9).1 % 256)))), (b6, .inl (cb 6, 65, .inr (.inl (fun z9 => (w z9).2.1)))), (b7, .inl (cb 7, 65, .inl (fun z9 => (w z9).2.2)))] [(r0, .inr (1, [.int 0, .ref b0, .int (nI tn), .ref b1, .ref b2, .ref b3, .int (nI wn), .ref b4, .ref b5, .ref b6, .ref b7, .int (nI ko), .int (nI mw)])), (b0, .inl (cb 0, 8, .inl (fun z9 => nI (cl z9)))), (b1, .inl (cb 1, 2040, .inl (fun z9 => nI ((t z9).1 / 256)))), (b2, .inl (cb 2, 2040, .inl (fun z9 => nI ((t z9).1 % 256)))), (b3, .inl (cb 3, 2040, .inl (fun z9 => (t z9).2))), (b4, .inl (cb 4, 65, .inl (fun z9 => nI ((w z9).1 / 256)))), (b5, .inl (cb 5, 65, .inl (fun z9 => nI ((w z9).1 % 256)))), (b6, .inl (cb 6, 65, .inr (.inl (fun z9 => (w z9).2.1)))), (b7, .inl (cb 7, 65, .inl (fun z9 => (w z9).2.2)))] sz) 0 0 (va_A [(r0, .inr (1, [.int th, .ref b0, .int (nI tn), .ref b1, .ref b2, .ref b3, .int (nI wn), .ref b4, .ref b5, .ref b6, .ref b7, .int (nI ko), .int (nI mw)])), (b0, .inl (cb 0, 8, .inl (fun z9 => nI (cl z9)))), (b1, .inl (cb 1, 2040, .inl (fun z9 => nI ((t z9).1 / 256)))), (b2, .inl (cb 2, 2040, .inl (fun z9 => nI ((t z9).1 % 256)))), (b3, .inl (cb 3, 2040, .inl (fun z9 => (t z9).2))), (b4, .inl (cb 4, 65, .inl (fun z9 => nI ((w z9).1 / 256)))), (b5, .inl (cb 5, 65, .inl (fun z9 => nI ((w z9).1 % 256)))), (b6, .inl (cb 6, 65, .inr (.inl (fun z9 => (w z9).2.1)))), (b7, .inl (cb 7, 65, .inl (fun z9 => (w z9).2.2)))] sz) := by
  refine Met.ofW (cc := cY_ahead) (maxL := 5) (ret := (some .int)) (by decide) rfl ?_
  intro p e s m args below meth c s₁ B hml hv
  obtain ⟨hargs, hsz, hP, hK, hD0⟩ := hv
  have hx := B.exec
  have hb := B.bytes
  have hr := B.returns
  have hts := atoms_spec (ws := wsY_ahead) B.pre
  have hown : s.vm.findClass RY = some m.cls := findClass_of_methodNamed B.named
  have hlocks := B.notSynchronized
  subst hsz
  have hD := hD0.self (sz := s.heap.size)
  obtain ⟨A, hAe⟩ : ∃ A, A = va_A [(r0, .inr (1, [.int th, .ref b0, .int (nI tn), .ref b1, .ref b2, .ref b3, .int (nI wn), .ref b4, .ref b5, .ref b6, .ref b7, .int (nI ko), .int (nI mw)])), (b0, .inl (cb 0, 8, .inl (fun z9 => nI (cl z9)))), (b1, .inl (cb 1, 2040, .inl (fun z9 => nI ((t z9).1 / 256)))), (b2, .inl (cb 2, 2040, .inl (fun z9 => nI ((t z9).1 % 256)))), (b3, .inl (cb 3, 2040, .inl (fun z9 => (t z9).2))), (b4, .inl (cb 4, 65, .inl (fun z9 => nI ((w z9).1 / 256)))), (b5, .inl (cb 5, 65, .inl (fun z9 => nI ((w z9).1 % 256)))), (b6, .inl (cb 6, 65, .inr (.inl (fun z9 => (w z9).2.1)))), (b7, .inl (cb 7, 65, .inl (fun z9 => (w z9).2.2)))] s.heap.size := ⟨_, rfl⟩
  rw [← hAe] at hD ⊢
  have hA : ∀ q : Nat, s.heap.size ≤ q → A q := fun q h => by rw [hAe]; exact Or.inr h
  have hS : va_S A s.heap s.heap [] := va_S.rf
  have hP : va_P (dC, dI) clS [(r0, .inr (1, [.int th, .ref b0, .int (nI tn), .ref b1, .ref b2, .ref b3, .int (nI wn), .ref b4, .ref b5, .ref b6, .ref b7, .int (nI ko), .int (nI mw)])), (b0, .inl (cb 0, 8, .inl (fun z9 => nI (cl z9)))), (b1, .inl (cb 1, 2040, .inl (fun z9 => nI ((t z9).1 / 256)))), (b2, .inl (cb 2, 2040, .inl (fun z9 => nI ((t z9).1 % 256)))), (b3, .inl (cb 3, 2040, .inl (fun z9 => (t z9).2))), (b4, .inl (cb 4, 65, .inl (fun z9 => nI ((w z9).1 / 256)))), (b5, .inl (cb 5, 65, .inl (fun z9 => nI ((w z9).1 % 256)))), (b6, .inl (cb 6, 65, .inr (.inl (fun z9 => (w z9).2.1)))), (b7, .inl (cb 7, 65, .inl (fun z9 => (w z9).2.2)))] s.heap := hP
  have hl := lv_entry ([.ref r0, .long ck]) (n := 5) (Nat.le_of_ble_eq_true rfl)
  have hE : entryFrame m args 5 = F0 m 0 ((lg_sl ([.ref r0, .long ck]) ++ List.replicate (5 - (lg_sl ([.ref r0, .long ck])).length) Slot.unset).toArray) [] := by rw [hargs]; exact lg_entry_eq m ([.ref r0, .long ck]) 5
  rw [hE]
  generalize (lg_sl ([.ref r0, .long ck]) ++ List.replicate (5 - (lg_sl ([.ref r0, .long ck])).length) Slot.unset).toArray = ls at hl ⊢
  have hl : lv_has ls 5 [(0, .ref r0), (1, .long ck)] := hl
  refine lv_aload_n hx hb dY_ahead_0 rfl (lv_at hl 0 rfl) ?_
  refine lv_iconst (v := 0) hx hb dY_ahead_1 (by decide) ?_
  refine va_put (D := (dC, dI)) (ci := 1) (v := .int 0) (ty := .int) (C := RY) (T := TY) (N := 13) hx hb hts in_Y_ahead_Y tyY tyY_ok nmY hown hK hP hD hS 0 rfl rfl 0 (by decide) (hts (.fieldLink RY 35 "CausalGateModel" "thrown" "I") (by decide +kernel)) (fun _ h9 => h9) rfl (by decide +kernel) rfl rfl (Nat.le_of_ble_eq_true rfl) dY_ahead_2 (fun H locs hP hD hS => ?_)
  have hP : va_P (dC, dI) clS [(r0, .inr (1, [.int 0, .ref b0, .int (nI tn), .ref b1, .ref b2, .ref b3, .int (nI wn), .ref b4, .ref b5, .ref b6, .ref b7, .int (nI ko), .int (nI mw)])), (b0, .inl (cb 0, 8, .inl (fun z9 => nI (cl z9)))), (b1, .inl (cb 1, 2040, .inl (fun z9 => nI ((t z9).1 / 256)))), (b2, .inl (cb 2, 2040, .inl (fun z9 => nI ((t z9).1 % 256)))), (b3, .inl (cb 3, 2040, .inl (fun z9 => (t z9).2))), (b4, .inl (cb 4, 65, .inl (fun z9 => nI ((w z9).1 / 256)))), (b5, .inl (cb 5, 65, .inl (fun z9 => nI ((w z9).1 % 256)))), (b6, .inl (cb 6, 65, .inr (.inl (fun z9 => (w z9).2.1)))), (b7, .inl (cb 7, 65, .inl (fun z9 => (w z9).2.2)))] H := hP
  have hD : va_D A [(r0, .inr (1, [.int 0, .ref b0, .int (nI tn), .ref b1, .ref b2, .ref b3, .int (nI wn), .ref b4, .ref b5, .ref b6, .ref b7, .int (nI ko), .int (nI mw)])), (b0, .inl (cb 0, 8, .inl (fun z9 => nI (cl z9)))), (b1, .inl (cb 1, 2040, .inl (fun z9 => nI ((t z9).1 / 256)))), (b2, .inl (cb 2, 2040, .inl (fun z9 => nI ((t z9).1 % 256)))), (b3, .inl (cb 3, 2040, .inl (fun z9 => (t z9).2))), (b4, .inl (cb 4, 65, .inl (fun z9 => nI ((w z9).1 / 256)))), (b5, .inl (cb 5, 65, .inl (fun z9 => nI ((w z9).1 % 256)))), (b6, .inl (cb 6, 65, .inr (.inl (fun z9 => (w z9).2.1)))), (b7, .inl (cb 7, 65, .inl (fun z9 => (w z9).2.2)))] := hD
  refine lv_iconst (v := 0) hx hb dY_ahead_5 (by decide) ?_
  refine tp_i (y := nI 0) (nI_0.symm) ?_
  refine lv_istore_n (lv' := [(3, .int (nI 0)), (0, .ref r0), (1, .long ck)]) hx hb dY_ahead_6 rfl hl (by decide) rfl (fun ls hl => ?_)
  refine lv_iconst (v := 0) hx hb dY_ahead_7 (by decide) ?_
  refine tp_i (y := nI 0) (nI_0.symm) ?_
  refine lv_istore (lv' := [(4, .int (nI 0)), (3, .int (nI 0)), (0, .ref r0), (1, .long ck)]) hx hb dY_ahead_8 hl (by decide) rfl (fun ls hl => ?_)
  have loop : ∀ (n : Nat) (j x : Nat), j + n = tn → ahM t ck n j x = ahM t ck tn 0 0 → ∀ (H : Heap) (locs : List Loc), va_P (dC, dI) clS [(r0, .inr (1, [.int 0, .ref b0, .int (nI tn), .ref b1, .ref b2, .ref b3, .int (nI wn), .ref b4, .ref b5, .ref b6, .ref b7, .int (nI ko), .int (nI mw)])), (b0, .inl (cb 0, 8, .inl (fun z9 => nI (cl z9)))), (b1, .inl (cb 1, 2040, .inl (fun z9 => nI ((t z9).1 / 256)))), (b2, .inl (cb 2, 2040, .inl (fun z9 => nI ((t z9).1 % 256)))), (b3, .inl (cb 3, 2040, .inl (fun z9 => (t z9).2))), (b4, .inl (cb 4, 65, .inl (fun z9 => nI ((w z9).1 / 256)))), (b5, .inl (cb 5, 65, .inl (fun z9 => nI ((w z9).1 % 256)))), (b6, .inl (cb 6, 65, .inr (.inl (fun z9 => (w z9).2.1)))), (b7, .inl (cb 7, 65, .inl (fun z9 => (w z9).2.2)))] H → va_D A [(r0, .inr (1, [.int 0, .ref b0, .int (nI tn), .ref b1, .ref b2, .ref b3, .int (nI wn), .ref b4, .ref b5, .ref b6, .ref b7, .int (nI ko), .int (nI mw)])), (b0, .inl (cb 0, 8, .inl (fun z9 => nI (cl z9)))), (b1, .inl (cb 1, 2040, .inl (fun z9 => nI ((t z9).1 / 256)))), (b2, .inl (cb 2, 2040, .inl (fun z9 => nI ((t z9).1 % 256)))), (b3, .inl (cb 3, 2040, .inl (fun z9 => (t z9).2))), (b4, .inl (cb 4, 65, .inl (fun z9 => nI ((w z9).1 / 256)))), (b5, .inl (cb 5, 65, .inl (fun z9 => nI ((w z9).1 % 256)))), (b6, .inl (cb 6, 65, .inr (.inl (fun z9 => (w z9).2.1)))), (b7, .inl (cb 7, 65, .inl (fun z9 => (w z9).2.2)))] → va_S A s.heap H locs → ∀ ls : Array Slot, lv_has ls 5 [(0, .ref r0), (1, .long ck), (3, .int (nI x)), (4, .int (nI j))] → W p l e (headSpec wsY_ahead ({ frames := 2, cells := 0, slots := 0, locals := 45 })).room s m args below meth c H locs 0 0 (MQ below (QmI (nI (ahM t ck tn 0 0)) (dC, dI) clS [(r0, .inr (1, [.int th, .ref b0, .int (nI tn), .ref b1, .ref b2, .ref b3, .int (nI wn), .ref b4, .ref b5, .ref b6, .ref b7, .int (nI ko), .int (nI mw)])), (b0, .inl (cb 0, 8, .inl (fun z9 => nI (cl z9)))), (b1, .inl (cb 1, 2040, .inl (fun z9 => nI ((t z9).1 / 256)))), (b2, .inl (cb 2, 2040, .inl (fun z9 => nI ((t z9).1 % 256)))), (b3, .inl (cb 3, 2040, .inl (fun z9 => (t z9).2))), (b4, .inl (cb 4, 65, .inl (fun z9 => nI ((w z9).1 / 256)))), (b5, .inl (cb 5, 65, .inl (fun z9 => nI ((w z9).1 % 256)))), (b6, .inl (cb 6, 65, .inr (.inl (fun z9 => (w z9).2.1)))), (b7, .inl (cb 7, 65, .inl (fun z9 => (w z9).2.2)))] [(r0, .inr (1, [.int 0, .ref b0, .int (nI tn), .ref b1, .ref b2, .ref b3, .int (nI wn), .ref b4, .ref b5, .ref b6, .ref b7, .int (nI ko), .int (nI mw)])), (b0, .inl (cb 0, 8, .inl (fun z9 => nI (cl z9)))), (b1, .inl (cb 1, 2040, .inl (fun z9 => nI ((t z9).1 / 256)))), (b2, .inl (cb 2, 2040, .inl (fun z9 => nI ((t z9).1 % 256)))), (b3, .inl (cb 3, 2040, .inl (fun z9 => (t z9).2))), (b4, .inl (cb 4, 65, .inl (fun z9 => nI ((w z9).1 / 256)))), (b5, .inl (cb 5, 65, .inl (fun z9 => nI ((w z9).1 % 256)))), (b6, .inl (cb 6, 65, .inr (.inl (fun z9 => (w z9).2.1)))), (b7, .inl (cb 7, 65, .inl (fun z9 => (w z9).2.2)))] s.heap.size) args s 0 0 A) (F0 m 10 ls []) := by
    intro n
    induction n with
    | zero =>
      intro j x hj hk9 H locs hP hD hS ls hl
      refine lv_iload hx hb dY_ahead_10 (lv_at hl 3 rfl) ?_
      refine lv_aload_n hx hb dY_ahead_12 rfl (lv_at hl 0 rfl) ?_
      refine va_get (D := (dC, dI)) (ci := 1) (v := .int (nI tn)) (C := RY) (T := TY) (N := 13) hx hb hts in_Y_ahead_Y hown hK hP 0 rfl rfl 2 (by decide) (hts (.fieldLink RY 52 "CausalGateModel" "through" "I") (by decide +kernel)) (fun _ h9 => h9) rfl dY_ahead_13 ?_
      refine lv_icmp_ge (tgt := 43) hx hb dY_ahead_16 (by decide) (fun c_16 => ?_) (fun c_16 => ?_)
      · refine lv_iload_n hx hb dY_ahead_43 rfl (lv_at hl 2 rfl) ?_
        exact mi_ret hx hb hr hlocks (by rw [← hk9]; rfl) hAe hP hD hS dY_ahead_44
      · exact absurd (nI_le (by omega) (by omega)) c_16
    | succ n ih =>
      intro j x hj hk9 H locs hP hD hS ls hl
      refine lv_iload hx hb dY_ahead_10 (lv_at hl 3 rfl) ?_
      refine lv_aload_n hx hb dY_ahead_12 rfl (lv_at hl 0 rfl) ?_
      refine va_get (D := (dC, dI)) (ci := 1) (v := .int (nI tn)) (C := RY) (T := TY) (N := 13) hx hb hts in_Y_ahead_Y hown hK hP 0 rfl rfl 2 (by decide) (hts (.fieldLink RY 52 "CausalGateModel" "through" "I") (by decide +kernel)) (fun _ h9 => h9) rfl dY_ahead_13 ?_
      refine lv_icmp_ge (tgt := 43) hx hb dY_ahead_16 (by decide) (fun c_16 => ?_) (fun c_16 => ?_)
      · exact absurd ((nI_leI (by omega) (by omega)).mp c_16) (by omega)
      · refine lv_iload_n hx hb dY_ahead_19 rfl (lv_at hl 2 rfl) ?_
        refine lv_aload_n hx hb dY_ahead_20 rfl (lv_at hl 0 rfl) ?_
        refine lv_lload_n hx hb dY_ahead_21 rfl (lv_at hl 1 rfl) ?_
        refine lv_iload hx hb dY_ahead_22 (lv_at hl 3 rfl) ?_
        refine rd_i (W.runV (As := [.long ck, .int (nI j)]) (rest := [.int (nI x)]) ⟨hx, hb, hml, hown, hts⟩ (kY_lacks l dC dI cb r0 b0 b1 b2 b3 b4 b5 b6 b7 0 cl t tn w wn ko mw htn ht ck j (by omega)) (cwV 2 hts gY_ahead_Y_lacks rfl rfl rfl (by decide +kernel) ⟨Nat.le_of_ble_eq_true rfl, Nat.le_of_ble_eq_true rfl⟩) (pr_V (ci := 1) (q0 := 0) hK hP rfl rfl) rfl rfl hl.1 rfl (lv_room (Nat.le_of_ble_eq_true rfl)) dY_ahead_24 ⟨Nat.zero_le _, Nat.zero_le _⟩) ?_
        refine lv_if_eq (tgt := 34) hx hb dY_ahead_27 (by decide) (fun c_27 => ?_) (fun c_27 => ?_)
        · have c7 : ¬ lcM t ck j = true := by rw [bI_0.mp c_27]; decide
          refine lv_iconst (v := 0) hx hb dY_ahead_34 (by decide) ?_
          refine tp_i (y := nI 0) (nI_0.symm) ?_
          refine lv_iadd hx hb dY_ahead_35 ?_
          refine tp_i (y := nI (x + if lcM t ck j = true then 1 else 0)) (by rw [if_neg c7]; exact nI_add _ _) ?_
          refine lv_istore_n (lv' := [(3, .int (nI (x + if lcM t ck j = true then 1 else 0))), (0, .ref r0), (1, .long ck), (4, .int (nI j))]) hx hb dY_ahead_36 rfl hl (by decide) rfl (fun ls hl => ?_)
          refine lv_iinc (v := (nI (j + 1))) (lv' := [(4, .int (nI (j + 1))), (3, .int (nI (x + if lcM t ck j = true then 1 else 0))), (0, .ref r0), (1, .long ck)]) hx hb dY_ahead_37 hl (k := 3) rfl (nI_1 j) (by decide) rfl (fun ls hl => ?_)
          refine lv_goto (tgt := 10) hx hb dY_ahead_40 (by decide) ?_
          exact ih (j + 1) _ (by omega) (by rw [← hk9]; rfl) _ _ hP hD hS ls (lv_sub hl [2, 3, 1, 0] rfl)
        · have c7 : lcM t ck j = true := by cases hq9 : lcM t ck j; exact absurd (by rw [hq9]; rfl) c_27; rfl
          refine lv_iconst (v := 1) hx hb dY_ahead_30 (by decide) ?_
          refine tp_i (y := nI 1) (rfl) ?_
          refine lv_goto (tgt := 35) hx hb dY_ahead_31 (by decide) ?_
          refine lv_iadd hx hb dY_ahead_35 ?_
          refine tp_i (y := nI (x + if lcM t ck j = true then 1 else 0)) (by rw [if_pos c7]; exact nI_add _ _) ?_
          refine lv_istore_n (lv' := [(3, .int (nI (x + if lcM t ck j = true then 1 else 0))), (0, .ref r0), (1, .long ck), (4, .int (nI j))]) hx hb dY_ahead_36 rfl hl (by decide) rfl (fun ls hl => ?_)
          refine lv_iinc (v := (nI (j + 1))) (lv' := [(4, .int (nI (j + 1))), (3, .int (nI (x + if lcM t ck j = true then 1 else 0))), (0, .ref r0), (1, .long ck)]) hx hb dY_ahead_37 hl (k := 3) rfl (nI_1 j) (by decide) rfl (fun ls hl => ?_)
          refine lv_goto (tgt := 10) hx hb dY_ahead_40 (by decide) ?_
          exact ih (j + 1) _ (by omega) (by rw [← hk9]; rfl) _ _ hP hD hS ls (lv_sub hl [2, 3, 1, 0] rfl)
  exact loop tn 0 0 (by omega) rfl _ _ hP hD hS ls (lv_sub hl [2, 3, 1, 0] rfl)

set_option maxRecDepth 20000 in
theorem in_Y_next_Y : ∀ w ∈ wsY0, w ∈ wsY_next := by decide +kernel

set_option maxHeartbeats 4000000 in
set_option maxRecDepth 100000 in
theorem kY_next (l : Launch) (dC : Nat → ClassId) (dI : Nat → Nat → Nat) (cb : Nat → ClassId) (r0 b0 b1 b2 b3 b4 b5 b6 b7 : Nat) (th : Int32) (cl : Nat → Nat) (t : TF) (tn : Nat) (w : WF) (wn : Nat) (ko mw : Nat) (sz : Nat) (htn : tn ≤ 2040) (ht : ∀ j, j < tn → (t j).1 < 2048) (ck : Int64) (y : Int32) : Met l yY_next wsY_next ({ frames := 2, cells := 0, slots := 0, locals := 45 }) (Pm [.ref r0, .long ck, .int y] (dC, dI) clS [(cb 0, .int), (cb 1, .int), (cb 2, .int), (cb 3, .int), (cb 4, .int), (cb 5, .int), (cb 6, .long), (cb 7, .int)] [(r0, .inr (1, [.int th, .ref b0, .int (nI tn), .ref b1, .ref b2, .ref b3, .int (nI wn), .ref b4, .ref b5, .ref b6, .ref b7, .int (nI ko), .int (nI mw)])), (b0, .inl (cb 0, 8, .inl (fun z9 => nI (cl z9)))), (b1, .inl (cb 1, 2040, .inl (fun z9 => nI ((t z9).1 / 256)))), (b2, .inl (cb 2, 2040, .inl (fun z9 => nI ((t z9).1 % 256)))), (b3, .inl (cb 3, 2040, .inl (fun z9 => (t z9).2))), (b4, .inl (cb 4, 65, .inl (fun z9 => nI ((w z9).1 / 256)))), (b5, .inl (cb 5, 65, .inl (fun z9 => nI ((w z9).1 % 256)))), (b6, .inl (cb 6, 65, .inr (.inl (fun z9 => (w z9).2.1)))), (b7, .inl (cb 7, 65, .inl (fun z9 => (w z9).2.2)))] sz) (QmI (oI (nxM t ck y tn 0)) (dC, dI) clS [(r0, .inr (1, [.int th, .ref b0, .int (nI tn), .ref b1, .ref b2, .ref b3, .int (nI wn), .ref b4, .ref b5, .ref b6, .ref b7, .int (nI ko), .int (nI mw)])), (b0, .inl (cb 0, 8, .inl (fun z9 => nI (cl z9)))), (b1, .inl (cb 1, 2040, .inl (fun z9 => nI ((t z9).1 / 256)))), (b2, .inl (cb 2, 2040, .inl (fun z9 => nI ((t z9).1 % 256)))), (b3, .inl (cb 3, 2040, .inl (fun z9 => (t z9).2))), (b4, .inl (cb 4, 65, .inl (fun z9 => nI ((w z9).1 / 256)))), (b5, .inl (cb 5, 65, .inl (fun z9 => nI ((w z9).1 % 256)))), (b6, .inl (cb 6, 65, .inr (.inl (fun z9 => (w z9).2.1)))), (b7, .inl (cb 7, 65, .inl (fun z9 => (w z9).2.2)))] [(r0, .inr (1, [.int 0, .ref b0, .int (nI tn), .ref b1, .ref b2, .ref b3, .int (nI wn), .ref b4, .ref b5, .ref b6, .ref b7, .int (nI ko), .int (nI mw)])), (b0, .inl (cb 0, 8, .inl (fun z9 => nI (cl z9)))), (b1, .inl (cb 1, 2040, .inl (fun z9 => nI ((t z9).1 / 256)))), (b2, .inl (cb 2, 2040, .inl (fun z9 => nI ((t z9).1 % 256)))), (b3, .inl (cb 3, 2040, .inl (fun z9 => (t z9).2))), (b4, .inl (cb 4, 65, .inl (fun z9 => nI ((w z9).1 / 256)))), (b5, .inl (cb 5, 65, .inl (fun z9 => nI ((w z9).1 % 256)))), (b6, .inl (cb 6, 65, .inr (.inl (fun z9 => (w z9).2.1)))), (b7, .inl (cb 7, 65, .inl (fun z9 => (w z9).2.2)))] sz) 0 0 (va_A [(r0, .inr (1, [.int th, .ref b0, .int (nI tn), .ref b1, .ref b2, .ref b3, .int (nI wn), .ref b4, .ref b5, .ref b6, .ref b7, .int (nI ko), .int (nI mw)])), (b0, .inl (cb 0, 8, .inl (fun z9 => nI (cl z9)))), (b1, .inl (cb 1, 2040, .inl (fun z9 => nI ((t z9).1 / 256)))), (b2, .inl (cb 2, 2040, .inl (fun z9 => nI ((t z9).1 % 256)))), (b3, .inl (cb 3, 2040, .inl (fun z9 => (t z9).2))), (b4, .inl (cb 4, 65, .inl (fun z9 => nI ((w z9).1 / 256)))), (b5, .inl (cb 5, 65, .inl (fun z9 => nI ((w z9).1 % 256)))), (b6, .inl (cb 6, 65, .inr (.inl (fun z9 => (w z9).2.1)))), (b7, .inl (cb 7, 65, .inl (fun z9 => (w z9).2.2)))] sz) := by
  refine Met.ofW (cc := cY_next) (maxL := 5) (ret := (some .int)) (by decide) rfl ?_
  intro p e s m args below meth c s₁ B hml hv
  obtain ⟨hargs, hsz, hP, hK, hD0⟩ := hv
  have hx := B.exec
  have hb := B.bytes
  have hr := B.returns
  have hts := atoms_spec (ws := wsY_next) B.pre
  have hown : s.vm.findClass RY = some m.cls := findClass_of_methodNamed B.named
  have hlocks := B.notSynchronized
  subst hsz
  have hD := hD0.self (sz := s.heap.size)
  obtain ⟨A, hAe⟩ : ∃ A, A = va_A [(r0, .inr (1, [.int th, .ref b0, .int (nI tn), .ref b1, .ref b2, .ref b3, .int (nI wn), .ref b4, .ref b5, .ref b6, .ref b7, .int (nI ko), .int (nI mw)])), (b0, .inl (cb 0, 8, .inl (fun z9 => nI (cl z9)))), (b1, .inl (cb 1, 2040, .inl (fun z9 => nI ((t z9).1 / 256)))), (b2, .inl (cb 2, 2040, .inl (fun z9 => nI ((t z9).1 % 256)))), (b3, .inl (cb 3, 2040, .inl (fun z9 => (t z9).2))), (b4, .inl (cb 4, 65, .inl (fun z9 => nI ((w z9).1 / 256)))), (b5, .inl (cb 5, 65, .inl (fun z9 => nI ((w z9).1 % 256)))), (b6, .inl (cb 6, 65, .inr (.inl (fun z9 => (w z9).2.1)))), (b7, .inl (cb 7, 65, .inl (fun z9 => (w z9).2.2)))] s.heap.size := ⟨_, rfl⟩
  rw [← hAe] at hD ⊢
  have hA : ∀ q : Nat, s.heap.size ≤ q → A q := fun q h => by rw [hAe]; exact Or.inr h
  have hS : va_S A s.heap s.heap [] := va_S.rf
  have hP : va_P (dC, dI) clS [(r0, .inr (1, [.int th, .ref b0, .int (nI tn), .ref b1, .ref b2, .ref b3, .int (nI wn), .ref b4, .ref b5, .ref b6, .ref b7, .int (nI ko), .int (nI mw)])), (b0, .inl (cb 0, 8, .inl (fun z9 => nI (cl z9)))), (b1, .inl (cb 1, 2040, .inl (fun z9 => nI ((t z9).1 / 256)))), (b2, .inl (cb 2, 2040, .inl (fun z9 => nI ((t z9).1 % 256)))), (b3, .inl (cb 3, 2040, .inl (fun z9 => (t z9).2))), (b4, .inl (cb 4, 65, .inl (fun z9 => nI ((w z9).1 / 256)))), (b5, .inl (cb 5, 65, .inl (fun z9 => nI ((w z9).1 % 256)))), (b6, .inl (cb 6, 65, .inr (.inl (fun z9 => (w z9).2.1)))), (b7, .inl (cb 7, 65, .inl (fun z9 => (w z9).2.2)))] s.heap := hP
  have hl := lv_entry ([.ref r0, .long ck, .int y]) (n := 5) (Nat.le_of_ble_eq_true rfl)
  have hE : entryFrame m args 5 = F0 m 0 ((lg_sl ([.ref r0, .long ck, .int y]) ++ List.replicate (5 - (lg_sl ([.ref r0, .long ck, .int y])).length) Slot.unset).toArray) [] := by rw [hargs]; exact lg_entry_eq m ([.ref r0, .long ck, .int y]) 5
  rw [hE]
  generalize (lg_sl ([.ref r0, .long ck, .int y]) ++ List.replicate (5 - (lg_sl ([.ref r0, .long ck, .int y])).length) Slot.unset).toArray = ls at hl ⊢
  have hl : lv_has ls 5 [(0, .ref r0), (1, .long ck), (3, .int y)] := hl
  refine lv_aload_n hx hb dY_next_0 rfl (lv_at hl 0 rfl) ?_
  refine lv_iconst (v := 0) hx hb dY_next_1 (by decide) ?_
  refine va_put (D := (dC, dI)) (ci := 1) (v := .int 0) (ty := .int) (C := RY) (T := TY) (N := 13) hx hb hts in_Y_next_Y tyY tyY_ok nmY hown hK hP hD hS 0 rfl rfl 0 (by decide) (hts (.fieldLink RY 35 "CausalGateModel" "thrown" "I") (by decide +kernel)) (fun _ h9 => h9) rfl (by decide +kernel) rfl rfl (Nat.le_of_ble_eq_true rfl) dY_next_2 (fun H locs hP hD hS => ?_)
  have hP : va_P (dC, dI) clS [(r0, .inr (1, [.int 0, .ref b0, .int (nI tn), .ref b1, .ref b2, .ref b3, .int (nI wn), .ref b4, .ref b5, .ref b6, .ref b7, .int (nI ko), .int (nI mw)])), (b0, .inl (cb 0, 8, .inl (fun z9 => nI (cl z9)))), (b1, .inl (cb 1, 2040, .inl (fun z9 => nI ((t z9).1 / 256)))), (b2, .inl (cb 2, 2040, .inl (fun z9 => nI ((t z9).1 % 256)))), (b3, .inl (cb 3, 2040, .inl (fun z9 => (t z9).2))), (b4, .inl (cb 4, 65, .inl (fun z9 => nI ((w z9).1 / 256)))), (b5, .inl (cb 5, 65, .inl (fun z9 => nI ((w z9).1 % 256)))), (b6, .inl (cb 6, 65, .inr (.inl (fun z9 => (w z9).2.1)))), (b7, .inl (cb 7, 65, .inl (fun z9 => (w z9).2.2)))] H := hP
  have hD : va_D A [(r0, .inr (1, [.int 0, .ref b0, .int (nI tn), .ref b1, .ref b2, .ref b3, .int (nI wn), .ref b4, .ref b5, .ref b6, .ref b7, .int (nI ko), .int (nI mw)])), (b0, .inl (cb 0, 8, .inl (fun z9 => nI (cl z9)))), (b1, .inl (cb 1, 2040, .inl (fun z9 => nI ((t z9).1 / 256)))), (b2, .inl (cb 2, 2040, .inl (fun z9 => nI ((t z9).1 % 256)))), (b3, .inl (cb 3, 2040, .inl (fun z9 => (t z9).2))), (b4, .inl (cb 4, 65, .inl (fun z9 => nI ((w z9).1 / 256)))), (b5, .inl (cb 5, 65, .inl (fun z9 => nI ((w z9).1 % 256)))), (b6, .inl (cb 6, 65, .inr (.inl (fun z9 => (w z9).2.1)))), (b7, .inl (cb 7, 65, .inl (fun z9 => (w z9).2.2)))] := hD
  refine lv_iconst (v := 0) hx hb dY_next_5 (by decide) ?_
  refine tp_i (y := nI 0) (nI_0.symm) ?_
  refine lv_istore (lv' := [(4, .int (nI 0)), (0, .ref r0), (1, .long ck), (3, .int y)]) hx hb dY_next_6 hl (by decide) rfl (fun ls hl => ?_)
  have loop : ∀ (n : Nat) (j : Nat), j + n = tn → nxM t ck y n j = nxM t ck y tn 0 → ∀ (H : Heap) (locs : List Loc), va_P (dC, dI) clS [(r0, .inr (1, [.int 0, .ref b0, .int (nI tn), .ref b1, .ref b2, .ref b3, .int (nI wn), .ref b4, .ref b5, .ref b6, .ref b7, .int (nI ko), .int (nI mw)])), (b0, .inl (cb 0, 8, .inl (fun z9 => nI (cl z9)))), (b1, .inl (cb 1, 2040, .inl (fun z9 => nI ((t z9).1 / 256)))), (b2, .inl (cb 2, 2040, .inl (fun z9 => nI ((t z9).1 % 256)))), (b3, .inl (cb 3, 2040, .inl (fun z9 => (t z9).2))), (b4, .inl (cb 4, 65, .inl (fun z9 => nI ((w z9).1 / 256)))), (b5, .inl (cb 5, 65, .inl (fun z9 => nI ((w z9).1 % 256)))), (b6, .inl (cb 6, 65, .inr (.inl (fun z9 => (w z9).2.1)))), (b7, .inl (cb 7, 65, .inl (fun z9 => (w z9).2.2)))] H → va_D A [(r0, .inr (1, [.int 0, .ref b0, .int (nI tn), .ref b1, .ref b2, .ref b3, .int (nI wn), .ref b4, .ref b5, .ref b6, .ref b7, .int (nI ko), .int (nI mw)])), (b0, .inl (cb 0, 8, .inl (fun z9 => nI (cl z9)))), (b1, .inl (cb 1, 2040, .inl (fun z9 => nI ((t z9).1 / 256)))), (b2, .inl (cb 2, 2040, .inl (fun z9 => nI ((t z9).1 % 256)))), (b3, .inl (cb 3, 2040, .inl (fun z9 => (t z9).2))), (b4, .inl (cb 4, 65, .inl (fun z9 => nI ((w z9).1 / 256)))), (b5, .inl (cb 5, 65, .inl (fun z9 => nI ((w z9).1 % 256)))), (b6, .inl (cb 6, 65, .inr (.inl (fun z9 => (w z9).2.1)))), (b7, .inl (cb 7, 65, .inl (fun z9 => (w z9).2.2)))] → va_S A s.heap H locs → ∀ ls : Array Slot, lv_has ls 5 [(0, .ref r0), (1, .long ck), (3, .int y), (4, .int (nI j))] → W p l e (headSpec wsY_next ({ frames := 2, cells := 0, slots := 0, locals := 45 })).room s m args below meth c H locs 0 0 (MQ below (QmI (oI (nxM t ck y tn 0)) (dC, dI) clS [(r0, .inr (1, [.int th, .ref b0, .int (nI tn), .ref b1, .ref b2, .ref b3, .int (nI wn), .ref b4, .ref b5, .ref b6, .ref b7, .int (nI ko), .int (nI mw)])), (b0, .inl (cb 0, 8, .inl (fun z9 => nI (cl z9)))), (b1, .inl (cb 1, 2040, .inl (fun z9 => nI ((t z9).1 / 256)))), (b2, .inl (cb 2, 2040, .inl (fun z9 => nI ((t z9).1 % 256)))), (b3, .inl (cb 3, 2040, .inl (fun z9 => (t z9).2))), (b4, .inl (cb 4, 65, .inl (fun z9 => nI ((w z9).1 / 256)))), (b5, .inl (cb 5, 65, .inl (fun z9 => nI ((w z9).1 % 256)))), (b6, .inl (cb 6, 65, .inr (.inl (fun z9 => (w z9).2.1)))), (b7, .inl (cb 7, 65, .inl (fun z9 => (w z9).2.2)))] [(r0, .inr (1, [.int 0, .ref b0, .int (nI tn), .ref b1, .ref b2, .ref b3, .int (nI wn), .ref b4, .ref b5, .ref b6, .ref b7, .int (nI ko), .int (nI mw)])), (b0, .inl (cb 0, 8, .inl (fun z9 => nI (cl z9)))), (b1, .inl (cb 1, 2040, .inl (fun z9 => nI ((t z9).1 / 256)))), (b2, .inl (cb 2, 2040, .inl (fun z9 => nI ((t z9).1 % 256)))), (b3, .inl (cb 3, 2040, .inl (fun z9 => (t z9).2))), (b4, .inl (cb 4, 65, .inl (fun z9 => nI ((w z9).1 / 256)))), (b5, .inl (cb 5, 65, .inl (fun z9 => nI ((w z9).1 % 256)))), (b6, .inl (cb 6, 65, .inr (.inl (fun z9 => (w z9).2.1)))), (b7, .inl (cb 7, 65, .inl (fun z9 => (w z9).2.2)))] s.heap.size) args s 0 0 A) (F0 m 8 ls []) := by
    intro n
    induction n with
    | zero =>
      intro j hj hk9 H locs hP hD hS ls hl
      refine lv_iload hx hb dY_next_8 (lv_at hl 3 rfl) ?_
      refine lv_aload_n hx hb dY_next_10 rfl (lv_at hl 0 rfl) ?_
      refine va_get (D := (dC, dI)) (ci := 1) (v := .int (nI tn)) (C := RY) (T := TY) (N := 13) hx hb hts in_Y_next_Y hown hK hP 0 rfl rfl 2 (by decide) (hts (.fieldLink RY 52 "CausalGateModel" "through" "I") (by decide +kernel)) (fun _ h9 => h9) rfl dY_next_11 ?_
      refine lv_icmp_ge (tgt := 42) hx hb dY_next_14 (by decide) (fun c_14 => ?_) (fun c_14 => ?_)
      · refine lv_iconst (v := -1) hx hb dY_next_42 (by decide) ?_
        exact mi_ret hx hb hr hlocks (by rw [← hk9]; rfl) hAe hP hD hS dY_next_43
      · exact absurd (nI_le (by omega) (by omega)) c_14
    | succ n ih =>
      intro j hj hk9 H locs hP hD hS ls hl
      refine lv_iload hx hb dY_next_8 (lv_at hl 3 rfl) ?_
      refine lv_aload_n hx hb dY_next_10 rfl (lv_at hl 0 rfl) ?_
      refine va_get (D := (dC, dI)) (ci := 1) (v := .int (nI tn)) (C := RY) (T := TY) (N := 13) hx hb hts in_Y_next_Y hown hK hP 0 rfl rfl 2 (by decide) (hts (.fieldLink RY 52 "CausalGateModel" "through" "I") (by decide +kernel)) (fun _ h9 => h9) rfl dY_next_11 ?_
      refine lv_icmp_ge (tgt := 42) hx hb dY_next_14 (by decide) (fun c_14 => ?_) (fun c_14 => ?_)
      · exact absurd ((nI_leI (by omega) (by omega)).mp c_14) (by omega)
      · refine lv_iload hx hb dY_next_17 (lv_at hl 3 rfl) ?_
        refine lv_iload_n hx hb dY_next_19 rfl (lv_at hl 2 rfl) ?_
        refine lv_icmp_le (tgt := 36) hx hb dY_next_20 (by decide) (fun c_20 => ?_) (fun c_20 => ?_)
        · have c7 : ¬ (y < nI j ∧ lcM t ck j = true) := fun q => absurd c_20 (Int32.not_le.mpr q.1)
          refine lv_iinc (v := (nI (j + 1))) (lv' := [(4, .int (nI (j + 1))), (0, .ref r0), (1, .long ck), (3, .int y)]) hx hb dY_next_36 hl (k := 3) rfl (nI_1 j) (by decide) rfl (fun ls hl => ?_)
          refine lv_goto (tgt := 8) hx hb dY_next_39 (by decide) ?_
          exact ih (j + 1) (by omega) (by rw [← hk9]; simp only [nxM]; rw [if_neg c7]) _ _ hP hD hS ls (lv_sub hl [1, 2, 3, 0] rfl)
        · have c8 : y < nI j := Int32.not_le.mp c_20
          refine lv_aload_n hx hb dY_next_23 rfl (lv_at hl 0 rfl) ?_
          refine lv_lload_n hx hb dY_next_24 rfl (lv_at hl 1 rfl) ?_
          refine lv_iload hx hb dY_next_25 (lv_at hl 3 rfl) ?_
          refine rd_i (W.runV (As := [.long ck, .int (nI j)]) (rest := []) ⟨hx, hb, hml, hown, hts⟩ (kY_lacks l dC dI cb r0 b0 b1 b2 b3 b4 b5 b6 b7 0 cl t tn w wn ko mw htn ht ck j (by omega)) (cwV 2 hts gY_next_Y_lacks rfl rfl rfl (by decide +kernel) ⟨Nat.le_of_ble_eq_true rfl, Nat.le_of_ble_eq_true rfl⟩) (pr_V (ci := 1) (q0 := 0) hK hP rfl rfl) rfl rfl hl.1 rfl (lv_room (Nat.le_of_ble_eq_true rfl)) dY_next_27 ⟨Nat.zero_le _, Nat.zero_le _⟩) ?_
          refine lv_if_eq (tgt := 36) hx hb dY_next_30 (by decide) (fun c_30 => ?_) (fun c_30 => ?_)
          · have c7 : ¬ (y < nI j ∧ lcM t ck j = true) := fun q => absurd q.2 (by rw [bI_0.mp c_30]; decide)
            refine lv_iinc (v := (nI (j + 1))) (lv' := [(4, .int (nI (j + 1))), (0, .ref r0), (1, .long ck), (3, .int y)]) hx hb dY_next_36 hl (k := 3) rfl (nI_1 j) (by decide) rfl (fun ls hl => ?_)
            refine lv_goto (tgt := 8) hx hb dY_next_39 (by decide) ?_
            exact ih (j + 1) (by omega) (by rw [← hk9]; simp only [nxM]; rw [if_neg c7]) _ _ hP hD hS ls (lv_sub hl [1, 2, 3, 0] rfl)
          · have c7 : y < nI j ∧ lcM t ck j = true := ⟨c8, by cases hq9 : lcM t ck j; exact absurd (by rw [hq9]; rfl) c_30; rfl⟩
            refine lv_iload hx hb dY_next_33 (lv_at hl 3 rfl) ?_
            exact mi_ret hx hb hr hlocks (by rw [← hk9]; simp only [nxM]; rw [if_pos c7]; rfl) hAe hP hD hS dY_next_35
  exact loop tn 0 (by omega) rfl _ _ hP hD hS ls (lv_sub hl [1, 2, 3, 0] rfl)

set_option maxRecDepth 20000 in
theorem in_Y_compare_Y : ∀ w ∈ wsY0, w ∈ wsY_compare := by decide +kernel

set_option maxHeartbeats 4000000 in
set_option maxRecDepth 100000 in
theorem kY_compare (l : Launch) (dC : Nat → ClassId) (dI : Nat → Nat → Nat) (cb : Nat → ClassId) (r0 b0 b1 b2 b3 b4 b5 b6 b7 : Nat) (th : Int32) (cl : Nat → Nat) (t : TF) (tn : Nat) (w : WF) (wn : Nat) (ko mw : Nat) (sz : Nat) (hcl : ∀ a, a < 8 → cl a < 256) (ck : Int64) : Met l yY_compare wsY_compare ({ frames := 1, cells := 0, slots := 0, locals := 22 }) (Pm [.ref r0, .long ck] (dC, dI) clS [(cb 0, .int), (cb 1, .int), (cb 2, .int), (cb 3, .int), (cb 4, .int), (cb 5, .int), (cb 6, .long), (cb 7, .int)] [(r0, .inr (1, [.int th, .ref b0, .int (nI tn), .ref b1, .ref b2, .ref b3, .int (nI wn), .ref b4, .ref b5, .ref b6, .ref b7, .int (nI ko), .int (nI mw)])), (b0, .inl (cb 0, 8, .inl (fun z9 => nI (cl z9)))), (b1, .inl (cb 1, 2040, .inl (fun z9 => nI ((t z9).1 / 256)))), (b2, .inl (cb 2, 2040, .inl (fun z9 => nI ((t z9).1 % 256)))), (b3, .inl (cb 3, 2040, .inl (fun z9 => (t z9).2))), (b4, .inl (cb 4, 65, .inl (fun z9 => nI ((w z9).1 / 256)))), (b5, .inl (cb 5, 65, .inl (fun z9 => nI ((w z9).1 % 256)))), (b6, .inl (cb 6, 65, .inr (.inl (fun z9 => (w z9).2.1)))), (b7, .inl (cb 7, 65, .inl (fun z9 => (w z9).2.2)))] sz) (QmI (cmQ (cmM cl ck 8 0 false false)) (dC, dI) clS [(r0, .inr (1, [.int th, .ref b0, .int (nI tn), .ref b1, .ref b2, .ref b3, .int (nI wn), .ref b4, .ref b5, .ref b6, .ref b7, .int (nI ko), .int (nI mw)])), (b0, .inl (cb 0, 8, .inl (fun z9 => nI (cl z9)))), (b1, .inl (cb 1, 2040, .inl (fun z9 => nI ((t z9).1 / 256)))), (b2, .inl (cb 2, 2040, .inl (fun z9 => nI ((t z9).1 % 256)))), (b3, .inl (cb 3, 2040, .inl (fun z9 => (t z9).2))), (b4, .inl (cb 4, 65, .inl (fun z9 => nI ((w z9).1 / 256)))), (b5, .inl (cb 5, 65, .inl (fun z9 => nI ((w z9).1 % 256)))), (b6, .inl (cb 6, 65, .inr (.inl (fun z9 => (w z9).2.1)))), (b7, .inl (cb 7, 65, .inl (fun z9 => (w z9).2.2)))] [(r0, .inr (1, [.int 0, .ref b0, .int (nI tn), .ref b1, .ref b2, .ref b3, .int (nI wn), .ref b4, .ref b5, .ref b6, .ref b7, .int (nI ko), .int (nI mw)])), (b0, .inl (cb 0, 8, .inl (fun z9 => nI (cl z9)))), (b1, .inl (cb 1, 2040, .inl (fun z9 => nI ((t z9).1 / 256)))), (b2, .inl (cb 2, 2040, .inl (fun z9 => nI ((t z9).1 % 256)))), (b3, .inl (cb 3, 2040, .inl (fun z9 => (t z9).2))), (b4, .inl (cb 4, 65, .inl (fun z9 => nI ((w z9).1 / 256)))), (b5, .inl (cb 5, 65, .inl (fun z9 => nI ((w z9).1 % 256)))), (b6, .inl (cb 6, 65, .inr (.inl (fun z9 => (w z9).2.1)))), (b7, .inl (cb 7, 65, .inl (fun z9 => (w z9).2.2)))] sz) 0 0 (va_A [(r0, .inr (1, [.int th, .ref b0, .int (nI tn), .ref b1, .ref b2, .ref b3, .int (nI wn), .ref b4, .ref b5, .ref b6, .ref b7, .int (nI ko), .int (nI mw)])), (b0, .inl (cb 0, 8, .inl (fun z9 => nI (cl z9)))), (b1, .inl (cb 1, 2040, .inl (fun z9 => nI ((t z9).1 / 256)))), (b2, .inl (cb 2, 2040, .inl (fun z9 => nI ((t z9).1 % 256)))), (b3, .inl (cb 3, 2040, .inl (fun z9 => (t z9).2))), (b4, .inl (cb 4, 65, .inl (fun z9 => nI ((w z9).1 / 256)))), (b5, .inl (cb 5, 65, .inl (fun z9 => nI ((w z9).1 % 256)))), (b6, .inl (cb 6, 65, .inr (.inl (fun z9 => (w z9).2.1)))), (b7, .inl (cb 7, 65, .inl (fun z9 => (w z9).2.2)))] sz) := by
  refine Met.ofW (cc := cY_compare) (maxL := 6) (ret := (some .int)) (by decide) rfl ?_
  intro p e s m args below meth c s₁ B hml hv
  obtain ⟨hargs, hsz, hP, hK, hD0⟩ := hv
  have hx := B.exec
  have hb := B.bytes
  have hr := B.returns
  have hts := atoms_spec (ws := wsY_compare) B.pre
  have hown : s.vm.findClass RY = some m.cls := findClass_of_methodNamed B.named
  have hlocks := B.notSynchronized
  subst hsz
  have hD := hD0.self (sz := s.heap.size)
  obtain ⟨A, hAe⟩ : ∃ A, A = va_A [(r0, .inr (1, [.int th, .ref b0, .int (nI tn), .ref b1, .ref b2, .ref b3, .int (nI wn), .ref b4, .ref b5, .ref b6, .ref b7, .int (nI ko), .int (nI mw)])), (b0, .inl (cb 0, 8, .inl (fun z9 => nI (cl z9)))), (b1, .inl (cb 1, 2040, .inl (fun z9 => nI ((t z9).1 / 256)))), (b2, .inl (cb 2, 2040, .inl (fun z9 => nI ((t z9).1 % 256)))), (b3, .inl (cb 3, 2040, .inl (fun z9 => (t z9).2))), (b4, .inl (cb 4, 65, .inl (fun z9 => nI ((w z9).1 / 256)))), (b5, .inl (cb 5, 65, .inl (fun z9 => nI ((w z9).1 % 256)))), (b6, .inl (cb 6, 65, .inr (.inl (fun z9 => (w z9).2.1)))), (b7, .inl (cb 7, 65, .inl (fun z9 => (w z9).2.2)))] s.heap.size := ⟨_, rfl⟩
  rw [← hAe] at hD ⊢
  have hA : ∀ q : Nat, s.heap.size ≤ q → A q := fun q h => by rw [hAe]; exact Or.inr h
  have hS : va_S A s.heap s.heap [] := va_S.rf
  have hP : va_P (dC, dI) clS [(r0, .inr (1, [.int th, .ref b0, .int (nI tn), .ref b1, .ref b2, .ref b3, .int (nI wn), .ref b4, .ref b5, .ref b6, .ref b7, .int (nI ko), .int (nI mw)])), (b0, .inl (cb 0, 8, .inl (fun z9 => nI (cl z9)))), (b1, .inl (cb 1, 2040, .inl (fun z9 => nI ((t z9).1 / 256)))), (b2, .inl (cb 2, 2040, .inl (fun z9 => nI ((t z9).1 % 256)))), (b3, .inl (cb 3, 2040, .inl (fun z9 => (t z9).2))), (b4, .inl (cb 4, 65, .inl (fun z9 => nI ((w z9).1 / 256)))), (b5, .inl (cb 5, 65, .inl (fun z9 => nI ((w z9).1 % 256)))), (b6, .inl (cb 6, 65, .inr (.inl (fun z9 => (w z9).2.1)))), (b7, .inl (cb 7, 65, .inl (fun z9 => (w z9).2.2)))] s.heap := hP
  have hl := lv_entry ([.ref r0, .long ck]) (n := 6) (Nat.le_of_ble_eq_true rfl)
  have hE : entryFrame m args 6 = F0 m 0 ((lg_sl ([.ref r0, .long ck]) ++ List.replicate (6 - (lg_sl ([.ref r0, .long ck])).length) Slot.unset).toArray) [] := by rw [hargs]; exact lg_entry_eq m ([.ref r0, .long ck]) 6
  rw [hE]
  generalize (lg_sl ([.ref r0, .long ck]) ++ List.replicate (6 - (lg_sl ([.ref r0, .long ck])).length) Slot.unset).toArray = ls at hl ⊢
  have hl : lv_has ls 6 [(0, .ref r0), (1, .long ck)] := hl
  refine lv_aload_n hx hb dY_compare_0 rfl (lv_at hl 0 rfl) ?_
  refine lv_iconst (v := 0) hx hb dY_compare_1 (by decide) ?_
  refine va_put (D := (dC, dI)) (ci := 1) (v := .int 0) (ty := .int) (C := RY) (T := TY) (N := 13) hx hb hts in_Y_compare_Y tyY tyY_ok nmY hown hK hP hD hS 0 rfl rfl 0 (by decide) (hts (.fieldLink RY 35 "CausalGateModel" "thrown" "I") (by decide +kernel)) (fun _ h9 => h9) rfl (by decide +kernel) rfl rfl (Nat.le_of_ble_eq_true rfl) dY_compare_2 (fun H locs hP hD hS => ?_)
  have hP : va_P (dC, dI) clS [(r0, .inr (1, [.int 0, .ref b0, .int (nI tn), .ref b1, .ref b2, .ref b3, .int (nI wn), .ref b4, .ref b5, .ref b6, .ref b7, .int (nI ko), .int (nI mw)])), (b0, .inl (cb 0, 8, .inl (fun z9 => nI (cl z9)))), (b1, .inl (cb 1, 2040, .inl (fun z9 => nI ((t z9).1 / 256)))), (b2, .inl (cb 2, 2040, .inl (fun z9 => nI ((t z9).1 % 256)))), (b3, .inl (cb 3, 2040, .inl (fun z9 => (t z9).2))), (b4, .inl (cb 4, 65, .inl (fun z9 => nI ((w z9).1 / 256)))), (b5, .inl (cb 5, 65, .inl (fun z9 => nI ((w z9).1 % 256)))), (b6, .inl (cb 6, 65, .inr (.inl (fun z9 => (w z9).2.1)))), (b7, .inl (cb 7, 65, .inl (fun z9 => (w z9).2.2)))] H := hP
  have hD : va_D A [(r0, .inr (1, [.int 0, .ref b0, .int (nI tn), .ref b1, .ref b2, .ref b3, .int (nI wn), .ref b4, .ref b5, .ref b6, .ref b7, .int (nI ko), .int (nI mw)])), (b0, .inl (cb 0, 8, .inl (fun z9 => nI (cl z9)))), (b1, .inl (cb 1, 2040, .inl (fun z9 => nI ((t z9).1 / 256)))), (b2, .inl (cb 2, 2040, .inl (fun z9 => nI ((t z9).1 % 256)))), (b3, .inl (cb 3, 2040, .inl (fun z9 => (t z9).2))), (b4, .inl (cb 4, 65, .inl (fun z9 => nI ((w z9).1 / 256)))), (b5, .inl (cb 5, 65, .inl (fun z9 => nI ((w z9).1 % 256)))), (b6, .inl (cb 6, 65, .inr (.inl (fun z9 => (w z9).2.1)))), (b7, .inl (cb 7, 65, .inl (fun z9 => (w z9).2.2)))] := hD
  refine lv_iconst (v := 0) hx hb dY_compare_5 (by decide) ?_
  refine tp_i (y := bI false) (rfl) ?_
  refine lv_istore_n (lv' := [(3, .int (bI false)), (0, .ref r0), (1, .long ck)]) hx hb dY_compare_6 rfl hl (by decide) rfl (fun ls hl => ?_)
  refine lv_iconst (v := 0) hx hb dY_compare_7 (by decide) ?_
  refine tp_i (y := bI false) (rfl) ?_
  refine lv_istore (lv' := [(4, .int (bI false)), (3, .int (bI false)), (0, .ref r0), (1, .long ck)]) hx hb dY_compare_8 hl (by decide) rfl (fun ls hl => ?_)
  refine lv_iconst (v := 0) hx hb dY_compare_10 (by decide) ?_
  refine tp_i (y := nI 0) (nI_0.symm) ?_
  refine lv_istore (lv' := [(5, .int (nI 0)), (4, .int (bI false)), (3, .int (bI false)), (0, .ref r0), (1, .long ck)]) hx hb dY_compare_11 hl (by decide) rfl (fun ls hl => ?_)
  have loop : ∀ (n : Nat) (a : Nat) (x9 y9 : Bool), a + n = 8 → cmM cl ck n a x9 y9 = cmM cl ck 8 0 false false → ∀ (H : Heap) (locs : List Loc), va_P (dC, dI) clS [(r0, .inr (1, [.int 0, .ref b0, .int (nI tn), .ref b1, .ref b2, .ref b3, .int (nI wn), .ref b4, .ref b5, .ref b6, .ref b7, .int (nI ko), .int (nI mw)])), (b0, .inl (cb 0, 8, .inl (fun z9 => nI (cl z9)))), (b1, .inl (cb 1, 2040, .inl (fun z9 => nI ((t z9).1 / 256)))), (b2, .inl (cb 2, 2040, .inl (fun z9 => nI ((t z9).1 % 256)))), (b3, .inl (cb 3, 2040, .inl (fun z9 => (t z9).2))), (b4, .inl (cb 4, 65, .inl (fun z9 => nI ((w z9).1 / 256)))), (b5, .inl (cb 5, 65, .inl (fun z9 => nI ((w z9).1 % 256)))), (b6, .inl (cb 6, 65, .inr (.inl (fun z9 => (w z9).2.1)))), (b7, .inl (cb 7, 65, .inl (fun z9 => (w z9).2.2)))] H → va_D A [(r0, .inr (1, [.int 0, .ref b0, .int (nI tn), .ref b1, .ref b2, .ref b3, .int (nI wn), .ref b4, .ref b5, .ref b6, .ref b7, .int (nI ko), .int (nI mw)])), (b0, .inl (cb 0, 8, .inl (fun z9 => nI (cl z9)))), (b1, .inl (cb 1, 2040, .inl (fun z9 => nI ((t z9).1 / 256)))), (b2, .inl (cb 2, 2040, .inl (fun z9 => nI ((t z9).1 % 256)))), (b3, .inl (cb 3, 2040, .inl (fun z9 => (t z9).2))), (b4, .inl (cb 4, 65, .inl (fun z9 => nI ((w z9).1 / 256)))), (b5, .inl (cb 5, 65, .inl (fun z9 => nI ((w z9).1 % 256)))), (b6, .inl (cb 6, 65, .inr (.inl (fun z9 => (w z9).2.1)))), (b7, .inl (cb 7, 65, .inl (fun z9 => (w z9).2.2)))] → va_S A s.heap H locs → ∀ ls : Array Slot, lv_has ls 6 [(0, .ref r0), (1, .long ck), (3, .int (bI x9)), (4, .int (bI y9)), (5, .int (nI a))] → W p l e (headSpec wsY_compare ({ frames := 1, cells := 0, slots := 0, locals := 22 })).room s m args below meth c H locs 0 0 (MQ below (QmI (cmQ (cmM cl ck 8 0 false false)) (dC, dI) clS [(r0, .inr (1, [.int th, .ref b0, .int (nI tn), .ref b1, .ref b2, .ref b3, .int (nI wn), .ref b4, .ref b5, .ref b6, .ref b7, .int (nI ko), .int (nI mw)])), (b0, .inl (cb 0, 8, .inl (fun z9 => nI (cl z9)))), (b1, .inl (cb 1, 2040, .inl (fun z9 => nI ((t z9).1 / 256)))), (b2, .inl (cb 2, 2040, .inl (fun z9 => nI ((t z9).1 % 256)))), (b3, .inl (cb 3, 2040, .inl (fun z9 => (t z9).2))), (b4, .inl (cb 4, 65, .inl (fun z9 => nI ((w z9).1 / 256)))), (b5, .inl (cb 5, 65, .inl (fun z9 => nI ((w z9).1 % 256)))), (b6, .inl (cb 6, 65, .inr (.inl (fun z9 => (w z9).2.1)))), (b7, .inl (cb 7, 65, .inl (fun z9 => (w z9).2.2)))] [(r0, .inr (1, [.int 0, .ref b0, .int (nI tn), .ref b1, .ref b2, .ref b3, .int (nI wn), .ref b4, .ref b5, .ref b6, .ref b7, .int (nI ko), .int (nI mw)])), (b0, .inl (cb 0, 8, .inl (fun z9 => nI (cl z9)))), (b1, .inl (cb 1, 2040, .inl (fun z9 => nI ((t z9).1 / 256)))), (b2, .inl (cb 2, 2040, .inl (fun z9 => nI ((t z9).1 % 256)))), (b3, .inl (cb 3, 2040, .inl (fun z9 => (t z9).2))), (b4, .inl (cb 4, 65, .inl (fun z9 => nI ((w z9).1 / 256)))), (b5, .inl (cb 5, 65, .inl (fun z9 => nI ((w z9).1 % 256)))), (b6, .inl (cb 6, 65, .inr (.inl (fun z9 => (w z9).2.1)))), (b7, .inl (cb 7, 65, .inl (fun z9 => (w z9).2.2)))] s.heap.size) args s 0 0 A) (F0 m 13 ls []) := by
    intro n
    induction n with
    | zero =>
      intro a x9 y9 ha hk9 H locs hP hD hS ls hl
      refine lv_iload hx hb dY_compare_13 (lv_at hl 4 rfl) ?_
      refine lv_bipush (v := 8) hx hb dY_compare_15 (by decide) ?_
      refine tp_i (y := nI 8) (rfl) ?_
      refine lv_icmp_ge (tgt := 80) hx hb dY_compare_17 (by decide) (fun c_17 => ?_) (fun c_17 => ?_)
      · refine lv_iload_n hx hb dY_compare_80 rfl (lv_at hl 2 rfl) ?_
        refine lv_if_eq (tgt := 97) hx hb dY_compare_81 (by decide) (fun c_81 => ?_) (fun c_81 => ?_)
        · have hx9 : x9 = false := bI_0.mp c_81
          refine lv_iload hx hb dY_compare_97 (lv_at hl 3 rfl) ?_
          refine lv_if_eq (tgt := 106) hx hb dY_compare_99 (by decide) (fun c_99 => ?_) (fun c_99 => ?_)
          · have hy9 : y9 = false := bI_0.mp c_99
            refine lv_iconst (v := 0) hx hb dY_compare_106 (by decide) ?_
            exact mi_ret hx hb hr hlocks (by rw [← hk9, hx9, hy9]; rfl) hAe hP hD hS dY_compare_107
          · have hy9 : y9 = true := by cases y9; exact absurd rfl c_99; rfl
            refine lv_iconst (v := 1) hx hb dY_compare_102 (by decide) ?_
            refine lv_goto (tgt := 107) hx hb dY_compare_103 (by decide) ?_
            exact mi_ret hx hb hr hlocks (by rw [← hk9, hx9, hy9]; rfl) hAe hP hD hS dY_compare_107
        · have hx9 : x9 = true := by cases x9; exact absurd rfl c_81; rfl
          refine lv_iload hx hb dY_compare_84 (lv_at hl 3 rfl) ?_
          refine lv_if_eq (tgt := 93) hx hb dY_compare_86 (by decide) (fun c_86 => ?_) (fun c_86 => ?_)
          · have hy9 : y9 = false := bI_0.mp c_86
            refine lv_iconst (v := 2) hx hb dY_compare_93 (by decide) ?_
            refine lv_goto (tgt := 107) hx hb dY_compare_94 (by decide) ?_
            exact mi_ret hx hb hr hlocks (by rw [← hk9, hx9, hy9]; rfl) hAe hP hD hS dY_compare_107
          · have hy9 : y9 = true := by cases y9; exact absurd rfl c_86; rfl
            refine lv_iconst (v := 3) hx hb dY_compare_89 (by decide) ?_
            refine lv_goto (tgt := 107) hx hb dY_compare_90 (by decide) ?_
            exact mi_ret hx hb hr hlocks (by rw [← hk9, hx9, hy9]; rfl) hAe hP hD hS dY_compare_107
      · exact absurd (nI_le (by omega) (by omega)) c_17
    | succ n ih =>
      intro a x9 y9 ha hk9 H locs hP hD hS ls hl
      refine lv_iload hx hb dY_compare_13 (lv_at hl 4 rfl) ?_
      refine lv_bipush (v := 8) hx hb dY_compare_15 (by decide) ?_
      refine tp_i (y := nI 8) (rfl) ?_
      refine lv_icmp_ge (tgt := 80) hx hb dY_compare_17 (by decide) (fun c_17 => ?_) (fun c_17 => ?_)
      · exact absurd ((nI_leI (by omega) (by omega)).mp c_17) (by omega)
      · refine lv_iload_n hx hb dY_compare_20 rfl (lv_at hl 2 rfl) ?_
        refine lv_if_ne (tgt := 40) hx hb dY_compare_21 (by decide) (fun c_21 => ?_) (fun c_21 => ?_)
        · have hx9 : x9 = true := by cases x9; exact absurd rfl c_21; rfl
          have e8 : (x9 || decide (cl a < by_ ck a)) = true := by simp [hx9]
          refine lv_iconst (v := 1) hx hb dY_compare_40 (by decide) ?_
          refine tp_i (y := bI (x9 || decide (cl a < by_ ck a))) (by rw [e8]; rfl) ?_
          refine lv_goto (tgt := 45) hx hb dY_compare_41 (by decide) ?_
          refine lv_istore_n (lv' := [(3, .int (bI (x9 || decide (cl a < by_ ck a)))), (0, .ref r0), (1, .long ck), (4, .int (bI y9)), (5, .int (nI a))]) hx hb dY_compare_45 rfl hl (by decide) rfl (fun ls hl => ?_)
          refine lv_iload hx hb dY_compare_46 (lv_at hl 3 rfl) ?_
          refine lv_if_ne (tgt := 67) hx hb dY_compare_48 (by decide) (fun c_48 => ?_) (fun c_48 => ?_)
          · have hy9 : y9 = true := by cases y9; exact absurd rfl c_48; rfl
            have e7 : (y9 || decide (by_ ck a < cl a)) = true := by simp [hy9]
            refine lv_iconst (v := 1) hx hb dY_compare_67 (by decide) ?_
            refine tp_i (y := bI (y9 || decide (by_ ck a < cl a))) (by rw [e7]; rfl) ?_
            refine lv_goto (tgt := 72) hx hb dY_compare_68 (by decide) ?_
            refine lv_istore (lv' := [(4, .int (bI (y9 || decide (by_ ck a < cl a)))), (3, .int (bI (x9 || decide (cl a < by_ ck a)))), (0, .ref r0), (1, .long ck), (5, .int (nI a))]) hx hb dY_compare_72 hl (by decide) rfl (fun ls hl => ?_)
            refine lv_iinc (v := (nI (a + 1))) (lv' := [(5, .int (nI (a + 1))), (4, .int (bI (y9 || decide (by_ ck a < cl a)))), (3, .int (bI (x9 || decide (cl a < by_ ck a)))), (0, .ref r0), (1, .long ck)]) hx hb dY_compare_74 hl (k := 4) rfl (nI_1 a) (by decide) rfl (fun ls hl => ?_)
            refine lv_goto (tgt := 13) hx hb dY_compare_77 (by decide) ?_
            exact ih (a + 1) (x9 || decide (cl a < by_ ck a)) (y9 || decide (by_ ck a < cl a)) (by omega) (by rw [← hk9]; rfl) _ _ hP hD hS ls (lv_sub hl [3, 4, 2, 1, 0] rfl)
          · have hy9 : y9 = false := bI_0.mp c_48
            refine lv_aload_n hx hb dY_compare_51 rfl (lv_at hl 1 rfl) ?_
            refine va_get (D := (dC, dI)) (ci := 1) (v := .ref b0) (C := RY) (T := TY) (N := 13) hx hb hts in_Y_compare_Y hown hK hP 0 rfl rfl 1 (by decide) (hts (.fieldLink RY 7 "CausalGateModel" "clock" "[I") (by decide +kernel)) (fun _ h9 => h9) rfl dY_compare_52 ?_
            refine lv_iload hx hb dY_compare_55 (lv_at hl 4 rfl) ?_
            refine va_iald hx hb hK hP 1 0 rfl rfl (vp_in_nI (by omega) (by decide)) dY_compare_57 ?_
            refine tp_i (y := nI (cl a)) (by rw [nI_clamp (by omega)]) ?_
            refine lv_lload_n hx hb dY_compare_58 rfl (lv_at hl 2 rfl) ?_
            refine lv_iload hx hb dY_compare_59 (lv_at hl 4 rfl) ?_
            refine rd_i (W.runS (As := [.long ck, .int (nI a)]) (rest := [.int (nI (cl a))]) ⟨hx, hb, hml, hown, hts⟩ (kY_part l ck a (by omega)) (va_cwS 2 hts gY_compare_Y_part rfl rfl rfl (by decide +kernel) ⟨Nat.le_of_ble_eq_true rfl, Nat.le_of_ble_eq_true rfl⟩) preEq rfl rfl hl.1 rfl (lv_room (Nat.le_of_ble_eq_true rfl)) dY_compare_61 ⟨Nat.zero_le _, Nat.zero_le _⟩) ?_
            refine lv_icmp_le (tgt := 71) hx hb dY_compare_64 (by decide) (fun c_64 => ?_) (fun c_64 => ?_)
            · have e7 : (y9 || decide (by_ ck a < cl a)) = false := by simp [hy9]; exact (nI_leI (by have := hcl a (by omega); have := by_lt ck a; omega) (by have := hcl a (by omega); have := by_lt ck a; omega)).mp c_64
              refine lv_iconst (v := 0) hx hb dY_compare_71 (by decide) ?_
              refine tp_i (y := bI (y9 || decide (by_ ck a < cl a))) (by rw [e7]; rfl) ?_
              refine lv_istore (lv' := [(4, .int (bI (y9 || decide (by_ ck a < cl a)))), (3, .int (bI (x9 || decide (cl a < by_ ck a)))), (0, .ref r0), (1, .long ck), (5, .int (nI a))]) hx hb dY_compare_72 hl (by decide) rfl (fun ls hl => ?_)
              refine lv_iinc (v := (nI (a + 1))) (lv' := [(5, .int (nI (a + 1))), (4, .int (bI (y9 || decide (by_ ck a < cl a)))), (3, .int (bI (x9 || decide (cl a < by_ ck a)))), (0, .ref r0), (1, .long ck)]) hx hb dY_compare_74 hl (k := 4) rfl (nI_1 a) (by decide) rfl (fun ls hl => ?_)
              refine lv_goto (tgt := 13) hx hb dY_compare_77 (by decide) ?_
              exact ih (a + 1) (x9 || decide (cl a < by_ ck a)) (y9 || decide (by_ ck a < cl a)) (by omega) (by rw [← hk9]; rfl) _ _ hP hD hS ls (lv_sub hl [3, 4, 2, 1, 0] rfl)
            · have e7 : (y9 || decide (by_ ck a < cl a)) = true := by simp [hy9]; exact Nat.lt_of_not_le fun q => c_64 (nI_le q (by have := hcl a (by omega); have := by_lt ck a; omega))
              refine lv_iconst (v := 1) hx hb dY_compare_67 (by decide) ?_
              refine tp_i (y := bI (y9 || decide (by_ ck a < cl a))) (by rw [e7]; rfl) ?_
              refine lv_goto (tgt := 72) hx hb dY_compare_68 (by decide) ?_
              refine lv_istore (lv' := [(4, .int (bI (y9 || decide (by_ ck a < cl a)))), (3, .int (bI (x9 || decide (cl a < by_ ck a)))), (0, .ref r0), (1, .long ck), (5, .int (nI a))]) hx hb dY_compare_72 hl (by decide) rfl (fun ls hl => ?_)
              refine lv_iinc (v := (nI (a + 1))) (lv' := [(5, .int (nI (a + 1))), (4, .int (bI (y9 || decide (by_ ck a < cl a)))), (3, .int (bI (x9 || decide (cl a < by_ ck a)))), (0, .ref r0), (1, .long ck)]) hx hb dY_compare_74 hl (k := 4) rfl (nI_1 a) (by decide) rfl (fun ls hl => ?_)
              refine lv_goto (tgt := 13) hx hb dY_compare_77 (by decide) ?_
              exact ih (a + 1) (x9 || decide (cl a < by_ ck a)) (y9 || decide (by_ ck a < cl a)) (by omega) (by rw [← hk9]; rfl) _ _ hP hD hS ls (lv_sub hl [3, 4, 2, 1, 0] rfl)
        · have hx9 : x9 = false := bI_0.mp c_21
          refine lv_aload_n hx hb dY_compare_24 rfl (lv_at hl 0 rfl) ?_
          refine va_get (D := (dC, dI)) (ci := 1) (v := .ref b0) (C := RY) (T := TY) (N := 13) hx hb hts in_Y_compare_Y hown hK hP 0 rfl rfl 1 (by decide) (hts (.fieldLink RY 7 "CausalGateModel" "clock" "[I") (by decide +kernel)) (fun _ h9 => h9) rfl dY_compare_25 ?_
          refine lv_iload hx hb dY_compare_28 (lv_at hl 4 rfl) ?_
          refine va_iald hx hb hK hP 1 0 rfl rfl (vp_in_nI (by omega) (by decide)) dY_compare_30 ?_
          refine tp_i (y := nI (cl a)) (by rw [nI_clamp (by omega)]) ?_
          refine lv_lload_n hx hb dY_compare_31 rfl (lv_at hl 1 rfl) ?_
          refine lv_iload hx hb dY_compare_32 (lv_at hl 4 rfl) ?_
          refine rd_i (W.runS (As := [.long ck, .int (nI a)]) (rest := [.int (nI (cl a))]) ⟨hx, hb, hml, hown, hts⟩ (kY_part l ck a (by omega)) (va_cwS 2 hts gY_compare_Y_part rfl rfl rfl (by decide +kernel) ⟨Nat.le_of_ble_eq_true rfl, Nat.le_of_ble_eq_true rfl⟩) preEq rfl rfl hl.1 rfl (lv_room (Nat.le_of_ble_eq_true rfl)) dY_compare_34 ⟨Nat.zero_le _, Nat.zero_le _⟩) ?_
          refine lv_icmp_ge (tgt := 44) hx hb dY_compare_37 (by decide) (fun c_37 => ?_) (fun c_37 => ?_)
          · have e8 : (x9 || decide (cl a < by_ ck a)) = false := by simp [hx9]; exact (nI_leI (by have := hcl a (by omega); have := by_lt ck a; omega) (by have := hcl a (by omega); have := by_lt ck a; omega)).mp c_37
            refine lv_iconst (v := 0) hx hb dY_compare_44 (by decide) ?_
            refine tp_i (y := bI (x9 || decide (cl a < by_ ck a))) (by rw [e8]; rfl) ?_
            refine lv_istore_n (lv' := [(3, .int (bI (x9 || decide (cl a < by_ ck a)))), (0, .ref r0), (1, .long ck), (4, .int (bI y9)), (5, .int (nI a))]) hx hb dY_compare_45 rfl hl (by decide) rfl (fun ls hl => ?_)
            refine lv_iload hx hb dY_compare_46 (lv_at hl 3 rfl) ?_
            refine lv_if_ne (tgt := 67) hx hb dY_compare_48 (by decide) (fun c_48 => ?_) (fun c_48 => ?_)
            · have hy9 : y9 = true := by cases y9; exact absurd rfl c_48; rfl
              have e7 : (y9 || decide (by_ ck a < cl a)) = true := by simp [hy9]
              refine lv_iconst (v := 1) hx hb dY_compare_67 (by decide) ?_
              refine tp_i (y := bI (y9 || decide (by_ ck a < cl a))) (by rw [e7]; rfl) ?_
              refine lv_goto (tgt := 72) hx hb dY_compare_68 (by decide) ?_
              refine lv_istore (lv' := [(4, .int (bI (y9 || decide (by_ ck a < cl a)))), (3, .int (bI (x9 || decide (cl a < by_ ck a)))), (0, .ref r0), (1, .long ck), (5, .int (nI a))]) hx hb dY_compare_72 hl (by decide) rfl (fun ls hl => ?_)
              refine lv_iinc (v := (nI (a + 1))) (lv' := [(5, .int (nI (a + 1))), (4, .int (bI (y9 || decide (by_ ck a < cl a)))), (3, .int (bI (x9 || decide (cl a < by_ ck a)))), (0, .ref r0), (1, .long ck)]) hx hb dY_compare_74 hl (k := 4) rfl (nI_1 a) (by decide) rfl (fun ls hl => ?_)
              refine lv_goto (tgt := 13) hx hb dY_compare_77 (by decide) ?_
              exact ih (a + 1) (x9 || decide (cl a < by_ ck a)) (y9 || decide (by_ ck a < cl a)) (by omega) (by rw [← hk9]; rfl) _ _ hP hD hS ls (lv_sub hl [3, 4, 2, 1, 0] rfl)
            · have hy9 : y9 = false := bI_0.mp c_48
              refine lv_aload_n hx hb dY_compare_51 rfl (lv_at hl 1 rfl) ?_
              refine va_get (D := (dC, dI)) (ci := 1) (v := .ref b0) (C := RY) (T := TY) (N := 13) hx hb hts in_Y_compare_Y hown hK hP 0 rfl rfl 1 (by decide) (hts (.fieldLink RY 7 "CausalGateModel" "clock" "[I") (by decide +kernel)) (fun _ h9 => h9) rfl dY_compare_52 ?_
              refine lv_iload hx hb dY_compare_55 (lv_at hl 4 rfl) ?_
              refine va_iald hx hb hK hP 1 0 rfl rfl (vp_in_nI (by omega) (by decide)) dY_compare_57 ?_
              refine tp_i (y := nI (cl a)) (by rw [nI_clamp (by omega)]) ?_
              refine lv_lload_n hx hb dY_compare_58 rfl (lv_at hl 2 rfl) ?_
              refine lv_iload hx hb dY_compare_59 (lv_at hl 4 rfl) ?_
              refine rd_i (W.runS (As := [.long ck, .int (nI a)]) (rest := [.int (nI (cl a))]) ⟨hx, hb, hml, hown, hts⟩ (kY_part l ck a (by omega)) (va_cwS 2 hts gY_compare_Y_part rfl rfl rfl (by decide +kernel) ⟨Nat.le_of_ble_eq_true rfl, Nat.le_of_ble_eq_true rfl⟩) preEq rfl rfl hl.1 rfl (lv_room (Nat.le_of_ble_eq_true rfl)) dY_compare_61 ⟨Nat.zero_le _, Nat.zero_le _⟩) ?_
              refine lv_icmp_le (tgt := 71) hx hb dY_compare_64 (by decide) (fun c_64 => ?_) (fun c_64 => ?_)
              · have e7 : (y9 || decide (by_ ck a < cl a)) = false := by simp [hy9]; exact (nI_leI (by have := hcl a (by omega); have := by_lt ck a; omega) (by have := hcl a (by omega); have := by_lt ck a; omega)).mp c_64
                refine lv_iconst (v := 0) hx hb dY_compare_71 (by decide) ?_
                refine tp_i (y := bI (y9 || decide (by_ ck a < cl a))) (by rw [e7]; rfl) ?_
                refine lv_istore (lv' := [(4, .int (bI (y9 || decide (by_ ck a < cl a)))), (3, .int (bI (x9 || decide (cl a < by_ ck a)))), (0, .ref r0), (1, .long ck), (5, .int (nI a))]) hx hb dY_compare_72 hl (by decide) rfl (fun ls hl => ?_)
                refine lv_iinc (v := (nI (a + 1))) (lv' := [(5, .int (nI (a + 1))), (4, .int (bI (y9 || decide (by_ ck a < cl a)))), (3, .int (bI (x9 || decide (cl a < by_ ck a)))), (0, .ref r0), (1, .long ck)]) hx hb dY_compare_74 hl (k := 4) rfl (nI_1 a) (by decide) rfl (fun ls hl => ?_)
                refine lv_goto (tgt := 13) hx hb dY_compare_77 (by decide) ?_
                exact ih (a + 1) (x9 || decide (cl a < by_ ck a)) (y9 || decide (by_ ck a < cl a)) (by omega) (by rw [← hk9]; rfl) _ _ hP hD hS ls (lv_sub hl [3, 4, 2, 1, 0] rfl)
              · have e7 : (y9 || decide (by_ ck a < cl a)) = true := by simp [hy9]; exact Nat.lt_of_not_le fun q => c_64 (nI_le q (by have := hcl a (by omega); have := by_lt ck a; omega))
                refine lv_iconst (v := 1) hx hb dY_compare_67 (by decide) ?_
                refine tp_i (y := bI (y9 || decide (by_ ck a < cl a))) (by rw [e7]; rfl) ?_
                refine lv_goto (tgt := 72) hx hb dY_compare_68 (by decide) ?_
                refine lv_istore (lv' := [(4, .int (bI (y9 || decide (by_ ck a < cl a)))), (3, .int (bI (x9 || decide (cl a < by_ ck a)))), (0, .ref r0), (1, .long ck), (5, .int (nI a))]) hx hb dY_compare_72 hl (by decide) rfl (fun ls hl => ?_)
                refine lv_iinc (v := (nI (a + 1))) (lv' := [(5, .int (nI (a + 1))), (4, .int (bI (y9 || decide (by_ ck a < cl a)))), (3, .int (bI (x9 || decide (cl a < by_ ck a)))), (0, .ref r0), (1, .long ck)]) hx hb dY_compare_74 hl (k := 4) rfl (nI_1 a) (by decide) rfl (fun ls hl => ?_)
                refine lv_goto (tgt := 13) hx hb dY_compare_77 (by decide) ?_
                exact ih (a + 1) (x9 || decide (cl a < by_ ck a)) (y9 || decide (by_ ck a < cl a)) (by omega) (by rw [← hk9]; rfl) _ _ hP hD hS ls (lv_sub hl [3, 4, 2, 1, 0] rfl)
          · have e8 : (x9 || decide (cl a < by_ ck a)) = true := by simp [hx9]; exact Nat.lt_of_not_le fun q => c_37 (nI_le q (by have := hcl a (by omega); have := by_lt ck a; omega))
            refine lv_iconst (v := 1) hx hb dY_compare_40 (by decide) ?_
            refine tp_i (y := bI (x9 || decide (cl a < by_ ck a))) (by rw [e8]; rfl) ?_
            refine lv_goto (tgt := 45) hx hb dY_compare_41 (by decide) ?_
            refine lv_istore_n (lv' := [(3, .int (bI (x9 || decide (cl a < by_ ck a)))), (0, .ref r0), (1, .long ck), (4, .int (bI y9)), (5, .int (nI a))]) hx hb dY_compare_45 rfl hl (by decide) rfl (fun ls hl => ?_)
            refine lv_iload hx hb dY_compare_46 (lv_at hl 3 rfl) ?_
            refine lv_if_ne (tgt := 67) hx hb dY_compare_48 (by decide) (fun c_48 => ?_) (fun c_48 => ?_)
            · have hy9 : y9 = true := by cases y9; exact absurd rfl c_48; rfl
              have e7 : (y9 || decide (by_ ck a < cl a)) = true := by simp [hy9]
              refine lv_iconst (v := 1) hx hb dY_compare_67 (by decide) ?_
              refine tp_i (y := bI (y9 || decide (by_ ck a < cl a))) (by rw [e7]; rfl) ?_
              refine lv_goto (tgt := 72) hx hb dY_compare_68 (by decide) ?_
              refine lv_istore (lv' := [(4, .int (bI (y9 || decide (by_ ck a < cl a)))), (3, .int (bI (x9 || decide (cl a < by_ ck a)))), (0, .ref r0), (1, .long ck), (5, .int (nI a))]) hx hb dY_compare_72 hl (by decide) rfl (fun ls hl => ?_)
              refine lv_iinc (v := (nI (a + 1))) (lv' := [(5, .int (nI (a + 1))), (4, .int (bI (y9 || decide (by_ ck a < cl a)))), (3, .int (bI (x9 || decide (cl a < by_ ck a)))), (0, .ref r0), (1, .long ck)]) hx hb dY_compare_74 hl (k := 4) rfl (nI_1 a) (by decide) rfl (fun ls hl => ?_)
              refine lv_goto (tgt := 13) hx hb dY_compare_77 (by decide) ?_
              exact ih (a + 1) (x9 || decide (cl a < by_ ck a)) (y9 || decide (by_ ck a < cl a)) (by omega) (by rw [← hk9]; rfl) _ _ hP hD hS ls (lv_sub hl [3, 4, 2, 1, 0] rfl)
            · have hy9 : y9 = false := bI_0.mp c_48
              refine lv_aload_n hx hb dY_compare_51 rfl (lv_at hl 1 rfl) ?_
              refine va_get (D := (dC, dI)) (ci := 1) (v := .ref b0) (C := RY) (T := TY) (N := 13) hx hb hts in_Y_compare_Y hown hK hP 0 rfl rfl 1 (by decide) (hts (.fieldLink RY 7 "CausalGateModel" "clock" "[I") (by decide +kernel)) (fun _ h9 => h9) rfl dY_compare_52 ?_
              refine lv_iload hx hb dY_compare_55 (lv_at hl 4 rfl) ?_
              refine va_iald hx hb hK hP 1 0 rfl rfl (vp_in_nI (by omega) (by decide)) dY_compare_57 ?_
              refine tp_i (y := nI (cl a)) (by rw [nI_clamp (by omega)]) ?_
              refine lv_lload_n hx hb dY_compare_58 rfl (lv_at hl 2 rfl) ?_
              refine lv_iload hx hb dY_compare_59 (lv_at hl 4 rfl) ?_
              refine rd_i (W.runS (As := [.long ck, .int (nI a)]) (rest := [.int (nI (cl a))]) ⟨hx, hb, hml, hown, hts⟩ (kY_part l ck a (by omega)) (va_cwS 2 hts gY_compare_Y_part rfl rfl rfl (by decide +kernel) ⟨Nat.le_of_ble_eq_true rfl, Nat.le_of_ble_eq_true rfl⟩) preEq rfl rfl hl.1 rfl (lv_room (Nat.le_of_ble_eq_true rfl)) dY_compare_61 ⟨Nat.zero_le _, Nat.zero_le _⟩) ?_
              refine lv_icmp_le (tgt := 71) hx hb dY_compare_64 (by decide) (fun c_64 => ?_) (fun c_64 => ?_)
              · have e7 : (y9 || decide (by_ ck a < cl a)) = false := by simp [hy9]; exact (nI_leI (by have := hcl a (by omega); have := by_lt ck a; omega) (by have := hcl a (by omega); have := by_lt ck a; omega)).mp c_64
                refine lv_iconst (v := 0) hx hb dY_compare_71 (by decide) ?_
                refine tp_i (y := bI (y9 || decide (by_ ck a < cl a))) (by rw [e7]; rfl) ?_
                refine lv_istore (lv' := [(4, .int (bI (y9 || decide (by_ ck a < cl a)))), (3, .int (bI (x9 || decide (cl a < by_ ck a)))), (0, .ref r0), (1, .long ck), (5, .int (nI a))]) hx hb dY_compare_72 hl (by decide) rfl (fun ls hl => ?_)
                refine lv_iinc (v := (nI (a + 1))) (lv' := [(5, .int (nI (a + 1))), (4, .int (bI (y9 || decide (by_ ck a < cl a)))), (3, .int (bI (x9 || decide (cl a < by_ ck a)))), (0, .ref r0), (1, .long ck)]) hx hb dY_compare_74 hl (k := 4) rfl (nI_1 a) (by decide) rfl (fun ls hl => ?_)
                refine lv_goto (tgt := 13) hx hb dY_compare_77 (by decide) ?_
                exact ih (a + 1) (x9 || decide (cl a < by_ ck a)) (y9 || decide (by_ ck a < cl a)) (by omega) (by rw [← hk9]; rfl) _ _ hP hD hS ls (lv_sub hl [3, 4, 2, 1, 0] rfl)
              · have e7 : (y9 || decide (by_ ck a < cl a)) = true := by simp [hy9]; exact Nat.lt_of_not_le fun q => c_64 (nI_le q (by have := hcl a (by omega); have := by_lt ck a; omega))
                refine lv_iconst (v := 1) hx hb dY_compare_67 (by decide) ?_
                refine tp_i (y := bI (y9 || decide (by_ ck a < cl a))) (by rw [e7]; rfl) ?_
                refine lv_goto (tgt := 72) hx hb dY_compare_68 (by decide) ?_
                refine lv_istore (lv' := [(4, .int (bI (y9 || decide (by_ ck a < cl a)))), (3, .int (bI (x9 || decide (cl a < by_ ck a)))), (0, .ref r0), (1, .long ck), (5, .int (nI a))]) hx hb dY_compare_72 hl (by decide) rfl (fun ls hl => ?_)
                refine lv_iinc (v := (nI (a + 1))) (lv' := [(5, .int (nI (a + 1))), (4, .int (bI (y9 || decide (by_ ck a < cl a)))), (3, .int (bI (x9 || decide (cl a < by_ ck a)))), (0, .ref r0), (1, .long ck)]) hx hb dY_compare_74 hl (k := 4) rfl (nI_1 a) (by decide) rfl (fun ls hl => ?_)
                refine lv_goto (tgt := 13) hx hb dY_compare_77 (by decide) ?_
                exact ih (a + 1) (x9 || decide (cl a < by_ ck a)) (y9 || decide (by_ ck a < cl a)) (by omega) (by rw [← hk9]; rfl) _ _ hP hD hS ls (lv_sub hl [3, 4, 2, 1, 0] rfl)
  exact loop 8 0 false false (by omega) rfl _ _ hP hD hS ls (lv_sub hl [3, 4, 2, 1, 0] rfl)

set_option maxRecDepth 20000 in
theorem in_Y_forget_Y : ∀ w ∈ wsY0, w ∈ wsY_forget := by decide +kernel

set_option maxHeartbeats 4000000 in
set_option maxRecDepth 100000 in
theorem kY_forget (l : Launch) (dC : Nat → ClassId) (dI : Nat → Nat → Nat) (cb : Nat → ClassId) (r0 b0 b1 b2 b3 b4 b5 b6 b7 : Nat) (th : Int32) (cl : Nat → Nat) (t : TF) (tn : Nat) (w : WF) (wn : Nat) (ko mw : Nat) (sz : Nat) (hwn : wn ≤ 65) (hw : ∀ j, j < wn → (w j).1 < 2048) (x : Int32) : Met l yY_forget wsY_forget ({ frames := 1, cells := 0, slots := 0, locals := 22 }) (Pm [.ref r0, .int x] (dC, dI) clS [(cb 0, .int), (cb 1, .int), (cb 2, .int), (cb 3, .int), (cb 4, .int), (cb 5, .int), (cb 6, .long), (cb 7, .int)] [(r0, .inr (1, [.int th, .ref b0, .int (nI tn), .ref b1, .ref b2, .ref b3, .int (nI wn), .ref b4, .ref b5, .ref b6, .ref b7, .int (nI ko), .int (nI mw)])), (b0, .inl (cb 0, 8, .inl (fun z9 => nI (cl z9)))), (b1, .inl (cb 1, 2040, .inl (fun z9 => nI ((t z9).1 / 256)))), (b2, .inl (cb 2, 2040, .inl (fun z9 => nI ((t z9).1 % 256)))), (b3, .inl (cb 3, 2040, .inl (fun z9 => (t z9).2))), (b4, .inl (cb 4, 65, .inl (fun z9 => nI ((w z9).1 / 256)))), (b5, .inl (cb 5, 65, .inl (fun z9 => nI ((w z9).1 % 256)))), (b6, .inl (cb 6, 65, .inr (.inl (fun z9 => (w z9).2.1)))), (b7, .inl (cb 7, 65, .inl (fun z9 => (w z9).2.2)))] sz) (QmI (nI (fgM x wn wn 0 w).2.2) (dC, dI) clS [(r0, .inr (1, [.int th, .ref b0, .int (nI tn), .ref b1, .ref b2, .ref b3, .int (nI wn), .ref b4, .ref b5, .ref b6, .ref b7, .int (nI ko), .int (nI mw)])), (b0, .inl (cb 0, 8, .inl (fun z9 => nI (cl z9)))), (b1, .inl (cb 1, 2040, .inl (fun z9 => nI ((t z9).1 / 256)))), (b2, .inl (cb 2, 2040, .inl (fun z9 => nI ((t z9).1 % 256)))), (b3, .inl (cb 3, 2040, .inl (fun z9 => (t z9).2))), (b4, .inl (cb 4, 65, .inl (fun z9 => nI ((w z9).1 / 256)))), (b5, .inl (cb 5, 65, .inl (fun z9 => nI ((w z9).1 % 256)))), (b6, .inl (cb 6, 65, .inr (.inl (fun z9 => (w z9).2.1)))), (b7, .inl (cb 7, 65, .inl (fun z9 => (w z9).2.2)))] [(r0, .inr (1, [.int 0, .ref b0, .int (nI tn), .ref b1, .ref b2, .ref b3, .int (nI ((fgM x wn wn 0 w).2.1)), .ref b4, .ref b5, .ref b6, .ref b7, .int (nI ko), .int (nI mw)])), (b0, .inl (cb 0, 8, .inl (fun z9 => nI (cl z9)))), (b1, .inl (cb 1, 2040, .inl (fun z9 => nI ((t z9).1 / 256)))), (b2, .inl (cb 2, 2040, .inl (fun z9 => nI ((t z9).1 % 256)))), (b3, .inl (cb 3, 2040, .inl (fun z9 => (t z9).2))), (b4, .inl (cb 4, 65, .inl (fun z9 => nI ((((fgM x wn wn 0 w).1) z9).1 / 256)))), (b5, .inl (cb 5, 65, .inl (fun z9 => nI ((((fgM x wn wn 0 w).1) z9).1 % 256)))), (b6, .inl (cb 6, 65, .inr (.inl (fun z9 => (((fgM x wn wn 0 w).1) z9).2.1)))), (b7, .inl (cb 7, 65, .inl (fun z9 => (((fgM x wn wn 0 w).1) z9).2.2)))] sz) 0 0 (va_A [(r0, .inr (1, [.int th, .ref b0, .int (nI tn), .ref b1, .ref b2, .ref b3, .int (nI wn), .ref b4, .ref b5, .ref b6, .ref b7, .int (nI ko), .int (nI mw)])), (b0, .inl (cb 0, 8, .inl (fun z9 => nI (cl z9)))), (b1, .inl (cb 1, 2040, .inl (fun z9 => nI ((t z9).1 / 256)))), (b2, .inl (cb 2, 2040, .inl (fun z9 => nI ((t z9).1 % 256)))), (b3, .inl (cb 3, 2040, .inl (fun z9 => (t z9).2))), (b4, .inl (cb 4, 65, .inl (fun z9 => nI ((w z9).1 / 256)))), (b5, .inl (cb 5, 65, .inl (fun z9 => nI ((w z9).1 % 256)))), (b6, .inl (cb 6, 65, .inr (.inl (fun z9 => (w z9).2.1)))), (b7, .inl (cb 7, 65, .inl (fun z9 => (w z9).2.2)))] sz) := by
  refine Met.ofW (cc := cY_forget) (maxL := 4) (ret := (some .int)) (by decide) rfl ?_
  intro p e s m args below meth c s₁ B hml hv
  obtain ⟨hargs, hsz, hP, hK, hD0⟩ := hv
  have hx := B.exec
  have hb := B.bytes
  have hr := B.returns
  have hts := atoms_spec (ws := wsY_forget) B.pre
  have hown : s.vm.findClass RY = some m.cls := findClass_of_methodNamed B.named
  have hlocks := B.notSynchronized
  subst hsz
  have hD := hD0.self (sz := s.heap.size)
  obtain ⟨A, hAe⟩ : ∃ A, A = va_A [(r0, .inr (1, [.int th, .ref b0, .int (nI tn), .ref b1, .ref b2, .ref b3, .int (nI wn), .ref b4, .ref b5, .ref b6, .ref b7, .int (nI ko), .int (nI mw)])), (b0, .inl (cb 0, 8, .inl (fun z9 => nI (cl z9)))), (b1, .inl (cb 1, 2040, .inl (fun z9 => nI ((t z9).1 / 256)))), (b2, .inl (cb 2, 2040, .inl (fun z9 => nI ((t z9).1 % 256)))), (b3, .inl (cb 3, 2040, .inl (fun z9 => (t z9).2))), (b4, .inl (cb 4, 65, .inl (fun z9 => nI ((w z9).1 / 256)))), (b5, .inl (cb 5, 65, .inl (fun z9 => nI ((w z9).1 % 256)))), (b6, .inl (cb 6, 65, .inr (.inl (fun z9 => (w z9).2.1)))), (b7, .inl (cb 7, 65, .inl (fun z9 => (w z9).2.2)))] s.heap.size := ⟨_, rfl⟩
  rw [← hAe] at hD ⊢
  have hA : ∀ q : Nat, s.heap.size ≤ q → A q := fun q h => by rw [hAe]; exact Or.inr h
  have hS : va_S A s.heap s.heap [] := va_S.rf
  have hP : va_P (dC, dI) clS [(r0, .inr (1, [.int th, .ref b0, .int (nI tn), .ref b1, .ref b2, .ref b3, .int (nI wn), .ref b4, .ref b5, .ref b6, .ref b7, .int (nI ko), .int (nI mw)])), (b0, .inl (cb 0, 8, .inl (fun z9 => nI (cl z9)))), (b1, .inl (cb 1, 2040, .inl (fun z9 => nI ((t z9).1 / 256)))), (b2, .inl (cb 2, 2040, .inl (fun z9 => nI ((t z9).1 % 256)))), (b3, .inl (cb 3, 2040, .inl (fun z9 => (t z9).2))), (b4, .inl (cb 4, 65, .inl (fun z9 => nI ((w z9).1 / 256)))), (b5, .inl (cb 5, 65, .inl (fun z9 => nI ((w z9).1 % 256)))), (b6, .inl (cb 6, 65, .inr (.inl (fun z9 => (w z9).2.1)))), (b7, .inl (cb 7, 65, .inl (fun z9 => (w z9).2.2)))] s.heap := hP
  have hl := lv_entry ([.ref r0, .int x]) (n := 4) (Nat.le_of_ble_eq_true rfl)
  have hE : entryFrame m args 4 = F0 m 0 ((lg_sl ([.ref r0, .int x]) ++ List.replicate (4 - (lg_sl ([.ref r0, .int x])).length) Slot.unset).toArray) [] := by rw [hargs]; exact lg_entry_eq m ([.ref r0, .int x]) 4
  rw [hE]
  generalize (lg_sl ([.ref r0, .int x]) ++ List.replicate (4 - (lg_sl ([.ref r0, .int x])).length) Slot.unset).toArray = ls at hl ⊢
  have hl : lv_has ls 4 [(0, .ref r0), (1, .int x)] := hl
  refine lv_aload_n hx hb dY_forget_0 rfl (lv_at hl 0 rfl) ?_
  refine lv_iconst (v := 0) hx hb dY_forget_1 (by decide) ?_
  refine va_put (D := (dC, dI)) (ci := 1) (v := .int 0) (ty := .int) (C := RY) (T := TY) (N := 13) hx hb hts in_Y_forget_Y tyY tyY_ok nmY hown hK hP hD hS 0 rfl rfl 0 (by decide) (hts (.fieldLink RY 35 "CausalGateModel" "thrown" "I") (by decide +kernel)) (fun _ h9 => h9) rfl (by decide +kernel) rfl rfl (Nat.le_of_ble_eq_true rfl) dY_forget_2 (fun H locs hP hD hS => ?_)
  have hP : va_P (dC, dI) clS [(r0, .inr (1, [.int 0, .ref b0, .int (nI tn), .ref b1, .ref b2, .ref b3, .int (nI wn), .ref b4, .ref b5, .ref b6, .ref b7, .int (nI ko), .int (nI mw)])), (b0, .inl (cb 0, 8, .inl (fun z9 => nI (cl z9)))), (b1, .inl (cb 1, 2040, .inl (fun z9 => nI ((t z9).1 / 256)))), (b2, .inl (cb 2, 2040, .inl (fun z9 => nI ((t z9).1 % 256)))), (b3, .inl (cb 3, 2040, .inl (fun z9 => (t z9).2))), (b4, .inl (cb 4, 65, .inl (fun z9 => nI ((w z9).1 / 256)))), (b5, .inl (cb 5, 65, .inl (fun z9 => nI ((w z9).1 % 256)))), (b6, .inl (cb 6, 65, .inr (.inl (fun z9 => (w z9).2.1)))), (b7, .inl (cb 7, 65, .inl (fun z9 => (w z9).2.2)))] H := hP
  have hD : va_D A [(r0, .inr (1, [.int 0, .ref b0, .int (nI tn), .ref b1, .ref b2, .ref b3, .int (nI wn), .ref b4, .ref b5, .ref b6, .ref b7, .int (nI ko), .int (nI mw)])), (b0, .inl (cb 0, 8, .inl (fun z9 => nI (cl z9)))), (b1, .inl (cb 1, 2040, .inl (fun z9 => nI ((t z9).1 / 256)))), (b2, .inl (cb 2, 2040, .inl (fun z9 => nI ((t z9).1 % 256)))), (b3, .inl (cb 3, 2040, .inl (fun z9 => (t z9).2))), (b4, .inl (cb 4, 65, .inl (fun z9 => nI ((w z9).1 / 256)))), (b5, .inl (cb 5, 65, .inl (fun z9 => nI ((w z9).1 % 256)))), (b6, .inl (cb 6, 65, .inr (.inl (fun z9 => (w z9).2.1)))), (b7, .inl (cb 7, 65, .inl (fun z9 => (w z9).2.2)))] := hD
  refine lv_iconst (v := 0) hx hb dY_forget_5 (by decide) ?_
  refine tp_i (y := nI 0) (nI_0.symm) ?_
  refine lv_istore_n (lv' := [(2, .int (nI 0)), (0, .ref r0), (1, .int x)]) hx hb dY_forget_6 rfl hl (by decide) rfl (fun ls hl => ?_)
  refine lv_aload_n hx hb dY_forget_7 rfl (lv_at hl 1 rfl) ?_
  refine va_get (D := (dC, dI)) (ci := 1) (v := .int (nI wn)) (C := RY) (T := TY) (N := 13) hx hb hts in_Y_forget_Y hown hK hP 0 rfl rfl 6 (by decide) (hts (.fieldLink RY 49 "CausalGateModel" "waiting" "I") (by decide +kernel)) (fun _ h9 => h9) rfl dY_forget_8 ?_
  refine lv_iconst (v := 1) hx hb dY_forget_11 (by decide) ?_
  refine lv_isub hx hb dY_forget_12 ?_
  refine tp_i (y := dN wn) (dN_sub wn) ?_
  refine lv_istore_n (lv' := [(3, .int (dN wn)), (2, .int (nI 0)), (0, .ref r0), (1, .int x)]) hx hb dY_forget_13 rfl hl (by decide) rfl (fun ls hl => ?_)
  have loop : ∀ (n : Nat) (vn y : Nat) (v : WF), n ≤ vn → vn ≤ 65 → (∀ j, j < vn → (v j).1 < 2048) → fgM x n vn y v = fgM x wn wn 0 w → ∀ (H : Heap) (locs : List Loc), va_P (dC, dI) clS [(r0, .inr (1, [.int 0, .ref b0, .int (nI tn), .ref b1, .ref b2, .ref b3, .int (nI vn), .ref b4, .ref b5, .ref b6, .ref b7, .int (nI ko), .int (nI mw)])), (b0, .inl (cb 0, 8, .inl (fun z9 => nI (cl z9)))), (b1, .inl (cb 1, 2040, .inl (fun z9 => nI ((t z9).1 / 256)))), (b2, .inl (cb 2, 2040, .inl (fun z9 => nI ((t z9).1 % 256)))), (b3, .inl (cb 3, 2040, .inl (fun z9 => (t z9).2))), (b4, .inl (cb 4, 65, .inl (fun z9 => nI ((v z9).1 / 256)))), (b5, .inl (cb 5, 65, .inl (fun z9 => nI ((v z9).1 % 256)))), (b6, .inl (cb 6, 65, .inr (.inl (fun z9 => (v z9).2.1)))), (b7, .inl (cb 7, 65, .inl (fun z9 => (v z9).2.2)))] H → va_D A [(r0, .inr (1, [.int 0, .ref b0, .int (nI tn), .ref b1, .ref b2, .ref b3, .int (nI vn), .ref b4, .ref b5, .ref b6, .ref b7, .int (nI ko), .int (nI mw)])), (b0, .inl (cb 0, 8, .inl (fun z9 => nI (cl z9)))), (b1, .inl (cb 1, 2040, .inl (fun z9 => nI ((t z9).1 / 256)))), (b2, .inl (cb 2, 2040, .inl (fun z9 => nI ((t z9).1 % 256)))), (b3, .inl (cb 3, 2040, .inl (fun z9 => (t z9).2))), (b4, .inl (cb 4, 65, .inl (fun z9 => nI ((v z9).1 / 256)))), (b5, .inl (cb 5, 65, .inl (fun z9 => nI ((v z9).1 % 256)))), (b6, .inl (cb 6, 65, .inr (.inl (fun z9 => (v z9).2.1)))), (b7, .inl (cb 7, 65, .inl (fun z9 => (v z9).2.2)))] → va_S A s.heap H locs → ∀ ls : Array Slot, lv_has ls 4 [(0, .ref r0), (1, .int x), (2, .int (nI y)), (3, .int (dN n))] → W p l e (headSpec wsY_forget ({ frames := 1, cells := 0, slots := 0, locals := 22 })).room s m args below meth c H locs 0 0 (MQ below (QmI (nI (fgM x wn wn 0 w).2.2) (dC, dI) clS [(r0, .inr (1, [.int th, .ref b0, .int (nI tn), .ref b1, .ref b2, .ref b3, .int (nI wn), .ref b4, .ref b5, .ref b6, .ref b7, .int (nI ko), .int (nI mw)])), (b0, .inl (cb 0, 8, .inl (fun z9 => nI (cl z9)))), (b1, .inl (cb 1, 2040, .inl (fun z9 => nI ((t z9).1 / 256)))), (b2, .inl (cb 2, 2040, .inl (fun z9 => nI ((t z9).1 % 256)))), (b3, .inl (cb 3, 2040, .inl (fun z9 => (t z9).2))), (b4, .inl (cb 4, 65, .inl (fun z9 => nI ((w z9).1 / 256)))), (b5, .inl (cb 5, 65, .inl (fun z9 => nI ((w z9).1 % 256)))), (b6, .inl (cb 6, 65, .inr (.inl (fun z9 => (w z9).2.1)))), (b7, .inl (cb 7, 65, .inl (fun z9 => (w z9).2.2)))] [(r0, .inr (1, [.int 0, .ref b0, .int (nI tn), .ref b1, .ref b2, .ref b3, .int (nI ((fgM x wn wn 0 w).2.1)), .ref b4, .ref b5, .ref b6, .ref b7, .int (nI ko), .int (nI mw)])), (b0, .inl (cb 0, 8, .inl (fun z9 => nI (cl z9)))), (b1, .inl (cb 1, 2040, .inl (fun z9 => nI ((t z9).1 / 256)))), (b2, .inl (cb 2, 2040, .inl (fun z9 => nI ((t z9).1 % 256)))), (b3, .inl (cb 3, 2040, .inl (fun z9 => (t z9).2))), (b4, .inl (cb 4, 65, .inl (fun z9 => nI ((((fgM x wn wn 0 w).1) z9).1 / 256)))), (b5, .inl (cb 5, 65, .inl (fun z9 => nI ((((fgM x wn wn 0 w).1) z9).1 % 256)))), (b6, .inl (cb 6, 65, .inr (.inl (fun z9 => (((fgM x wn wn 0 w).1) z9).2.1)))), (b7, .inl (cb 7, 65, .inl (fun z9 => (((fgM x wn wn 0 w).1) z9).2.2)))] s.heap.size) args s 0 0 A) (F0 m 14 ls []) := by
    intro n
    induction n with
    | zero =>
      intro vn y v hn hvn hv hk9 H locs hP hD hS ls hl
      have hl : lv_has ls 4 [(0, .ref r0), (1, .int x), (2, .int (nI y)), (3, .int (-1))] := hl
      refine lv_iload_n hx hb dY_forget_14 rfl (lv_at hl 3 rfl) ?_
      refine lv_if_lt (tgt := 42) hx hb dY_forget_15 (by decide) (fun c_15 => ?_) (fun c_15 => ?_)
      · refine lv_iload_n hx hb dY_forget_42 rfl (lv_at hl 2 rfl) ?_
        have hk8 : fgM x wn wn 0 w = (v, vn, y) := hk9.symm
        rw [hk8]
        exact mi_ret hx hb hr hlocks (rfl) hAe hP hD hS dY_forget_43
      · exact absurd (by decide) c_15
    | succ n ih =>
      intro vn y v hn hvn hv hk9 H locs hP hD hS ls hl
      have hl : lv_has ls 4 [(0, .ref r0), (1, .int x), (2, .int (nI y)), (3, .int (nI n))] := hl
      refine lv_iload_n hx hb dY_forget_14 rfl (lv_at hl 3 rfl) ?_
      refine lv_if_lt (tgt := 42) hx hb dY_forget_15 (by decide) (fun c_15 => ?_) (fun c_15 => ?_)
      · exact absurd c_15 (nI_pos (by omega))
      · refine lv_aload_n hx hb dY_forget_18 rfl (lv_at hl 0 rfl) ?_
        refine va_get (D := (dC, dI)) (ci := 1) (v := .ref b4) (C := RY) (T := TY) (N := 13) hx hb hts in_Y_forget_Y hown hK hP 0 rfl rfl 7 (by decide) (hts (.fieldLink RY 22 "CausalGateModel" "wActors" "[I") (by decide +kernel)) (fun _ h9 => h9) rfl dY_forget_19 ?_
        refine lv_iload_n hx hb dY_forget_22 rfl (lv_at hl 3 rfl) ?_
        refine va_iald hx hb hK hP 5 4 rfl rfl (vp_in_nI (by omega) (by decide)) dY_forget_23 ?_
        refine tp_i (y := nI ((v n).1 / 256)) (by rw [nI_clamp (by omega)]) ?_
        have hvj := hv n (by omega)
        refine lv_iload_n hx hb dY_forget_24 rfl (lv_at hl 1 rfl) ?_
        refine lv_icmp_ne (tgt := 36) hx hb dY_forget_25 (by decide) (fun c_25 => ?_) (fun c_25 => ?_)
        · refine lv_iinc (v := (dN n)) (lv' := [(3, .int (dN n)), (0, .ref r0), (1, .int x), (2, .int (nI y))]) hx hb dY_forget_36 hl (k := 3) rfl (dN_dec n) (by decide) rfl (fun ls hl => ?_)
          refine lv_goto (tgt := 14) hx hb dY_forget_39 (by decide) ?_
          exact ih vn y v (by omega) (by omega) hv (by rw [← hk9]; simp only [fgM]; rw [if_neg c_25]) _ _ hP hD hS ls (lv_sub hl [1, 2, 3, 0] rfl)
        · refine lv_aload_n hx hb dY_forget_28 rfl (lv_at hl 0 rfl) ?_
          refine lv_iload_n hx hb dY_forget_29 rfl (lv_at hl 3 rfl) ?_
          refine mt_v (wc := [(r0, .inr (1, [.int 0, .ref b0, .int (nI tn), .ref b1, .ref b2, .ref b3, .int (nI vn), .ref b4, .ref b5, .ref b6, .ref b7, .int (nI ko), .int (nI mw)])), (b0, .inl (cb 0, 8, .inl (fun z9 => nI (cl z9)))), (b1, .inl (cb 1, 2040, .inl (fun z9 => nI ((t z9).1 / 256)))), (b2, .inl (cb 2, 2040, .inl (fun z9 => nI ((t z9).1 % 256)))), (b3, .inl (cb 3, 2040, .inl (fun z9 => (t z9).2))), (b4, .inl (cb 4, 65, .inl (fun z9 => nI ((v z9).1 / 256)))), (b5, .inl (cb 5, 65, .inl (fun z9 => nI ((v z9).1 % 256)))), (b6, .inl (cb 6, 65, .inr (.inl (fun z9 => (v z9).2.1)))), (b7, .inl (cb 7, 65, .inl (fun z9 => (v z9).2.2)))]) (wr := []) (w1 := [(r0, .inr (1, [.int 0, .ref b0, .int (nI tn), .ref b1, .ref b2, .ref b3, .int (nI (vn - 1)), .ref b4, .ref b5, .ref b6, .ref b7, .int (nI ko), .int (nI mw)])), (b0, .inl (cb 0, 8, .inl (fun z9 => nI (cl z9)))), (b1, .inl (cb 1, 2040, .inl (fun z9 => nI ((t z9).1 / 256)))), (b2, .inl (cb 2, 2040, .inl (fun z9 => nI ((t z9).1 % 256)))), (b3, .inl (cb 3, 2040, .inl (fun z9 => (t z9).2))), (b4, .inl (cb 4, 65, .inl (fun z9 => nI (((rmS (vn - (n + 1)) (n + 1) v) z9).1 / 256)))), (b5, .inl (cb 5, 65, .inl (fun z9 => nI (((rmS (vn - (n + 1)) (n + 1) v) z9).1 % 256)))), (b6, .inl (cb 6, 65, .inr (.inl (fun z9 => ((rmS (vn - (n + 1)) (n + 1) v) z9).2.1)))), (b7, .inl (cb 7, 65, .inl (fun z9 => ((rmS (vn - (n + 1)) (n + 1) v) z9).2.2)))]) [0, 1, 2, 3, 4, 5, 6, 7, 8] [] hP hD hS hA rfl rfl (by decide) (by decide) (va_runV (mc := 0) (ms := 0) (As := [.int (nI n)]) (rest := []) ⟨hx, hb, hml, hown, hts⟩ (kY_drop l dC dI cb r0 b0 b1 b2 b3 b4 b5 b6 b7 0 cl t tn v vn ko mw _ n (by omega) (by omega)) (cwV 1 hts gY_forget_Y_drop rfl rfl rfl (by decide +kernel) ⟨Nat.le_of_ble_eq_true rfl, Nat.le_of_ble_eq_true rfl⟩) (pm_V (ci := 1) (q0 := 0) hK (hP.sub (ws' := [(r0, .inr (1, [.int 0, .ref b0, .int (nI tn), .ref b1, .ref b2, .ref b3, .int (nI vn), .ref b4, .ref b5, .ref b6, .ref b7, .int (nI ko), .int (nI mw)])), (b0, .inl (cb 0, 8, .inl (fun z9 => nI (cl z9)))), (b1, .inl (cb 1, 2040, .inl (fun z9 => nI ((t z9).1 / 256)))), (b2, .inl (cb 2, 2040, .inl (fun z9 => nI ((t z9).1 % 256)))), (b3, .inl (cb 3, 2040, .inl (fun z9 => (t z9).2))), (b4, .inl (cb 4, 65, .inl (fun z9 => nI ((v z9).1 / 256)))), (b5, .inl (cb 5, 65, .inl (fun z9 => nI ((v z9).1 % 256)))), (b6, .inl (cb 6, 65, .inr (.inl (fun z9 => (v z9).2.1)))), (b7, .inl (cb 7, 65, .inl (fun z9 => (v z9).2.2)))]) [0, 1, 2, 3, 4, 5, 6, 7, 8] rfl) (hD.sub (ws' := [(r0, .inr (1, [.int 0, .ref b0, .int (nI tn), .ref b1, .ref b2, .ref b3, .int (nI vn), .ref b4, .ref b5, .ref b6, .ref b7, .int (nI ko), .int (nI mw)])), (b0, .inl (cb 0, 8, .inl (fun z9 => nI (cl z9)))), (b1, .inl (cb 1, 2040, .inl (fun z9 => nI ((t z9).1 / 256)))), (b2, .inl (cb 2, 2040, .inl (fun z9 => nI ((t z9).1 % 256)))), (b3, .inl (cb 3, 2040, .inl (fun z9 => (t z9).2))), (b4, .inl (cb 4, 65, .inl (fun z9 => nI ((v z9).1 / 256)))), (b5, .inl (cb 5, 65, .inl (fun z9 => nI ((v z9).1 % 256)))), (b6, .inl (cb 6, 65, .inr (.inl (fun z9 => (v z9).2.1)))), (b7, .inl (cb 7, 65, .inl (fun z9 => (v z9).2.2)))]) [0, 1, 2, 3, 4, 5, 6, 7, 8] (by decide) rfl) rfl rfl) rfl rfl hl.1 rfl (lv_room (Nat.le_of_ble_eq_true rfl)) dY_forget_30 ⟨Nat.zero_le _, Nat.zero_le _⟩) (fun H locs hP hD hS => ?_)
          have hP : va_P (dC, dI) clS [(r0, .inr (1, [.int 0, .ref b0, .int (nI tn), .ref b1, .ref b2, .ref b3, .int (nI (vn - 1)), .ref b4, .ref b5, .ref b6, .ref b7, .int (nI ko), .int (nI mw)])), (b0, .inl (cb 0, 8, .inl (fun z9 => nI (cl z9)))), (b1, .inl (cb 1, 2040, .inl (fun z9 => nI ((t z9).1 / 256)))), (b2, .inl (cb 2, 2040, .inl (fun z9 => nI ((t z9).1 % 256)))), (b3, .inl (cb 3, 2040, .inl (fun z9 => (t z9).2))), (b4, .inl (cb 4, 65, .inl (fun z9 => nI (((rmS (vn - (n + 1)) (n + 1) v) z9).1 / 256)))), (b5, .inl (cb 5, 65, .inl (fun z9 => nI (((rmS (vn - (n + 1)) (n + 1) v) z9).1 % 256)))), (b6, .inl (cb 6, 65, .inr (.inl (fun z9 => ((rmS (vn - (n + 1)) (n + 1) v) z9).2.1)))), (b7, .inl (cb 7, 65, .inl (fun z9 => ((rmS (vn - (n + 1)) (n + 1) v) z9).2.2)))] H := hP
          have hD : va_D A [(r0, .inr (1, [.int 0, .ref b0, .int (nI tn), .ref b1, .ref b2, .ref b3, .int (nI (vn - 1)), .ref b4, .ref b5, .ref b6, .ref b7, .int (nI ko), .int (nI mw)])), (b0, .inl (cb 0, 8, .inl (fun z9 => nI (cl z9)))), (b1, .inl (cb 1, 2040, .inl (fun z9 => nI ((t z9).1 / 256)))), (b2, .inl (cb 2, 2040, .inl (fun z9 => nI ((t z9).1 % 256)))), (b3, .inl (cb 3, 2040, .inl (fun z9 => (t z9).2))), (b4, .inl (cb 4, 65, .inl (fun z9 => nI (((rmS (vn - (n + 1)) (n + 1) v) z9).1 / 256)))), (b5, .inl (cb 5, 65, .inl (fun z9 => nI (((rmS (vn - (n + 1)) (n + 1) v) z9).1 % 256)))), (b6, .inl (cb 6, 65, .inr (.inl (fun z9 => ((rmS (vn - (n + 1)) (n + 1) v) z9).2.1)))), (b7, .inl (cb 7, 65, .inl (fun z9 => ((rmS (vn - (n + 1)) (n + 1) v) z9).2.2)))] := hD
          refine lv_iinc (v := (nI (y + 1))) (lv' := [(2, .int (nI (y + 1))), (0, .ref r0), (1, .int x), (3, .int (nI n))]) hx hb dY_forget_33 hl (k := 2) rfl (nI_1 y) (by decide) rfl (fun ls hl => ?_)
          refine lv_iinc (v := (dN n)) (lv' := [(3, .int (dN n)), (2, .int (nI (y + 1))), (0, .ref r0), (1, .int x)]) hx hb dY_forget_36 hl (k := 3) rfl (dN_dec n) (by decide) rfl (fun ls hl => ?_)
          refine lv_goto (tgt := 14) hx hb dY_forget_39 (by decide) ?_
          exact ih (vn - 1) (y + 1) (rmS (vn - (n + 1)) (n + 1) v) (by omega) (by omega) (rmS_keys hv (by omega)) (by rw [← hk9]; simp only [fgM]; rw [if_pos c_25]) _ _ hP hD hS ls (lv_sub hl [2, 3, 1, 0] rfl)
  exact loop wn wn 0 w (Nat.le_refl _) hwn hw rfl _ _ hP hD hS ls (lv_sub hl [2, 3, 1, 0] rfl)
end
