def dcl3 : List Cond := [.declares ⟨"java/lang/RuntimeException", "<init>", "(Ljava/lang/String;)V"⟩, .declares ⟨"java/lang/Exception", "<init>", "(Ljava/lang/String;)V"⟩, .declares ⟨"java/lang/Throwable", "<init>", "(Ljava/lang/String;)V"⟩]
def Dc (U : State) : Prop := va_Nw (.declares ⟨"java/lang/RuntimeException", "<init>", "(Ljava/lang/String;)V"⟩) U ∧ va_Nw (.declares ⟨"java/lang/Exception", "<init>", "(Ljava/lang/String;)V"⟩) U ∧ va_Nw (.declares ⟨"java/lang/Throwable", "<init>", "(Ljava/lang/String;)V"⟩) U
theorem Dc.same {u U : State} (h : u.vm = U.vm) (q : Dc u) : Dc U := ⟨va_Nw.same rfl h q.1, va_Nw.same rfl h q.2.1, va_Nw.same rfl h q.2.2⟩
theorem Dc.warm {s U : State} (hW : s.WarmedH U.vm) (q : Dc s) : Dc U := ⟨va_Nw.warmD hW q.1, va_Nw.warmD hW q.2.1, va_Nw.warmD hW q.2.2⟩
theorem dc_all {args : Array Value} {s : State} (q : Dc s) : ∀ w ∈ dcl3, w.before args s = true := vx_c (va_Nw.use rfl q.1) (vx_c (va_Nw.use rfl q.2.1) (vx_c (va_Nw.use rfl q.2.2) vx_n))
def Px (As : List Value) (D : va_G) (cl : List vw_C) (tys : List (ClassId × FieldType)) (ws : va_W) (sz : Nat) (own : String) (k : Nat) (tx : String) (sa : Nat) (E : String) : Array Value → State → Prop :=
  va_Pc As (fun U => (U.heap.size = sz ∧ va_P D cl ws U.heap ∧ va_K D cl tys U ∧ va_D (fun _ => True) ws) ∧ vk_R own k tx sa U ∧ (va_Nw (.castable E E) U ∧ Dc U) ∧ vx_Zq Bundle.tN "UNASSIGNED_STACK" Bundle.steD (va_A ws sz) U U.heap ∧ vx_Zq Bundle.tN "SUPPRESSED_SENTINEL" Bundle.listD (va_A ws sz) U U.heap)
theorem Px_blind {As : List Value} {D : va_G} {cl : List vw_C} {tys : List (ClassId × FieldType)} {ws : va_W} {sz : Nat} {own : String} {k : Nat} {tx : String} {sa : Nat} {E : String} : FrameBlind (Px As D cl tys ws sz own k tx sa E) := fun a U g mk q => by
  obtain ⟨q0, ⟨q1, qP, qK, qD⟩, q2, q3, q4, q5⟩ := q
  exact ⟨q0, ⟨q1, qP, va_K.moved (u := U) (U := U.calling g mk a) (Vm.Alike.refl U.vm) qK, qD⟩, vk_R.same rfl q2, ⟨va_Nw.same rfl rfl q3.1, Dc.same rfl q3.2⟩, vx_Zq.moved (u := U) (U := U.calling g mk a) (Vm.Alike.refl U.vm) q4, vx_Zq.moved (u := U) (U := U.calling g mk a) (Vm.Alike.refl U.vm) q5⟩
def Qn (ws : va_W) (sz : Nat) : Array Value → State → Outcome → State → Prop := va_Qi (fun (_ : Int32) (_ : Unit) => False) (fun _ _ => True) (va_A ws sz)
def Xc (D : va_G) (cl : List vw_C) (ws : va_W) (sz : Nat) (E : String) : String → State → State → Prop := vx_X (fun (_ : Unit) => True) (fun E' _ t => E' = E ∧ va_P D cl ws t.heap ∧ va_D (va_A ws sz) ws) (va_A ws sz)
theorem th_x {s : State} {D : va_G} {cl : List vw_C} {ws : va_W} {E : String} (hP : va_P D cl ws s.heap) (hD : va_D (va_A ws s.heap.size) ws) :
    ∀ t : State, s.vm.Alike t.vm → s.heap.size ≤ t.heap.size → (∀ q : Nat, q < s.heap.size → t.heap[q]? = s.heap[q]?) → Xc D cl ws s.heap.size E E s t := by
  intro t _ hz hk
  exact ⟨(), trivial, ⟨rfl, hP.kept (fun k q hq => hk q.1 (hP k q hq).lt), hD⟩, hz, fun q hq _ => hk q hq⟩
theorem isA_y {a : Nat} (h : a < 8) : isA (nI a) = true := by
  have h8 : (8 : Int32) = nI 8 := rfl
  simp [isA, nI_pos (show a < 2 ^ 31 by omega), h8, nI_ge h (by decide)]
theorem isS_y {q : Nat} (h1 : 1 ≤ q) (h : q < 256) : isS (nI q) = true := by
  have e1 : ¬ nI q < 1 := by have h9 : (1 : Int32) = nI 1 := rfl; rw [h9]; exact nI_nlt h1 (by omega)
  have e2 : ¬ (255 : Int32) < nI q := by have h9 : (255 : Int32) = nI 255 := rfl; rw [h9]; exact nI_nlt (by omega) (by decide)
  simp [isS, e1, e2]
def nxC (g : Int64) : Option Nat → Nat
  | none => 0
  | some b => by_ g b + 1
def wtC (g : Int64) (w : WF) (wn : Nat) (x y : Int32) : Int32 := if bad wn 4 x y = true then 0 else if y = 0 then nI ((w x.toNatClampNeg).1 / 256) else if y = 1 then nI ((w x.toNatClampNeg).1 % 256) else if y = 2 then (w x.toNatClampNeg).2.2 else if y = 3 then oI (lk g (w x.toNatClampNeg).1 (w x.toNatClampNeg).2.1) else nI (nxC g (lk g (w x.toNatClampNeg).1 (w x.toNatClampNeg).2.1))
