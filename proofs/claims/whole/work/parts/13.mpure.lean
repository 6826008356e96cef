def dN : Nat → Int32
  | 0 => -1
  | n + 1 => nI n
theorem dN_dec (n : Nat) : nI n + (-1) = dN n := by
  cases n with
  | zero => decide
  | succ n => exact pk_m1 n
theorem dN_sub (n : Nat) : nI n - 1 = dN n := by
  cases n with
  | zero => decide
  | succ n => exact nI_pred n
def lkB (cl : Nat → Nat) (c : Int64) (act : Nat) : Nat → Option Nat → Option Nat
  | 0, f => f
  | n + 1, f => lkB cl c act n (if n ≠ act ∧ cl n < by_ c n then some n else f)
theorem lkB_lt {cl : Nat → Nat} {c : Int64} {act : Nat} : ∀ {n : Nat} {f : Option Nat} {b : Nat}, n ≤ 8 → (∀ x, f = some x → x < 8) → lkB cl c act n f = some b → b < 8 := by
  intro n
  induction n with
  | zero => intro f b _ hf h; exact hf b h
  | succ n ih =>
    intro f b hn hf h
    refine ih (by omega) (fun x hx => ?_) h
    split at hx
    · cases hx; omega
    · exact hf x hx
theorem oI_ge {o : Option Nat} (h : ∀ a, o = some a → a < 2 ^ 31) : (0 : Int32) ≤ oI o ↔ ¬ o = none := by
  cases o with
  | none => exact ⟨fun q => absurd q (by decide), fun q => absurd rfl q⟩
  | some a => exact ⟨fun _ q => by (cases q), fun _ => nI_pos' (h a rfl)⟩
def cnM (cl : Nat → Nat) (act q : Nat) (c : Int64) : Bool := decide (q = cl act + 1) && (lkB cl c act 8 none).isNone
def kmS (w : WF) (act q : Nat) : Nat → Nat → Bool → Bool
  | 0, _, b => b
  | n + 1, j, b => kmS w act q n (j + 1) (b || (decide ((w j).1 / 256 = act) && decide ((w j).1 % 256 = q)))
def knM (cl : Nat → Nat) (w : WF) (wn act q : Nat) : Bool := kmS w act q wn 0 (decide (q ≤ cl act))
def rdS (cl : Nat → Nat) (w : WF) : Nat → Option Nat → Option Nat
  | 0, f => f
  | n + 1, f => rdS cl w n (if cnM cl ((w n).1 / 256) ((w n).1 % 256) (w n).2.1 = true then some n else f)
theorem rdS_lt {cl : Nat → Nat} {w : WF} : ∀ {n m : Nat} {f : Option Nat} {b : Nat}, n ≤ m → (∀ x, f = some x → x < m) → rdS cl w n f = some b → b < m := by
  intro n
  induction n with
  | zero => intro m f b _ hf h; exact hf b h
  | succ n ih =>
    intro m f b hn hf h
    refine ih (by omega) (fun x hx => ?_) h
    split at hx
    · cases hx; omega
    · exact hf x hx
def zcS : Nat → Nat → (Nat → Nat) → Nat → Nat
  | 0, _, cl => cl
  | n + 1, a, cl => zcS n (a + 1) (va_up cl a 0)
def lcM (t : TF) (c : Int64) (j : Nat) : Bool := decide (by_ c ((t j).1 / 256) < (t j).1 % 256)
def ahM (t : TF) (c : Int64) : Nat → Nat → Nat → Nat
  | 0, _, x => x
  | n + 1, j, x => ahM t c n (j + 1) (x + if lcM t c j = true then 1 else 0)
def nxM (t : TF) (c : Int64) (i : Int32) : Nat → Nat → Option Nat
  | 0, _ => none
  | n + 1, j => if i < nI j ∧ lcM t c j = true then some j else nxM t c i n (j + 1)
def cmM (cl : Nat → Nat) (c : Int64) : Nat → Nat → Bool → Bool → Bool × Bool
  | 0, _, x, y => (x, y)
  | n + 1, a, x, y => cmM cl c n (a + 1) (x || decide (cl a < by_ c a)) (y || decide (by_ c a < cl a))
def ckM (cl : Nat → Nat) : Nat → Int64 → Int64
  | 0, v => v
  | n + 1, v => ckM cl n ((v <<< ((8 : Int32).toInt64 &&& 63)) ||| (nI (cl n)).toInt64)
def fgM (act : Int32) : Nat → Nat → Nat → WF → WF × Nat × Nat
  | 0, wn, x, w => (w, wn, x)
  | n + 1, wn, x, w => if nI ((w n).1 / 256) = act then fgM act n (wn - 1) (x + 1) (rmS (wn - (n + 1)) (n + 1) w) else fgM act n wn x w
abbrev MS : Type := TF × Nat × WF × Nat × (Nat → Nat)
def lm1 (u : MS) (q : Nat) : MS := (va_up u.1 u.2.1 ((u.2.2.1 q).1 / 256 * 256 + (u.2.2.1 q).1 % 256, (u.2.2.1 q).2.2), u.2.1 + 1, rmS (u.2.2.2.1 - (q + 1)) (q + 1) u.2.2.1, u.2.2.2.1 - 1, va_up u.2.2.2.2 ((u.2.2.1 q).1 / 256) ((u.2.2.1 q).1 % 256))
def ltM : Nat → MS → MS
  | 0, u => u
  | n + 1, u => match rdS u.2.2.2.2 u.2.2.1 u.2.2.2.1 none with
    | none => u
    | some q => ltM n (lm1 u q)
theorem um_a (w : WF) (q : Nat) (x : Nat × Int64 × Int32) : upd (fun j => nI ((w j).1 / 256)) q (nI (x.1 / 256)) = fun j => nI ((va_up w q x j).1 / 256) := by
  funext j; unfold upd va_up; split <;> rfl
theorem um_s (w : WF) (q : Nat) (x : Nat × Int64 × Int32) : upd (fun j => nI ((w j).1 % 256)) q (nI (x.1 % 256)) = fun j => nI ((va_up w q x j).1 % 256) := by
  funext j; unfold upd va_up; split <;> rfl
theorem ut_a (t : TF) (q : Nat) (x : Nat × Int32) : upd (fun j => nI ((t j).1 / 256)) q (nI (x.1 / 256)) = fun j => nI ((va_up t q x j).1 / 256) := by
  funext j; unfold upd va_up; split <;> rfl
theorem ut_s (t : TF) (q : Nat) (x : Nat × Int32) : upd (fun j => nI ((t j).1 % 256)) q (nI (x.1 % 256)) = fun j => nI ((va_up t q x j).1 % 256) := by
  funext j; unfold upd va_up; split <;> rfl
theorem uc_ (cl : Nat → Nat) (q x : Nat) : upd (fun j => nI (cl j)) q (nI x) = fun j => nI (va_up cl q x j) := by
  funext j; unfold upd va_up; split <;> rfl
theorem key_d {a q : Nat} (h : q < 256) : (a * 256 + q) / 256 = a := by omega
theorem key_m {a q : Nat} (h : q < 256) : (a * 256 + q) % 256 = q := by omega
section KB2
variable {p : Program} {l : Launch} {e : Env} {R : Room} {s : State} {m : MethodId} {args : Array Value} {below : List Frame} {meth : Method} {c : Code} {H : Heap} {locs : List Loc} {cells slots : Nat} {Q : State → Prop}
variable {pc : Nat} {ls : Array Slot} {rest st0 : List Value}
def QmL (r : Int64) (D : va_G) (cl : List vw_C) (ws w1 : va_W) (sz : Nat) : Array Value → State → Outcome → State → Prop := va_Ql (fun r' (_ : Unit) => r' = r) (Qw D cl ws w1 sz) (va_A ws sz)
theorem mt_l {D : va_G} {cl : List vw_C} {ws wc wr w1 : va_W} {A : Nat → Prop} {H0 : Heap} {a : Array Value} {mc ms : Nat} {r : Int64} (isC isR : List Nat) (hP : va_P D cl ws H) (hD : va_D A ws) (hS : va_S A H0 H locs) (hA : ∀ q, H0.size ≤ q → A q) (hC : isC.map (fun i => ws[i]?) = wc.map some) (hR : isR.map (fun i => ws[i]?) = wr.map some) (hn : va_nd isR = true) (hdis : ∀ i ∈ isR, i ∉ isC)
    (hr : va_Run p l e R s m args below meth c H locs cells slots mc ms (F0 m pc ls st0) rest (QmL r D cl wc w1 H.size a) (va_A wc H.size))
    (kk : ∀ (H1 : Heap) (locs1 : List Loc), va_P D cl (wr ++ w1) H1 → va_D A (wr ++ w1) → va_S A H0 H1 locs1 → W p l e R s m args below meth c H1 locs1 (cells + mc) (slots + ms) Q (F0 m (pc + 3) ls (.long r :: rest))) : W p l e R s m args below meth c H locs cells slots Q (F0 m pc ls st0) := by
  have hF := va_free hD hS hA isC hC
  refine va_calll hr hS (fun q _ h => hF q h) hF (fun r' u t H1 locs1 ht hvm hw hB hz1 hk1 hS1 => ?_)
  obtain ⟨hP1, hD1⟩ := hB
  rw [ht] at hP1
  obtain ⟨hP2, hD2⟩ := va_join hP hD isC isR hC hR hn hdis hk1 hF hP1 hD1
  rw [hw]
  exact kk H1 locs1 hP2 hD2 hS1
theorem ml_ret {cc : ByteArray} {D : va_G} {cl : List vw_C} {ws w1 : va_W} {A : Nat → Prop} {v r : Int64} (hx : p.tables.exec = Jvm.exec) (hb : c.code = cc) (hr : meth.sig.returnType = some .long) (hlocks : meth.locks = false) (hv : v = r) (hAe : A = va_A ws s.heap.size) (hP : va_P D cl w1 H) (hD : va_D A w1) (hS : va_S A s.heap H locs) (hd : decode cc pc = .ok (.lreturn, 1)) :
    W p l e R s m args below meth c H locs cells slots (MQ below (QmL r D cl ws w1 s.heap.size) args s cells slots A) (F0 m pc ls [.long v]) := by
  subst hAe
  exact W.lret hx hb hr (fun t ht _ => ⟨⟨v, (), rfl, hv, by rw [ht]; exact hP, hD⟩, hS.F ht⟩) hS.2.2 hd
theorem mz_ret {cc : ByteArray} {D : va_G} {cl : List vw_C} {ws w1 : va_W} {A : Nat → Prop} {v r : Int32} (hx : p.tables.exec = Jvm.exec) (hb : c.code = cc) (hr : meth.sig.returnType = some .boolean) (hlocks : meth.locks = false) (hn : narrow .boolean (.int v) = .int v) (hv : v = r) (hAe : A = va_A ws s.heap.size) (hP : va_P D cl w1 H) (hD : va_D A w1) (hS : va_S A s.heap H locs) (hd : decode cc pc = .ok (.ireturn, 1)) :
    W p l e R s m args below meth c H locs cells slots (MQ below (QmI r D cl ws w1 s.heap.size) args s cells slots A) (F0 m pc ls [.int v]) := by
  subst hAe
  exact W.zret hx hb hr hn (fun t ht _ => ⟨⟨v, (), rfl, hv, by rw [ht]; exact hP, hD⟩, hS.F ht⟩) hS.2.2 hd
end KB2
theorem isS_lo {y : Int32} (h : y ≤ 0) : isS y = false := by
  have : (0 : Int32).toInt = 0 := by decide
  have : (1 : Int32).toInt = 1 := by decide
  have h1 : y < 1 := by
    rw [Int32.le_iff_toInt_le] at h
    rw [Int32.lt_iff_toInt_lt]
    omega
  simp [isS, h1]
theorem isS_hi {y : Int32} (h : (256 : Int32) ≤ y) : isS y = false := by
  have : (256 : Int32).toInt = 256 := by decide
  have : (255 : Int32).toInt = 255 := by decide
  have h1 : (255 : Int32) < y := by
    rw [Int32.le_iff_toInt_le] at h
    rw [Int32.lt_iff_toInt_lt]
    omega
  simp [isS, h1]
theorem isS_in {y : Int32} (h : ¬ y ≤ 0) (h2 : ¬ (256 : Int32) ≤ y) : isS y = true := by
  have : (256 : Int32).toInt = 256 := by decide
  have : (255 : Int32).toInt = 255 := by decide
  have : (0 : Int32).toInt = 0 := by decide
  have : (1 : Int32).toInt = 1 := by decide
  rw [Int32.le_iff_toInt_le] at h h2
  have h1 : ¬ y < 1 := by rw [Int32.lt_iff_toInt_lt]; omega
  have h3 : ¬ (255 : Int32) < y := by rw [Int32.lt_iff_toInt_lt]; omega
  simp [isS, h1, h3]
def kwM (cl : Nat → Nat) (w : WF) (wn : Nat) (x y : Int32) : Bool := isA x && (isS y && knM cl w wn x.toNatClampNeg y.toNatClampNeg)
def bad (tn : Nat) (k x y : Int32) : Bool := decide (x < 0) || (decide (nI tn ≤ x) || (decide (y < 0) || decide (k < y)))
theorem ix_of {x : Int32} {tn : Nat} (h : ¬ x < 0) (h2 : ¬ nI tn ≤ x) (ht : tn < 2 ^ 31) : ∃ j : Nat, j < tn ∧ x = nI j := by
  obtain ⟨j, hj, e⟩ := nI_of h
  refine ⟨j, Nat.lt_of_not_le fun q => h2 (by rw [e]; exact nI_le q hj), e⟩
def trM (t : TF) (tn : Nat) (x y : Int32) : Int32 := if bad tn 2 x y = true then 0 else if y = 0 then nI ((t x.toNatClampNeg).1 / 256) else if y = 1 then nI ((t x.toNatClampNeg).1 % 256) else (t x.toNatClampNeg).2
def lwM (cl : Nat → Nat) (x : Nat × Int64 × Int32) : Option Nat := if cl (x.1 / 256) + 1 < x.1 % 256 then some (x.1 / 256) else lkB cl x.2.1 (x.1 / 256) 8 none
def lwC (cl : Nat → Nat) : Option Nat → Nat
  | none => cl 0 + 1
  | some b => cl b + 1
def wtM (cl : Nat → Nat) (w : WF) (wn : Nat) (x y : Int32) : Int32 := if bad wn 4 x y = true then 0 else if y = 0 then nI ((w x.toNatClampNeg).1 / 256) else if y = 1 then nI ((w x.toNatClampNeg).1 % 256) else if y = 2 then (w x.toNatClampNeg).2.2 else if y = 3 then oI (lwM cl (w x.toNatClampNeg)) else nI (lwC cl (lwM cl (w x.toNatClampNeg)))
def cmQ (q : Bool × Bool) : Int32 := if q.1 then (if q.2 then 3 else 2) else (if q.2 then 1 else 0)
theorem lwM_lt {cl : Nat → Nat} {x : Nat × Int64 × Int32} {b : Nat} (hx : x.1 < 2048) (h : lwM cl x = some b) : b < 8 := by
  unfold lwM at h
  split at h
  · cases h; omega
  · exact lkB_lt (Nat.le_refl _) (fun y hy => by cases hy) h
theorem isA_in {x : Int32} (h : ¬ x < 0) (h2 : ¬ (7 : Int32) < x) : isA x = true := by
  have : (7 : Int32).toInt = 7 := by decide
  have : (8 : Int32).toInt = 8 := by decide
  have h3 : ¬ (8 : Int32) ≤ x := by
    rw [Int32.lt_iff_toInt_lt] at h2
    rw [Int32.le_iff_toInt_le]
    omega
  simp [isA, h, h3]
theorem isS_in2 {y : Int32} (h : ¬ y < 1) (h2 : y ≤ 255) : isS y = true := by
  simp [isS, h, Int32.not_lt.mpr h2]
theorem ins_keys {w : WF} {wn k : Nat} {c : Int64} {b : Int32} (hw : ∀ j, j < wn → (w j).1 < 2048) (hk : k < 2048) : ∀ j, j < wn + 1 → (va_up (inS k wn w).1 (inS k wn w).2 (k, c, b) j).1 < 2048 := by
  have h : ∀ (n : Nat) (v : WF), (∀ j, j < n → (v j).1 < 2048) → ∀ j, j < n + 1 → j ≠ (inS k n v).2 → ((inS k n v).1 j).1 < 2048 := by
    intro n
    induction n with
    | zero => intro v _ j hj hne; exact absurd (show j = 0 by omega) hne
    | succ n ih =>
      intro v hv j hj hne
      by_cases q : k < (v n).1
      · have e : inS k (n + 1) v = inS k n (va_up v (n + 1) (v n)) := by simp only [inS]; rw [if_pos q]
        rw [e] at hne ⊢
        by_cases z : j = n + 1
        · subst z
          have key : ∀ (m : Nat) (u : WF) (i : Nat), m < i → (inS k m u).1 i = u i := by
            intro m
            induction m with
            | zero => intro u i _; rfl
            | succ m ihm =>
              intro u i hi
              by_cases r : k < (u m).1
              · have e2 : inS k (m + 1) u = inS k m (va_up u (m + 1) (u m)) := by simp only [inS]; rw [if_pos r]
                rw [e2, ihm _ i (by omega), va_up_ne _ _ (by omega)]
              · have e2 : inS k (m + 1) u = (u, m + 1) := by simp only [inS]; rw [if_neg r]
                rw [e2]
          rw [key n _ (n + 1) (by omega), va_up_self]
          exact hv n (by omega)
        · exact ih _ (fun i hi => by rw [va_up_ne _ _ (by omega)]; exact hv i (by omega)) j (by omega) hne
      · have e : inS k (n + 1) v = (v, n + 1) := by simp only [inS]; rw [if_neg q]
        rw [e] at hne ⊢
        exact hv j (by have : j ≠ n + 1 := hne; omega)
  intro j hj
  by_cases z : j = (inS k wn w).2
  · rw [z, va_up_self]; exact hk
  · rw [va_up_ne _ _ z]; exact h wn w hw j hj z
