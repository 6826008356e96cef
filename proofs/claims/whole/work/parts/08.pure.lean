theorem nI_and255 (k : Nat) : nI k &&& 255 = nI (k % 256) := by
  have h : (255 : Int32) = nI 255 := by decide +kernel
  rw [h, nx_and]
  congr 1
  exact Nat.and_two_pow_sub_one_eq_mod k 8
theorem lN_uN (y : Int64) : lN (uN y) = y := by
  apply Int64.toBitVec_inj.1
  show BitVec.ofNat 64 y.toBitVec.toNat = y.toBitVec
  simp
theorem uN_lN {n : Nat} (h : n < 18446744073709551616) : uN (lN n) = n := by
  show (BitVec.ofNat 64 n).toNat = n
  rw [BitVec.toNat_ofNat]
  exact Nat.mod_eq_of_lt h
def by_ (c : Int64) (a : Nat) : Nat := uN c / 2 ^ (8 * a) % 256
theorem by_lt (c : Int64) (a : Nat) : by_ c a < 256 := Nat.mod_lt _ (by decide)
theorem by_eq (c : Int64) {a : Nat} (ha : a < 8) : ((c.toUInt64 >>> ((nI (8 * a)).toInt64.toUInt64 &&& Int64.toUInt64 63)).toInt64).toInt32 &&& 255 = nI (by_ c a) := by
  have h1 := uN_sk c (k := 8 * a) (by omega)
  rw [← lN_uN ((c.toUInt64 >>> ((nI (8 * a)).toInt64.toUInt64 &&& Int64.toUInt64 63)).toInt64), h1, lN_i, nI_and255]
  rfl
theorem by_up (g : Int64) {a b : Nat} (ha : a < 8) (hb : b < 8) (h : by_ g a < 255) : by_ (g + lN (2 ^ (8 * a))) b = if b = a then by_ g a + 1 else by_ g b := by
  have hx := uN_lt g
  have h2 : uN (g + lN (2 ^ (8 * a))) = (uN g + 2 ^ (8 * a)) % 18446744073709551616 := by
    rw [uN_add, uN_lN]
    exact Nat.lt_of_lt_of_le (Nat.pow_lt_pow_right (by decide) (by omega : 8 * a < 64)) (by decide)
  unfold by_ at h ⊢
  rw [h2]
  generalize uN g = x at hx h ⊢
  rcases (show a = 0 ∨ a = 1 ∨ a = 2 ∨ a = 3 ∨ a = 4 ∨ a = 5 ∨ a = 6 ∨ a = 7 by omega) with rfl | rfl | rfl | rfl | rfl | rfl | rfl | rfl <;>
  rcases (show b = 0 ∨ b = 1 ∨ b = 2 ∨ b = 3 ∨ b = 4 ∨ b = 5 ∨ b = 6 ∨ b = 7 by omega) with rfl | rfl | rfl | rfl | rfl | rfl | rfl | rfl <;>
  simp only [Nat.reduceMul, Nat.reducePow, Nat.reduceEqDiff, if_true, if_false, Nat.mul_zero, Nat.pow_zero, Nat.div_one] at h ⊢ <;> omega
abbrev WF : Type := Nat → Nat × Int64 × Int32
abbrev TF : Type := Nat → Nat × Int32
def oI : Option Nat → Int32
  | none => -1
  | some a => nI a
theorem oI_some (a : Nat) : oI (some a) = nI a := rfl
theorem oI_none : oI none = -1 := rfl
theorem nI_m1 {a : Nat} (h : a < 2 ^ 31) : ¬ nI a = -1 := by
  intro q
  have h1 := congrArg Int32.toInt q
  rw [nI_toInt h, show (-1 : Int32).toInt = -1 by decide] at h1
  omega
theorem oI_m1 {o : Option Nat} (h : ∀ a, o = some a → a < 2 ^ 31) : oI o = -1 ↔ o = none := by
  cases o with
  | none => exact ⟨fun _ => rfl, fun _ => rfl⟩
  | some a => exact ⟨fun q => absurd q (nI_m1 (h a rfl)), fun q => by cases q⟩
def lkS (g c : Int64) (own : Nat) : Nat → Nat → Option Nat
  | 0, _ => none
  | n + 1, a => if a ≠ own ∧ by_ g a < by_ c a then some a else lkS g c own n (a + 1)
def lk (g : Int64) (k : Nat) (c : Int64) : Option Nat := if k % 256 = by_ g (k / 256) + 1 then lkS g c (k / 256) 8 0 else some (k / 256)
theorem lkS_lt {g c : Int64} {own : Nat} : ∀ {n a b : Nat}, lkS g c own n a = some b → b < a + n := by
  intro n
  induction n with
  | zero => intro a b h; simp [lkS] at h
  | succ n ih =>
    intro a b h
    simp only [lkS] at h
    split at h
    · cases h; omega
    · have := ih h; omega
theorem lk_lt {g : Int64} {k : Nat} {c : Int64} {b : Nat} (hk : k < 2048) (h : lk g k c = some b) : b < 8 := by
  unfold lk at h
  split at h
  · have := lkS_lt h; omega
  · cases h; omega
def knS (w : WF) (k : Nat) : Nat → Nat → Bool
  | 0, _ => false
  | n + 1, j => if (w j).1 = k then true else knS w k n (j + 1)
def kn (g : Int64) (w : WF) (wn : Nat) (k : Nat) : Bool := if k % 256 < by_ g (k / 256) + 1 then true else knS w k wn 0
def bI (b : Bool) : Int32 := if b then 1 else 0
theorem bI_0 {b : Bool} : bI b = 0 ↔ b = false := by cases b <;> decide
theorem bI_n (b : Bool) : narrow .boolean (.int (bI b)) = .int (bI b) := by cases b <;> rfl
def cn (tn : Nat) (g : Int64) (k : Nat) (c : Int64) : Bool := decide (tn < 512) && (lk g k c).isNone
def fs (tn : Nat) (g : Int64) (w : WF) : Nat → Nat → Option Nat
  | 0, _ => none
  | n + 1, j => if cn tn g (w j).1 (w j).2.1 = true then some j else fs tn g w n (j + 1)
theorem fs_lt {tn : Nat} {g : Int64} {w : WF} : ∀ {n a b : Nat}, fs tn g w n a = some b → b < a + n := by
  intro n
  induction n with
  | zero => intro a b h; simp [fs] at h
  | succ n ih =>
    intro a b h
    simp only [fs] at h
    split at h
    · cases h; omega
    · have := ih h; omega
def ahS (g c : Int64) : Nat → Nat → Nat → Nat
  | 0, _, x => x
  | n + 1, a, x => ahS g c n (a + 1) (x + (by_ g a - by_ c a))
def nxS (t : TF) (c : Int64) : Nat → Nat → Option Nat
  | 0, _ => none
  | n + 1, j => if by_ c ((t j).1 / 256) < (t j).1 % 256 then some j else nxS t c n (j + 1)
def cmS (g c : Int64) : Nat → Nat → Bool → Bool → Bool × Bool
  | 0, _, x, y => (x, y)
  | n + 1, a, x, y => cmS g c n (a + 1) (x || decide (by_ c a < by_ g a)) (y || decide (by_ g a < by_ c a))
def rmS : Nat → Nat → WF → WF
  | 0, _, w => w
  | n + 1, j, w => rmS n (j + 1) (va_up w (j - 1) (w j))
def inS (k : Nat) : Nat → WF → WF × Nat
  | 0, w => (w, 0)
  | j + 1, w => if k < (w j).1 then inS k j (va_up w (j + 1) (w j)) else (w, j + 1)
def fgS (act : Int32) : Nat → Nat → Nat → WF → WF × Nat
  | 0, _, kept, w => (w, kept)
  | n + 1, j, kept, w => if nI ((w j).1 / 256) = act then fgS act n (j + 1) kept w else fgS act n (j + 1) (kept + 1) (va_up w kept (w j))
def isA (x : Int32) : Bool := !decide (x < 0) && !decide ((8 : Int32) ≤ x)
def isS (x : Int32) : Bool := !decide (x < 1) && !decide ((255 : Int32) < x)
theorem isA_nI {x : Int32} (h : isA x = true) : ∃ a : Nat, a < 8 ∧ x = nI a := by
  simp only [isA, Bool.and_eq_true, Bool.not_eq_true', decide_eq_false_iff_not] at h
  obtain ⟨j, hj, e⟩ := nI_of h.1
  refine ⟨j, ?_, e⟩
  rcases Nat.lt_or_ge j 8 with q | q
  · exact q
  · exact absurd (by rw [e]; exact nI_le q hj) h.2
theorem isS_nI {x : Int32} (h : isS x = true) : ∃ a : Nat, 1 ≤ a ∧ a < 256 ∧ x = nI a := by
  simp only [isS, Bool.and_eq_true, Bool.not_eq_true', decide_eq_false_iff_not] at h
  have h0 : ¬ x < 0 := by
    intro q
    apply h.1
    rw [Int32.lt_iff_toInt_lt] at q ⊢
    have : (0 : Int32).toInt = 0 := by decide
    have : (1 : Int32).toInt = 1 := by decide
    omega
  obtain ⟨j, hj, e⟩ := nI_of h0
  refine ⟨j, ?_, ?_, e⟩
  · rcases Nat.lt_or_ge j 1 with q | q
    · exact absurd (by rw [e]; exact nI_lt q (by decide)) h.1
    · exact q
  · rcases Nat.lt_or_ge j 256 with q | q
    · exact q
    · exact absurd (by rw [e]; exact nI_lt (show 255 < j by omega) hj) h.2
theorem nI_or (a b : Nat) : nI a ||| nI b = nI (a ||| b) := by
  apply Int32.toBitVec_inj.1
  show BitVec.ofNat 32 a ||| BitVec.ofNat 32 b = BitVec.ofNat 32 (a ||| b)
  apply BitVec.eq_of_getLsbD_eq
  intro i hi
  simp [hi]
theorem nI_key {a q : Nat} (h : q < 256) : nI (a * 256) ||| nI q = nI (a * 256 + q) := by
  rw [nI_or]
  congr 1
  rw [show a * 256 = a <<< 8 by rw [Nat.shiftLeft_eq]]
  exact (Nat.shiftLeft_add_eq_or_of_lt (i := 8) h a).symm
def knw (g : Int64) (w : WF) (wn : Nat) (x y : Int32) : Bool := isA x && (isS y && kn g w wn (x.toNatClampNeg * 256 + y.toNatClampNeg))
def lok (tn wn ko mw : Nat) (x : Int32) : Int32 := if x = 0 then nI tn else if x = 1 then nI wn else if x = 2 then nI ko else if x = 3 then nI mw else -1
def cmR (q : Bool × Bool) : Int32 := if q.1 then (if q.2 then 3 else 1) else (if q.2 then 2 else 0)
theorem mx_sub {a b : Nat} (ha : a < 2 ^ 30) (hb : b < 2 ^ 30) : (if (0 : Int32) < nI a - nI b then nI a - nI b else 0) = nI (a - b) := by
  have h := pk_sub_toInt ha hb
  by_cases q : b ≤ a
  · rw [pk_sub q]
    by_cases q2 : a - b = 0
    · rw [q2]; decide
    · rw [if_pos]
      rw [Int32.lt_iff_toInt_lt, nI_toInt (by omega)]
      have : (0 : Int32).toInt = 0 := by decide
      omega
  · rw [if_neg]
    · rw [show a - b = 0 by omega]; rfl
    · rw [Int32.lt_iff_toInt_lt, h]
      have : (0 : Int32).toInt = 0 := by decide
      omega
def stn (x : Int32) : Nat := (x.toInt + 1).toNat
def nxt (t : TF) (tn : Nat) (c : Int64) (x : Int32) : Option Nat := if x < nI tn then nxS t c (tn - stn x) (stn x) else none
theorem stn_le {x : Int32} {tn : Nat} (h : x < nI tn) (ht : tn < 2 ^ 31) : stn x ≤ tn := by
  rw [Int32.lt_iff_toInt_lt, nI_toInt ht] at h
  unfold stn
  omega
theorem stn_eq {x : Int32} {tn : Nat} (h : x < nI tn) (ht : tn < 2 ^ 31) : (if x < -1 then -1 else x) + 1 = nI (stn x) := by
  have hm : (-1 : Int32).toInt = -1 := by decide
  rw [Int32.lt_iff_toInt_lt, nI_toInt ht] at h
  by_cases q : x < -1
  · rw [if_pos q]
    rw [Int32.lt_iff_toInt_lt, hm] at q
    rw [show stn x = 0 by unfold stn; omega]
    decide
  · rw [if_neg q]
    rw [Int32.lt_iff_toInt_lt, hm] at q
    by_cases q2 : x = -1
    · subst q2; decide
    · have q3 : ¬ x < 0 := by
        rw [Int32.lt_iff_toInt_lt]
        have : (0 : Int32).toInt = 0 := by decide
        have : ¬ x.toInt = -1 := fun z => q2 (Int32.toInt_inj.mp (z.trans hm.symm))
        omega
      obtain ⟨j, hj, rfl⟩ := nI_of q3
      rw [nI_1]
      congr 1
      unfold stn
      rw [nI_toInt hj]
      omega
theorem up_k (w : WF) (q : Nat) (x : Nat × Int64 × Int32) : upd (fun j => nI (w j).1) q (nI x.1) = fun j => nI (va_up w q x j).1 := by
  funext j; unfold upd va_up; split <;> rfl
theorem up_c (w : WF) (q : Nat) (x : Nat × Int64 × Int32) : vp_updL (fun j => (w j).2.1) q x.2.1 = fun j => (va_up w q x j).2.1 := by
  funext j; unfold vp_updL va_up; split <;> rfl
theorem up_l (w : WF) (q : Nat) (x : Nat × Int64 × Int32) : upd (fun j => (w j).2.2) q x.2.2 = fun j => (va_up w q x j).2.2 := by
  funext j; unfold upd va_up; split <;> rfl
theorem ut_k (t : TF) (q : Nat) (x : Nat × Int32) : upd (fun j => nI (t j).1) q (nI x.1) = fun j => nI (va_up t q x j).1 := by
  funext j; unfold upd va_up; split <;> rfl
theorem ut_l (t : TF) (q : Nat) (x : Nat × Int32) : upd (fun j => (t j).2) q x.2 = fun j => (va_up t q x j).2 := by
  funext j; unfold upd va_up; split <;> rfl
theorem one_shl {k : Nat} (hk : k < 64) : (1 : Int64) <<< ((nI k).toInt64 &&& 63) = lN (2 ^ k) := by
  have h := wb_shl 1 hk
  rw [Nat.one_mul] at h
  exact h
theorem mx_nI {a b : Nat} (ha : a < 2 ^ 31) (hb : b < 2 ^ 31) : (if nI a < nI b then nI b else nI a) = nI (max a b) := by
  by_cases q : a < b
  · rw [if_pos (nI_lt q hb), Nat.max_eq_right (by omega)]
  · rw [if_neg (nI_nlt (by omega) ha), Nat.max_eq_left (by omega)]
theorem rmS_eq : ∀ (n j : Nat) (w : WF) (i : Nat), 1 ≤ j → rmS n j w i = if j ≤ i + 1 ∧ i + 1 < j + n then w (i + 1) else w i := by
  intro n
  induction n with
  | zero => intro j w i _; rw [if_neg (by omega)]; rfl
  | succ n ih =>
    intro j w i hj
    simp only [rmS]
    rw [ih (j + 1) _ i (by omega)]
    by_cases q : j + 1 ≤ i + 1 ∧ i + 1 < j + 1 + n
    · rw [if_pos q, if_pos (by omega), va_up_ne _ _ (by omega)]
    · rw [if_neg q]
      by_cases q2 : i + 1 = j
      · rw [if_pos (by omega), show j - 1 = i by omega, va_up_self, q2]
      · rw [if_neg (by omega), va_up_ne _ _ (by omega)]
def ltG (g : Int64) (k : Nat) : Int64 := g + lN (2 ^ (8 * (k / 256)))
abbrev CS : Type := TF × Nat × WF × Nat × Int64
def lt1 (t : TF) (tn : Nat) (w : WF) (wn : Nat) (g : Int64) (q : Nat) : CS := (va_up t tn ((w q).1, (w q).2.2), tn + 1, rmS (wn - (q + 1)) (q + 1) w, wn - 1, ltG g (w q).1)
def ltS : Nat → CS → Nat → CS × Nat
  | 0, u, x => (u, x)
  | n + 1, u, x => match fs u.2.1 u.2.2.2.2 u.2.2.1 u.2.2.2.1 0 with
    | none => (u, x)
    | some q => ltS n (lt1 u.1 u.2.1 u.2.2.1 u.2.2.2.1 u.2.2.2.2 q) (x + 1)
theorem fs_tn {tn : Nat} {g : Int64} {w : WF} : ∀ {n a b : Nat}, fs tn g w n a = some b → tn < 512 := by
  intro n
  induction n with
  | zero => intro a b h; simp [fs] at h
  | succ n ih =>
    intro a b h
    simp only [fs] at h
    split at h
    · rename_i q
      simp only [cn, Bool.and_eq_true, decide_eq_true_eq] at q
      exact q.1
    · exact ih h
theorem rmS_keys {w : WF} {wn q : Nat} (hw : ∀ j, j < wn → (w j).1 < 2048) (hq : q < wn) : ∀ j, j < wn - 1 → (rmS (wn - (q + 1)) (q + 1) w j).1 < 2048 := by
  intro j hj
  rw [rmS_eq _ _ _ _ (by omega)]
  split
  · exact hw _ (by omega)
  · exact hw _ (by omega)
theorem up_keys {w : WF} {wn a b : Nat} (hw : ∀ j, j < wn → (w j).1 < 2048) (hb : b < wn) : ∀ j, j < wn → (va_up w a (w b) j).1 < 2048 := by
  intro j hj
  by_cases q : j = a
  · subst q; rw [va_up_self]; exact hw _ hb
  · rw [va_up_ne _ _ q]; exact hw _ hj
theorem pt_eq (c : Int64) {a : Nat} (ha : a < 8) : ((c >>> ((nI (8 * a)).toInt64 &&& 63)) &&& 255).toInt32 = nI (by_ c a) := by
  have hD : ∀ a, a < 8 → (((nI (8 * a)).toInt64 &&& 63).toBitVec.smod 64).toNat = 8 * a := by decide +kernel
  have h255 : ∀ i, i < 64 → ((255 : Int64).toBitVec).getLsbD i = decide (i < 8) := by decide +kernel
  have h1 : (c >>> ((nI (8 * a)).toInt64 &&& 63)) &&& 255 = lN (by_ c a) := by
    apply Int64.toBitVec_inj.1
    rw [Int64.toBitVec_and, Int64.toBitVec_shiftRight]
    show (c.toBitVec.sshiftRight (((nI (8 * a)).toInt64 &&& 63).toBitVec.smod 64).toNat) &&& (255 : Int64).toBitVec = BitVec.ofNat 64 (uN c / 2 ^ (8 * a) % 256)
    rw [hD a ha]
    apply BitVec.eq_of_getLsbD_eq
    intro i hi
    rw [BitVec.getLsbD_and, h255 i hi, BitVec.getLsbD_sshiftRight, BitVec.getLsbD_ofNat]
    by_cases q : i < 8
    · have e1 : (uN c / 2 ^ (8 * a) % 256).testBit i = c.toBitVec.getLsbD (8 * a + i) := by
        rw [show (256 : Nat) = 2 ^ 8 by rfl, Nat.testBit_mod_two_pow, Nat.testBit_div_two_pow]
        simp only [q, decide_true, Bool.true_and]
        rw [Nat.add_comm]
        rfl
      rw [e1]
      simp [q, hi, show 8 * a + i < 64 by omega]
    · have e1 : (uN c / 2 ^ (8 * a) % 256).testBit i = false := by
        rw [show (256 : Nat) = 2 ^ 8 by rfl, Nat.testBit_mod_two_pow]
        simp [q]
      rw [e1]
      simp [q]
  rw [h1, lN_i]
