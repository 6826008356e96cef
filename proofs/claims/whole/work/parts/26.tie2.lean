def sm (cl : Nat → Nat) : Nat → Nat
  | 0 => 0
  | n + 1 => cl n * 256 ^ n + sm cl n
theorem nI_l64 {c : Nat} (h : c < 256) : (nI c).toInt64 = lN c := nI_l (by omega)
theorem lN_or256 {n c : Nat} (hc : c < 256) (h : n * 256 + c < 18446744073709551616) : (lN n <<< ((8 : Int32).toInt64 &&& 63)) ||| (nI c).toInt64 = lN (n * 256 + c) := by
  have h8 : (8 : Int32) = nI 8 := rfl
  rw [h8, wb_shl n (by decide : 8 < 64), nI_l64 hc]
  show lN (n * 256) ||| lN c = _
  have e64 : (2 : Nat) ^ 64 = 18446744073709551616 := by decide
  have b1 : n * 256 < 2 ^ 64 := by rw [e64]; exact Nat.lt_of_le_of_lt (Nat.le_add_right _ c) h
  have b2 : c < 2 ^ 64 := by rw [e64]; omega
  rw [wb_or b1 b2]
  refine congrArg lN ?_
  rw [show n * 256 = n <<< 8 by rw [Nat.shiftLeft_eq]]
  exact (Nat.shiftLeft_add_eq_or_of_lt (i := 8) hc n).symm
theorem ckM_sm {cl : Nat → Nat} (hcl : ∀ a, a < 8 → cl a < 256) : ∀ (n m : Nat), n ≤ 8 → m < 256 ^ (8 - n) → ckM cl n (lN m) = lN (m * 256 ^ n + sm cl n) := by
  intro n
  induction n with
  | zero => intro m _ _; simp [ckM, sm]
  | succ n ih =>
    intro m hn hm
    have hc := hcl n (by omega)
    have hp : 256 ^ (8 - (n + 1)) * 256 = 256 ^ (8 - n) := by rw [← Nat.pow_succ]; congr 1; omega
    have hm2 : m * 256 + cl n < 256 ^ (8 - n) := by omega
    have hle : 256 ^ (8 - n) ≤ 256 ^ 8 := Nat.pow_le_pow_right (by decide) (by omega)
    have h8 : (256 : Nat) ^ 8 = 18446744073709551616 := by decide
    rw [ckM, lN_or256 hc (by omega), ih _ (by omega) hm2]
    refine congrArg lN ?_
    rw [sm, Nat.pow_succ, Nat.add_mul, Nat.mul_assoc, Nat.mul_comm 256 (256 ^ n)]
    omega
theorem sm_by (g : Int64) : sm (by_ g) 8 = uN g := by
  have h := uN_lt g
  simp only [sm, by_]
  generalize uN g = x at h ⊢
  simp only [Nat.reduceMul, Nat.reducePow, Nat.mul_zero, Nat.pow_zero, Nat.div_one, Nat.mul_one]
  omega
theorem sm_congr {a b : Nat → Nat} : ∀ {n : Nat}, (∀ i, i < n → a i = b i) → sm a n = sm b n := by
  intro n
  induction n with
  | zero => intro _; rfl
  | succ n ih => intro h; rw [sm, sm, h n (by omega), ih (fun i hi => h i (by omega))]
theorem ck_eq {cl : Nat → Nat} {g : Int64} (h : ∀ a, a < 8 → cl a = by_ g a) : ckM cl 8 0 = g := by
  have h0 : (0 : Int64) = lN 0 := by decide
  rw [h0, ckM_sm (fun a ha => by rw [h a ha]; exact by_lt g a) 8 0 (Nat.le_refl _) (by decide), sm_congr h, sm_by, Nat.zero_mul, Nat.zero_add, lN_uN]
def cT (t : TF) (c : Int64) : Nat → Nat
  | 0 => 0
  | n + 1 => cT t c n + if lcM t c n = true then 1 else 0
theorem ahM_cT (t : TF) (c : Int64) : ∀ (n j : Nat), ahM t c n j (cT t c j) = cT t c (j + n) := by
  intro n
  induction n with
  | zero => intro j; rfl
  | succ n ih =>
    intro j
    rw [ahM]
    have := ih (j + 1)
    rw [cT] at this
    rw [this]
    congr 1
    omega
def s8 (f : Nat → Nat) : Nat := f 0 + f 1 + f 2 + f 3 + f 4 + f 5 + f 6 + f 7
theorem cT_s8 {t : TF} {c : Int64} : ∀ {n : Nat}, (∀ j, j < n → (t j).1 < 2048) → cT t c n = s8 (fun a => cnt t a (by_ c a) n) := by
  intro n
  induction n with
  | zero => intro _; rfl
  | succ n ih =>
    intro h
    rw [cT, ih (fun j hj => h j (by omega))]
    have hA := h n (by omega)
    simp only [s8, cnt, lcM, decide_eq_true_eq]
    generalize hq : (t n).1 % 256 = q
    rcases (show (t n).1 / 256 = 0 ∨ (t n).1 / 256 = 1 ∨ (t n).1 / 256 = 2 ∨ (t n).1 / 256 = 3 ∨ (t n).1 / 256 = 4 ∨ (t n).1 / 256 = 5 ∨ (t n).1 / 256 = 6 ∨ (t n).1 / 256 = 7 by omega) with e | e | e | e | e | e | e | e <;> simp [e] <;> omega
theorem ah_eq {t : TF} {tn : Nat} {g c : Int64} (h5 : ∀ j, j < tn → (t j).1 < 2048) (h8 : ∀ a, a < 8 → ∀ x, cnt t a x tn = by_ g a - x) : ahM t c tn 0 0 = ahS g c 8 0 0 := by
  have e2 : ahM t c tn 0 0 = cT t c tn := by
    have e := ahM_cT t c tn 0
    rw [Nat.zero_add] at e
    exact e
  rw [e2, cT_s8 h5]
  simp only [s8, h8 0 (by decide), h8 1 (by decide), h8 2 (by decide), h8 3 (by decide), h8 4 (by decide), h8 5 (by decide), h8 6 (by decide), h8 7 (by decide), ahS, Nat.zero_add, Nat.reduceAdd]
theorem lt_nI_stn {x : Int32} {j : Nat} (hj : j < 2 ^ 31) : x < nI j ↔ stn x ≤ j := by
  rw [Int32.lt_iff_toInt_lt, nI_toInt hj]
  unfold stn
  omega
theorem nxM_nxS {t : TF} {c : Int64} {x : Int32} : ∀ (n j : Nat), j + n < 2 ^ 31 → nxM t c x n j = nxS t c (j + n - max j (stn x)) (max j (stn x)) := by
  intro n
  induction n with
  | zero =>
    intro j _
    rw [show j + 0 - max j (stn x) = 0 by omega]
    rfl
  | succ n ih =>
    intro j hj
    rw [nxM, ih (j + 1) (by omega)]
    have hi := lt_nI_stn (x := x) (j := j) (by omega)
    by_cases q : stn x ≤ j
    · rw [Nat.max_eq_left q, Nat.max_eq_left (show stn x ≤ j + 1 by omega), show j + (n + 1) - j = n + 1 by omega, show j + 1 + n - (j + 1) = n by omega, nxS]
      by_cases z : by_ c ((t j).1 / 256) < (t j).1 % 256
      · rw [if_pos ⟨hi.mpr q, by simpa [lcM] using z⟩, if_pos z]
      · rw [if_neg (fun r => z (by simpa [lcM] using r.2)), if_neg z]
    · rw [if_neg (fun r => q (hi.mp r.1)), Nat.max_eq_right (show j + 1 ≤ stn x by omega), Nat.max_eq_right (show j ≤ stn x by omega), show j + 1 + n - stn x = j + (n + 1) - stn x by omega]
theorem nx_eq {t : TF} {tn : Nat} {c : Int64} {x : Int32} (ht : tn < 2 ^ 31) : nxM t c x tn 0 = nxt t tn c x := by
  rw [nxM_nxS tn 0 (by omega), Nat.zero_add, Nat.max_eq_right (Nat.zero_le _)]
  unfold nxt
  by_cases q : x < nI tn
  · rw [if_pos q]
  · rw [if_neg q]
    have h : ¬ stn x ≤ tn := fun z => q ((lt_nI_stn ht).mpr z)
    rw [show tn - stn x = 0 by omega]
    rfl
theorem cmM_cmS {cl : Nat → Nat} {g c : Int64} (h : ∀ a, a < 8 → cl a = by_ g a) : ∀ (n a : Nat) (x y : Bool), a + n ≤ 8 → cmM cl c n a y x = ((cmS g c n a x y).2, (cmS g c n a x y).1) := by
  intro n
  induction n with
  | zero => intro a x y _; rfl
  | succ n ih => intro a x y ha; rw [cmM, cmS, h a (by omega), ih (a + 1) _ _ (by omega)]
theorem cm_eq2 {cl : Nat → Nat} {g c : Int64} (h : ∀ a, a < 8 → cl a = by_ g a) : cmQ (cmM cl c 8 0 false false) = cmR (cmS g c 8 0 false false) := by
  rw [cmM_cmS h 8 0 false false (Nat.le_refl _)]
  unfold cmQ cmR
  cases (cmS g c 8 0 false false).1 <;> cases (cmS g c 8 0 false false).2 <;> rfl
theorem lw_lk {cl : Nat → Nat} {g : Int64} {x : Nat × Int64 × Int32} (h : ∀ a, a < 8 → cl a = by_ g a) (hx : x.1 < 2048) (h6 : by_ g (x.1 / 256) < x.1 % 256) : lwM cl x = lk g x.1 x.2.1 := by
  unfold lwM lk
  rw [h _ (by omega), lkB_lkS h]
  by_cases q : x.1 % 256 = by_ g (x.1 / 256) + 1
  · rw [if_pos q, if_neg (by omega)]
  · rw [if_neg q, if_pos (by omega)]
theorem wt_eq {cl : Nat → Nat} {g : Int64} {w w2 : WF} {wn : Nat} (h : ∀ a, a < 8 → cl a = by_ g a) (he : ∀ j, j < wn → w j = w2 j) (hw : ∀ j, j < wn → (w j).1 < 2048) (h6 : ∀ j, j < wn → by_ g ((w j).1 / 256) < (w j).1 % 256) (h7 : ∀ j, j < wn → ¬ lk g (w j).1 (w j).2.1 = none) (hwn : wn < 2 ^ 31) (x y : Int32) : wtM cl w2 wn x y = wtC g w wn x y := by
  unfold wtM wtC
  by_cases q : bad wn 4 x y = true
  · rw [if_pos q, if_pos q]
  · rw [if_neg q, if_neg q]
    have q2 : bad wn 4 x y = false := by simpa using q
    simp only [bad, Bool.or_eq_false_iff, decide_eq_false_iff_not] at q2
    obtain ⟨j, hj, rfl⟩ := ix_of q2.1 q2.2.1 hwn
    rw [nI_clamp (by omega), ← he j hj, lw_lk h (hw j hj) (h6 j hj)]
    cases hl : lk g (w j).1 (w j).2.1 with
    | none => exact absurd hl (h7 j hj)
    | some b => rw [lwC, nxC, h b (lk_lt (hw j hj) hl)]
