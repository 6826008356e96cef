def fst_ (P : Nat → Bool) : Nat → Nat → Option Nat
  | 0, _ => none
  | n + 1, a => if P a = true then some a else fst_ P n (a + 1)
def fdn (P : Nat → Bool) : Nat → Option Nat → Option Nat
  | 0, f => f
  | n + 1, f => fdn P n (if P n = true then some n else f)
theorem fst_snoc (P : Nat → Bool) : ∀ (n a : Nat), fst_ P (n + 1) a = (fst_ P n a).or (if P (a + n) = true then some (a + n) else none) := by
  intro n
  induction n with
  | zero => intro a; simp [fst_]
  | succ n ih =>
    intro a
    by_cases q : P a = true
    · simp [fst_, q]
    · have e1 : fst_ P (n + 1 + 1) a = fst_ P (n + 1) (a + 1) := by rw [fst_]; rw [if_neg q]
      have e2 : fst_ P (n + 1) a = fst_ P n (a + 1) := by rw [fst_]; rw [if_neg q]
      rw [e1, e2, ih (a + 1), show a + 1 + n = a + (n + 1) by omega]
theorem fdn_eq (P : Nat → Bool) : ∀ (n : Nat) (f : Option Nat), fdn P n f = (fst_ P n 0).or f := by
  intro n
  induction n with
  | zero => intro f; rfl
  | succ n ih =>
    intro f
    rw [fdn, ih, fst_snoc P n 0, Nat.zero_add]
    cases h : fst_ P n 0 with
    | some b => rfl
    | none => by_cases q : P n = true <;> simp [q]
theorem fst_congr {P Q : Nat → Bool} : ∀ (n a : Nat), (∀ j, a ≤ j → j < a + n → P j = Q j) → fst_ P n a = fst_ Q n a := by
  intro n
  induction n with
  | zero => intro a _; rfl
  | succ n ih =>
    intro a h
    rw [fst_, fst_, h a (Nat.le_refl _) (by omega), ih (a + 1) (fun j h1 h2 => h j (by omega) (by omega))]
theorem fst_none {P : Nat → Bool} : ∀ {n a : Nat}, fst_ P n a = none → ∀ j, a ≤ j → j < a + n → P j = false := by
  intro n
  induction n with
  | zero => intro a _ j h1 h2; omega
  | succ n ih =>
    intro a h j h1 h2
    rw [fst_] at h
    split at h
    · cases h
    · rename_i q
      by_cases z : j = a
      · subst z; simpa using q
      · exact ih h j (by omega) (by omega)
theorem fst_some {P : Nat → Bool} : ∀ {n a b : Nat}, fst_ P n a = some b → a ≤ b ∧ b < a + n ∧ P b = true ∧ ∀ j, a ≤ j → j < b → P j = false := by
  intro n
  induction n with
  | zero => intro a b h; cases h
  | succ n ih =>
    intro a b h
    rw [fst_] at h
    split at h
    · rename_i q
      cases h
      exact ⟨Nat.le_refl _, by omega, q, fun j h1 h2 => by omega⟩
    · rename_i q
      obtain ⟨h1, h2, h3, h4⟩ := ih h
      refine ⟨by omega, by omega, h3, fun j g1 g2 => ?_⟩
      by_cases z : j = a
      · subst z; simpa using q
      · exact h4 j (by omega) g2
theorem lkS_f (g c : Int64) (own : Nat) : ∀ (n a : Nat), lkS g c own n a = fst_ (fun a => decide (a ≠ own ∧ by_ g a < by_ c a)) n a := by
  intro n
  induction n with
  | zero => intro a; rfl
  | succ n ih => intro a; rw [lkS, fst_, ih]; simp only [decide_eq_true_eq]
theorem lkB_f (cl : Nat → Nat) (c : Int64) (act : Nat) : ∀ (n : Nat) (f : Option Nat), lkB cl c act n f = fdn (fun a => decide (a ≠ act ∧ cl a < by_ c a)) n f := by
  intro n
  induction n with
  | zero => intro f; rfl
  | succ n ih => intro f; rw [lkB, fdn, ih]; simp only [decide_eq_true_eq]
theorem fs_f (tn : Nat) (g : Int64) (w : WF) : ∀ (n a : Nat), fs tn g w n a = fst_ (fun j => cn tn g (w j).1 (w j).2.1) n a := by
  intro n
  induction n with
  | zero => intro a; rfl
  | succ n ih => intro a; rw [fs, fst_, ih]
theorem rdS_f (cl : Nat → Nat) (w : WF) : ∀ (n : Nat) (f : Option Nat), rdS cl w n f = fdn (fun j => cnM cl ((w j).1 / 256) ((w j).1 % 256) (w j).2.1) n f := by
  intro n
  induction n with
  | zero => intro f; rfl
  | succ n ih => intro f; rw [rdS, fdn, ih]
theorem lkB_lkS {cl : Nat → Nat} {g c : Int64} (h : ∀ a, a < 8 → cl a = by_ g a) (own : Nat) : lkB cl c own 8 none = lkS g c own 8 0 := by
  rw [lkB_f, lkS_f, fdn_eq, Option.or_none]
  exact fst_congr 8 0 (fun j _ hj => by rw [h j (by omega)])
theorem cn_cnM {cl : Nat → Nat} {g c : Int64} {tn k : Nat} (h : ∀ a, a < 8 → cl a = by_ g a) (hk : k < 2048) (ht : tn < 512) : cn tn g k c = cnM cl (k / 256) (k % 256) c := by
  unfold cn cnM lk
  rw [h (k / 256) (by omega), lkB_lkS h]
  by_cases q : k % 256 = by_ g (k / 256) + 1 <;> simp [q, ht]
theorem rd_fs {cl : Nat → Nat} {g : Int64} {tn wn : Nat} {w w2 : WF} (h : ∀ a, a < 8 → cl a = by_ g a) (hw : ∀ j, j < wn → (w j).1 < 2048) (he : ∀ j, j < wn → w j = w2 j) (ht : tn < 512 ∨ wn = 0) : rdS cl w2 wn none = fs tn g w wn 0 := by
  rw [rdS_f, fs_f, fdn_eq, Option.or_none]
  refine fst_congr wn 0 (fun j _ hj => ?_)
  rw [← he j (by omega), cn_cnM h (hw j (by omega)) (by omega)]
theorem knS_kmS {w w2 : WF} {a q : Nat} (hq : q < 256) : ∀ (n j : Nat) (b : Bool), (∀ i, j ≤ i → i < j + n → w i = w2 i) → kmS w2 a q n j b = (b || knS w (a * 256 + q) n j) := by
  intro n
  induction n with
  | zero => intro j b _; simp [kmS, knS]
  | succ n ih =>
    intro j b h
    rw [kmS, ih (j + 1) _ (fun i h1 h2 => h i (by omega) (by omega)), knS, ← h j (Nat.le_refl _) (by omega)]
    by_cases z : (w j).1 = a * 256 + q
    · rw [if_pos z, z]
      simp [key_d hq, key_m hq]
    · rw [if_neg z]
      have z2 : ¬ ((w j).1 / 256 = a ∧ (w j).1 % 256 = q) := fun r => z (by omega)
      have z3 : (decide ((w j).1 / 256 = a) && decide ((w j).1 % 256 = q)) = false := by
        rw [← Bool.decide_and]
        exact decide_eq_false z2
      rw [z3, Bool.or_false]
theorem kn_knM {cl : Nat → Nat} {g : Int64} {w w2 : WF} {wn a q : Nat} (h : ∀ a, a < 8 → cl a = by_ g a) (he : ∀ j, j < wn → w j = w2 j) (ha : a < 8) (hq : q < 256) : knM cl w2 wn a q = kn g w wn (a * 256 + q) := by
  unfold knM kn
  rw [knS_kmS (w := w) hq wn 0 _ (fun i _ hi => he i (by omega)), key_d hq, key_m hq, h a ha]
  by_cases z : q < by_ g a + 1
  · rw [if_pos z, decide_eq_true (show q ≤ by_ g a by omega)]; rfl
  · rw [if_neg z, decide_eq_false (show ¬ q ≤ by_ g a by omega)]; rfl
theorem knw_kwM {cl : Nat → Nat} {g : Int64} {w w2 : WF} {wn : Nat} (h : ∀ a, a < 8 → cl a = by_ g a) (he : ∀ j, j < wn → w j = w2 j) (x y : Int32) : knw g w wn x y = kwM cl w2 wn x y := by
  unfold knw kwM
  cases hx : isA x with
  | false => rfl
  | true =>
    cases hy : isS y with
    | false => rfl
    | true =>
      obtain ⟨a, ha, rfl⟩ := isA_nI hx
      obtain ⟨q, hq1, hq, rfl⟩ := isS_nI hy
      rw [nI_clamp (by omega), nI_clamp (by omega), kn_knM h he ha hq]
theorem knS_true {w : WF} {k : Nat} : ∀ {n j : Nat}, knS w k n j = false → ∀ i, j ≤ i → i < j + n → (w i).1 ≠ k := by
  intro n
  induction n with
  | zero => intro j _ i h1 h2; omega
  | succ n ih =>
    intro j h i h1 h2
    rw [knS] at h
    split at h
    · cases h
    · rename_i q
      by_cases z : i = j
      · subst z; exact q
      · exact ih h i (by omega) (by omega)
def cnt (t : TF) (a x : Nat) : Nat → Nat
  | 0 => 0
  | n + 1 => cnt t a x n + if (t n).1 / 256 = a ∧ x < (t n).1 % 256 then 1 else 0
theorem cnt_up {t : TF} {a x : Nat} {e : Nat × Int32} : ∀ {n m : Nat}, n ≤ m → cnt (va_up t m e) a x n = cnt t a x n := by
  intro n
  induction n with
  | zero => intro m _; rfl
  | succ n ih => intro m h; rw [cnt, cnt, ih (by omega), va_up_ne _ _ (by omega)]
def Rl (t : TF) (tn : Nat) (w : WF) (wn : Nat) (g : Int64) (w2 : WF) (cl : Nat → Nat) : Prop :=
  (∀ a, a < 8 → cl a = by_ g a) ∧ (∀ j, j < wn → w j = w2 j) ∧ (∀ j, j < wn → (w j).1 < 2048) ∧ Srt w wn ∧ (∀ j, j < tn → (t j).1 < 2048) ∧ (∀ j, j < wn → by_ g ((w j).1 / 256) < (w j).1 % 256) ∧ tn + wn ≤ 512 ∧ ∀ a, a < 8 → ∀ x, cnt t a x tn = by_ g a - x
theorem Rl_step {t : TF} {tn : Nat} {w : WF} {wn : Nat} {g : Int64} {w2 : WF} {cl : Nat → Nat} {q : Nat} (h : Rl t tn w wn g w2 cl) (hq : q < wn) (hs : (w q).1 % 256 = by_ g ((w q).1 / 256) + 1) :
    Rl (va_up t tn ((w q).1, (w q).2.2)) (tn + 1) (rmS (wn - (q + 1)) (q + 1) w) (wn - 1) (ltG g (w q).1) (rmS (wn - (q + 1)) (q + 1) w2) (va_up cl ((w q).1 / 256) ((w q).1 % 256)) := by
  obtain ⟨j1, j2, j3, j4, j5, j6, j7, j8⟩ := h
  have hk := j3 q hq
  have hb : by_ g ((w q).1 / 256) < 255 := by omega
  have hg : ∀ b, b < 8 → by_ (ltG g (w q).1) b = if b = (w q).1 / 256 then by_ g ((w q).1 / 256) + 1 else by_ g b := fun b h8 => by_up g (by omega) h8 hb
  have rm : ∀ (v : WF) (i : Nat), rmS (wn - (q + 1)) (q + 1) v i = if q ≤ i ∧ i + 1 < wn then v (i + 1) else v i := fun v i => by
    rw [rmS_eq _ _ _ _ (by omega)]
    by_cases z : q ≤ i ∧ i + 1 < wn
    · rw [if_pos z, if_pos (by omega)]
    · rw [if_neg z, if_neg (by omega)]
  have rp : ∀ i, i < wn - 1 → ∃ i2, i2 < wn ∧ i2 ≠ q ∧ rmS (wn - (q + 1)) (q + 1) w i = w i2 ∧ rmS (wn - (q + 1)) (q + 1) w2 i = w2 i2 ∧ (i2 = i ∧ i < q ∨ i2 = i + 1 ∧ q ≤ i) := fun i hi => by
    by_cases z : q ≤ i ∧ i + 1 < wn
    · exact ⟨i + 1, by omega, by omega, by rw [rm, if_pos z], by rw [rm, if_pos z], Or.inr ⟨rfl, z.1⟩⟩
    · exact ⟨i, by omega, by omega, by rw [rm, if_neg z], by rw [rm, if_neg z], Or.inl ⟨rfl, by omega⟩⟩
  refine ⟨fun a ha => ?_, fun i hi => ?_, fun i hi => ?_, fun i1 i2 h12 h2 => ?_, fun i hi => ?_, fun i hi => ?_, by omega, fun a ha x => ?_⟩
  · rw [hg a ha]
    by_cases z : a = (w q).1 / 256
    · rw [if_pos z, z, va_up_self, hs]
    · rw [if_neg z, va_up_ne _ _ z]; exact j1 a ha
  · obtain ⟨i2, a1, a2, a3, a4, a5⟩ := rp i hi
    rw [a3, a4]; exact j2 i2 a1
  · obtain ⟨i2, a1, a2, a3, a4, a5⟩ := rp i hi
    rw [a3]; exact j3 i2 a1
  · obtain ⟨k1, a1, a2, a3, a4, a5⟩ := rp i1 (by omega)
    obtain ⟨k2, b1, b2, b3, b4, b5⟩ := rp i2 h2
    rw [a3, b3]
    exact j4 k1 k2 (by omega) b1
  · by_cases z : i = tn
    · subst z; rw [va_up_self]; exact hk
    · rw [va_up_ne _ _ z]; exact j5 i (by omega)
  · obtain ⟨i2, a1, a2, a3, a4, a5⟩ := rp i hi
    rw [a3, hg _ (by have := j3 i2 a1; omega)]
    have h6 := j6 i2 a1
    by_cases z : (w i2).1 / 256 = (w q).1 / 256
    · rw [if_pos z]
      have hne : (w i2).1 ≠ (w q).1 := by
        rcases Nat.lt_or_ge i2 q with r | r
        · have := j4 i2 q r hq; omega
        · have := j4 q i2 (by omega) a1; omega
      rw [z] at h6
      omega
    · rw [if_neg z]; exact h6
  · rw [cnt, cnt_up (Nat.le_refl _), j8 a ha x, va_up_self, hg a ha]
    by_cases z : a = (w q).1 / 256
    · rw [if_pos z]
      by_cases z2 : x < (w q).1 % 256
      · rw [if_pos ⟨z.symm, z2⟩, z]; omega
      · rw [if_neg (fun r => z2 r.2), z]; omega
    · rw [if_neg z, if_neg (fun r => z r.1.symm)]; rfl
theorem cn_spec {tn : Nat} {g : Int64} {k : Nat} {c : Int64} (h : cn tn g k c = true) : tn < 512 ∧ k % 256 = by_ g (k / 256) + 1 := by
  simp only [cn, Bool.and_eq_true, decide_eq_true_eq] at h
  refine ⟨h.1, ?_⟩
  have h2 := h.2
  unfold lk at h2
  by_cases z : k % 256 = by_ g (k / 256) + 1
  · exact z
  · rw [if_neg z] at h2; cases h2
theorem lt_rel : ∀ (k n m : Nat) (t : TF) (tn : Nat) (w : WF) (g : Int64) (w2 : WF) (cl : Nat → Nat) (x : Nat), k ≤ n → k ≤ m → Rl t tn w k g w2 cl →
    (ltM m (t, tn, w2, k, cl)).1 = (ltS n (t, tn, w, k, g) x).1.1 ∧ (ltM m (t, tn, w2, k, cl)).2.1 = (ltS n (t, tn, w, k, g) x).1.2.1 ∧ (ltM m (t, tn, w2, k, cl)).2.2.2.1 = (ltS n (t, tn, w, k, g) x).1.2.2.2.1 ∧
    Rl (ltS n (t, tn, w, k, g) x).1.1 (ltS n (t, tn, w, k, g) x).1.2.1 (ltS n (t, tn, w, k, g) x).1.2.2.1 (ltS n (t, tn, w, k, g) x).1.2.2.2.1 (ltS n (t, tn, w, k, g) x).1.2.2.2.2 (ltM m (t, tn, w2, k, cl)).2.2.1 (ltM m (t, tn, w2, k, cl)).2.2.2.2 ∧
    (ltS n (t, tn, w, k, g) x).1.2.1 + (ltS n (t, tn, w, k, g) x).1.2.2.2.1 = tn + k ∧ (ltS n (t, tn, w, k, g) x).2 + tn = x + (ltS n (t, tn, w, k, g) x).1.2.1 ∧ tn ≤ (ltS n (t, tn, w, k, g) x).1.2.1 ∧
    ∀ j, j < (ltS n (t, tn, w, k, g) x).1.2.2.2.1 → ¬ lk (ltS n (t, tn, w, k, g) x).1.2.2.2.2 ((ltS n (t, tn, w, k, g) x).1.2.2.1 j).1 ((ltS n (t, tn, w, k, g) x).1.2.2.1 j).2.1 = none := by
  intro k
  induction k with
  | zero =>
    intro n m t tn w g w2 cl x hn hm h
    have e1 : ltS n (t, tn, w, 0, g) x = ((t, tn, w, 0, g), x) := by cases n <;> rfl
    have e2 : ltM m (t, tn, w2, 0, cl) = (t, tn, w2, 0, cl) := by cases m <;> rfl
    rw [e1, e2]
    exact ⟨rfl, rfl, rfl, h, rfl, rfl, Nat.le_refl _, fun j hj => absurd hj (Nat.not_lt_zero j)⟩
  | succ k ih =>
    intro n m t tn w g w2 cl x hn hm h
    obtain ⟨n, rfl⟩ : ∃ n', n = n' + 1 := ⟨n - 1, by omega⟩
    obtain ⟨m, rfl⟩ : ∃ m', m = m' + 1 := ⟨m - 1, by omega⟩
    have h7 := h.2.2.2.2.2.2.1
    have hrd : rdS cl w2 (k + 1) none = fs tn g w (k + 1) 0 := rd_fs h.1 h.2.2.1 h.2.1 (Or.inl (by omega))
    cases hf : fs tn g w (k + 1) 0 with
    | none =>
      have e1 : ltS (n + 1) (t, tn, w, k + 1, g) x = ((t, tn, w, k + 1, g), x) := by simp only [ltS]; rw [hf]
      have e2 : ltM (m + 1) (t, tn, w2, k + 1, cl) = (t, tn, w2, k + 1, cl) := by simp only [ltM]; rw [hrd, hf]
      rw [e1, e2]
      refine ⟨rfl, rfl, rfl, h, rfl, rfl, Nat.le_refl _, fun j hj => ?_⟩
      rw [fs_f] at hf
      have hc := fst_none hf j (Nat.zero_le _) (by have hj' : j < k + 1 := hj; omega)
      intro z
      have z' : lk g (w j).1 (w j).2.1 = none := z
      have hc' : cn tn g (w j).1 (w j).2.1 = false := hc
      rw [cn, z', decide_eq_true (show tn < 512 by omega)] at hc'
      cases hc'
    | some q =>
      have hq := fs_lt hf
      have e1 : ltS (n + 1) (t, tn, w, k + 1, g) x = ltS n (lt1 t tn w (k + 1) g q) (x + 1) := by
        conv => lhs; unfold ltS
        rw [hf]
      have e2 : ltM (m + 1) (t, tn, w2, k + 1, cl) = ltM m (lm1 (t, tn, w2, k + 1, cl) q) := by
        conv => lhs; unfold ltM
        rw [hrd, hf]
      have hwq := h.2.1 q (by omega)
      have hsq : (w q).1 % 256 = by_ g ((w q).1 / 256) + 1 := by
        rw [fs_f] at hf
        exact (cn_spec (fst_some hf).2.2.1).2
      have e3 : lm1 (t, tn, w2, k + 1, cl) q = (va_up t tn ((w q).1, (w q).2.2), tn + 1, rmS (k + 1 - (q + 1)) (q + 1) w2, k, va_up cl ((w q).1 / 256) ((w q).1 % 256)) := by
        unfold lm1
        rw [hwq]
        show (va_up t tn ((w2 q).1 / 256 * 256 + (w2 q).1 % 256, (w2 q).2.2), tn + 1, rmS (k + 1 - (q + 1)) (q + 1) w2, k + 1 - 1, va_up cl ((w2 q).1 / 256) ((w2 q).1 % 256)) = _
        rw [Nat.div_add_mod' (w2 q).1 256]
        rfl
      have e4 : lt1 t tn w (k + 1) g q = (va_up t tn ((w q).1, (w q).2.2), tn + 1, rmS (k + 1 - (q + 1)) (q + 1) w, k, ltG g (w q).1) := rfl
      rw [e1, e2, e3, e4]
      obtain ⟨r1, r2, r3, r4, r5, r6, r7, r8⟩ := ih n m _ _ _ _ _ _ (x + 1) (by omega) (by omega) (Rl_step h (by omega) hsq)
      exact ⟨r1, r2, r3, r4, by omega, by omega, by omega, r8⟩
