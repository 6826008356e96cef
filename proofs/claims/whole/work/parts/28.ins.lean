def Iv (k : Nat) (t : TF) (tn : Nat) (w : WF) (wn : Nat) (g : Int64) (w2 : WF) (cl : Nat → Nat) (mw : Nat) : Prop :=
  Rl t tn w wn g w2 cl ∧ (∀ j, j < wn → ¬ lk g (w j).1 (w j).2.1 = none) ∧ wn ≤ 64 ∧ tn + wn ≤ k ∧ mw ≤ 64
theorem inS_pos {w w2 : WF} {k n : Nat} (hs : Srt w n) (he : ∀ j, j < n → w j = w2 j) : (inS k n w2).2 = (inS k n w).2 := by
  have hs2 : Srt w2 n := fun i j hij hj => by rw [← he i (by omega), ← he j hj]; exact hs i j hij hj
  obtain ⟨a1, a2, a3, -⟩ := inS_spec k n w hs
  obtain ⟨b1, b2, b3, -⟩ := inS_spec k n w2 hs2
  rcases Nat.lt_trichotomy (inS k n w2).2 (inS k n w).2 with z | z | z
  · have h1 := a2 _ z
    have h2 := b3 _ (Nat.le_refl _) (by omega)
    rw [he _ (by omega)] at h1
    omega
  · exact z
  · have h1 := b2 _ z
    have h2 := a3 _ (Nat.le_refl _) (by omega)
    rw [he _ (by omega)] at h2
    omega
theorem ins_at {w : WF} {n k : Nat} {e : Nat × Int64 × Int32} (hs : Srt w n) (j : Nat) : va_up (inS k n w).1 (inS k n w).2 e j = if j = (inS k n w).2 then e else if (inS k n w).2 < j ∧ j ≤ n then w (j - 1) else w j := by
  by_cases z : j = (inS k n w).2
  · rw [if_pos z, z, va_up_self]
  · rw [if_neg z, va_up_ne _ _ z, (inS_spec k n w hs).2.2.2 j]
theorem Rl_ins {t : TF} {tn : Nat} {w : WF} {wn : Nat} {g : Int64} {w2 : WF} {cl : Nat → Nat} {k : Nat} {c : Int64} {b : Int32} (h : Rl t tn w wn g w2 cl) (hk : k < 2048) (hkn : kn g w wn k = false) (hq : tn + (wn + 1) ≤ 512) :
    Rl t tn (va_up (inS k wn w).1 (inS k wn w).2 (k, c, b)) (wn + 1) g (va_up (inS k wn w2).1 (inS k wn w2).2 (k, c, b)) cl := by
  obtain ⟨j1, j2, j3, j4, j5, j6, j7, j8⟩ := h
  have hs2 : Srt w2 wn := fun i j hij hj => by rw [← j2 i (by omega), ← j2 j hj]; exact j4 i j hij hj
  have hp := inS_pos (k := k) j4 j2
  obtain ⟨a1, a2, a3, -⟩ := inS_spec k wn w j4
  have hb : ¬ k % 256 < by_ g (k / 256) + 1 := fun z => by unfold kn at hkn; rw [if_pos z] at hkn; cases hkn
  have hne : ∀ i, i < wn → (w i).1 ≠ k := fun i hi => by
    unfold kn at hkn
    rw [if_neg hb] at hkn
    exact knS_true hkn i (Nat.zero_le _) (by omega)
  generalize hP : (inS k wn w).2 = p at *
  have f1 : ∀ j, va_up (inS k wn w).1 p (k, c, b) j = if j = p then (k, c, b) else if p < j ∧ j ≤ wn then w (j - 1) else w j := fun j => by rw [← hP]; exact ins_at j4 j
  have f2 : ∀ j, va_up (inS k wn w2).1 (inS k wn w2).2 (k, c, b) j = if j = p then (k, c, b) else if p < j ∧ j ≤ wn then w2 (j - 1) else w2 j := fun j => by
    have := ins_at (k := k) (e := (k, c, b)) hs2 j
    rw [hp] at this ⊢
    exact this
  have cs : ∀ j, j < wn + 1 → j = p ∧ va_up (inS k wn w).1 p (k, c, b) j = (k, c, b) ∨ ∃ i, i < wn ∧ va_up (inS k wn w).1 p (k, c, b) j = w i ∧ (i < p ∧ j = i ∨ p ≤ i ∧ j = i + 1) := fun j hj => by
    by_cases z : j = p
    · exact Or.inl ⟨z, by rw [f1, if_pos z]⟩
    · by_cases z2 : p < j
      · exact Or.inr ⟨j - 1, by omega, by rw [f1, if_neg z, if_pos ⟨z2, by omega⟩], Or.inr ⟨by omega, by omega⟩⟩
      · exact Or.inr ⟨j, by omega, by rw [f1, if_neg z, if_neg (fun r => z2 r.1)], Or.inl ⟨by omega, rfl⟩⟩
  refine ⟨j1, fun j hj => ?_, fun j hj => ?_, fun i j hij hj => ?_, j5, fun j hj => ?_, hq, j8⟩
  · rw [f1, f2]
    by_cases z : j = p
    · rw [if_pos z, if_pos z]
    · rw [if_neg z, if_neg z]
      by_cases z2 : p < j ∧ j ≤ wn
      · rw [if_pos z2, if_pos z2]; exact j2 _ (by omega)
      · rw [if_neg z2, if_neg z2]; exact j2 _ (by omega)
  · rcases cs j hj with ⟨-, e⟩ | ⟨i, hi, e, -⟩
    · rw [e]; exact hk
    · rw [e]; exact j3 i hi
  · rcases cs i (by omega) with ⟨z1, e1⟩ | ⟨i1, h1, e1, o1⟩
    · rcases cs j hj with ⟨z2, e2⟩ | ⟨i2, h2, e2, o2⟩
      · omega
      · rw [e1, e2]; exact a3 i2 (by omega) h2
    · rcases cs j hj with ⟨z2, e2⟩ | ⟨i2, h2, e2, o2⟩
      · rw [e1, e2]
        have h3 := a2 i1 (by omega)
        have h4 := hne i1 h1
        show (w i1).1 < k
        omega
      · rw [e1, e2]; exact j4 i1 i2 (by omega) h2
  · rcases cs j hj with ⟨-, e⟩ | ⟨i, hi, e, -⟩
    · rw [e]
      show by_ g (k / 256) < k % 256
      omega
    · rw [e]; exact j6 i hi
theorem ltS_mono : ∀ (n : Nat) (u : CS) (x : Nat), u.2.1 ≤ (ltS n u x).1.2.1 := by
  intro n
  induction n with
  | zero => intro u x; exact Nat.le_refl _
  | succ n ih =>
    intro u x
    simp only [ltS]
    split
    · exact Nat.le_refl _
    · rename_i q _
      have h := ih (lt1 u.1 u.2.1 u.2.2.1 u.2.2.2.1 u.2.2.2.2 q) (x + 1)
      have e : (lt1 u.1 u.2.1 u.2.2.1 u.2.2.2.1 u.2.2.2.2 q).2.1 = u.2.1 + 1 := rfl
      rw [e] at h
      omega
theorem ltS_prog {n : Nat} {t : TF} {tn : Nat} {w : WF} {wn : Nat} {g : Int64} {x q : Nat} (h : fs tn g w wn 0 = some q) : tn < (ltS (n + 1) (t, tn, w, wn, g) x).1.2.1 := by
  have e : ltS (n + 1) (t, tn, w, wn, g) x = ltS n (lt1 t tn w wn g q) (x + 1) := by
    conv => lhs; unfold ltS
    rw [h]
  rw [e]
  have h2 := ltS_mono n (lt1 t tn w wn g q) (x + 1)
  have e2 : (lt1 t tn w wn g q).2.1 = tn + 1 := rfl
  rw [e2] at h2
  omega
theorem ins_come {w : WF} {tn wn k : Nat} {g c : Int64} {b : Int32} (hs : Srt w wn) (hc : cn tn g k c = true) : ∃ q, fs tn g (va_up (inS k wn w).1 (inS k wn w).2 (k, c, b)) (wn + 1) 0 = some q := by
  cases hf : fs tn g (va_up (inS k wn w).1 (inS k wn w).2 (k, c, b)) (wn + 1) 0 with
  | some q => exact ⟨q, rfl⟩
  | none =>
    rw [fs_f] at hf
    have h1 := (inS_spec k wn w hs).1
    have h2 := fst_none hf (inS k wn w).2 (Nat.zero_le _) (by omega)
    have h3 : cn tn g (va_up (inS k wn w).1 (inS k wn w).2 (k, c, b) (inS k wn w).2).1 (va_up (inS k wn w).1 (inS k wn w).2 (k, c, b) (inS k wn w).2).2.1 = false := h2
    rw [va_up_self] at h3
    have h4 : cn tn g k c = false := h3
    rw [hc] at h4
    cases h4
theorem zc_8 (cl : Nat → Nat) : ∀ a, a < 8 → zcS 8 0 cl a = 0 := by
  intro a ha
  simp only [zcS, va_up]
  rcases (show a = 0 ∨ a = 1 ∨ a = 2 ∨ a = 3 ∨ a = 4 ∨ a = 5 ∨ a = 6 ∨ a = 7 by omega) with rfl | rfl | rfl | rfl | rfl | rfl | rfl | rfl <;> rfl
theorem by_0 (a : Nat) : by_ 0 a = 0 := by
  have h : uN 0 = 0 := by decide
  unfold by_
  rw [h, Nat.zero_div]
theorem Iv_0 {k : Nat} {t : TF} {w w2 : WF} {cl : Nat → Nat} (h : ∀ a, a < 8 → cl a = 0) : Iv k t 0 w 0 0 w2 cl 0 :=
  ⟨⟨fun a ha => by rw [h a ha, by_0], fun j hj => absurd hj (Nat.not_lt_zero j), fun j hj => absurd hj (Nat.not_lt_zero j), fun i j _ hj => absurd hj (Nat.not_lt_zero j), fun j hj => absurd hj (Nat.not_lt_zero j), fun j hj => absurd hj (Nat.not_lt_zero j), by omega, fun a _ x => by rw [by_0, Nat.zero_sub]; rfl⟩, fun j hj => absurd hj (Nat.not_lt_zero j), by omega, by omega, by omega⟩
theorem Iv_up {k : Nat} {t : TF} {tn : Nat} {w : WF} {wn : Nat} {g : Int64} {w2 : WF} {cl : Nat → Nat} {mw : Nat} (h : Iv k t tn w wn g w2 cl mw) : Iv (k + 1) t tn w wn g w2 cl mw := ⟨h.1, h.2.1, h.2.2.1, by have := h.2.2.2.1; omega, h.2.2.2.2⟩
theorem cmp0 {x y : Int64} (h : x = y) : lg_cmp x y = 0 := by
  subst h
  simp [lg_cmp]
