def Srt (w : WF) (n : Nat) : Prop := ∀ i j, i < j → j < n → (w i).1 < (w j).1
theorem inS_spec (k : Nat) : ∀ (n : Nat) (w : WF), Srt w n → (inS k n w).2 ≤ n ∧ (∀ j, j < (inS k n w).2 → (w j).1 ≤ k) ∧ (∀ j, (inS k n w).2 ≤ j → j < n → k < (w j).1) ∧ ∀ i, (inS k n w).1 i = if (inS k n w).2 < i ∧ i ≤ n then w (i - 1) else w i := by
  intro n
  induction n with
  | zero => intro w _; refine ⟨Nat.le_refl _, fun j h => absurd h (Nat.not_lt_zero j), fun j _ h => absurd h (Nat.not_lt_zero j), fun i => ?_⟩; rw [if_neg (by omega)]; rfl
  | succ n ih =>
    intro w hs
    by_cases q : k < (w n).1
    · have hs2 : Srt (va_up w (n + 1) (w n)) n := fun i j hij hj => by
        rw [va_up_ne _ _ (by omega), va_up_ne _ _ (by omega)]
        exact hs i j hij (by omega)
      obtain ⟨h1, h2, h3, h4⟩ := ih _ hs2
      have e : inS k (n + 1) w = inS k n (va_up w (n + 1) (w n)) := by simp only [inS]; rw [if_pos q]
      rw [e]
      refine ⟨by omega, fun j hj => ?_, fun j hj hjn => ?_, fun i => ?_⟩
      · have := h2 j hj; rw [va_up_ne _ _ (by omega)] at this; exact this
      · by_cases z : j = n
        · subst z; exact q
        · have := h3 j hj (by omega); rw [va_up_ne _ _ (by omega)] at this; exact this
      · rw [h4 i]
        by_cases z : i = n + 1
        · subst z
          rw [if_neg (by omega), if_pos (by omega), va_up_self]
          rfl
        · by_cases z2 : (inS k n (va_up w (n + 1) (w n))).2 < i ∧ i ≤ n
          · rw [if_pos z2, if_pos (by omega), va_up_ne _ _ (by omega)]
          · rw [if_neg z2, if_neg (by omega), va_up_ne _ _ z]
    · have e : inS k (n + 1) w = (w, n + 1) := by simp only [inS]; rw [if_neg q]
      rw [e]
      refine ⟨Nat.le_refl _, fun j hj => ?_, fun j hj hjn => ?_, fun i => ?_⟩
      · have hj' : j < n + 1 := hj
        by_cases z : j = n
        · subst z; omega
        · have := hs j n (by omega) (by omega); omega
      · have hj' : n + 1 ≤ j := hj
        omega
      · rw [if_neg]
        intro z
        have : n + 1 < i := z.1
        omega
