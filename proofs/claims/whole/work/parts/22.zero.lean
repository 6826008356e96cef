def tz : TF := fun _ => (0, 0)
def wz : WF := fun _ => (0, 0, 0)
def cz : Nat → Nat := fun _ => 0
theorem nz_i {n : Nat} {f : Nat → Int32} (h : ∀ j, f j = 0) : ∀ cA : ClassId, vp_cell cA (n, .inl f) = arrV cA n (fun _ => defaultValue .int) := fun cA => by
  rw [vp_cell_i]
  congr 1
  funext j
  rw [h j]
  rfl
theorem nz_l {n : Nat} {f : Nat → Int64} (h : ∀ j, f j = 0) : ∀ cA : ClassId, vp_cell cA (n, .inr (.inl f)) = arrV cA n (fun _ => defaultValue .long) := fun cA => by
  rw [vp_cell_l]
  congr 1
  funext j
  rw [h j]
  rfl
