set_option maxRecDepth 20000 in
theorem in_Y_through_Y : ∀ w ∈ wsY0, w ∈ wsY_through := by decide +kernel

set_option maxHeartbeats 4000000 in
set_option maxRecDepth 100000 in
theorem kY_through (l : Launch) (dC : Nat → ClassId) (dI : Nat → Nat → Nat) (cb : Nat → ClassId) (r0 b0 b1 b2 b3 b4 b5 b6 b7 : Nat) (th : Int32) (cl : Nat → Nat) (t : TF) (tn : Nat) (w : WF) (wn : Nat) (ko mw : Nat) (sz : Nat) (htn : tn ≤ 2040) (x y : Int32) : Met l yY_through wsY_through ({ frames := 0, cells := 0, slots := 0, locals := 0 }) (Pm [.ref r0, .int x, .int y] (dC, dI) clS [(cb 0, .int), (cb 1, .int), (cb 2, .int), (cb 3, .int), (cb 4, .int), (cb 5, .int), (cb 6, .long), (cb 7, .int)] [(r0, .inr (1, [.int th, .ref b0, .int (nI tn), .ref b1, .ref b2, .ref b3, .int (nI wn), .ref b4, .ref b5, .ref b6, .ref b7, .int (nI ko), .int (nI mw)])), (b0, .inl (cb 0, 8, .inl (fun z9 => nI (cl z9)))), (b1, .inl (cb 1, 2040, .inl (fun z9 => nI ((t z9).1 / 256)))), (b2, .inl (cb 2, 2040, .inl (fun z9 => nI ((t z9).1 % 256)))), (b3, .inl (cb 3, 2040, .inl (fun z9 => (t z9).2))), (b4, .inl (cb 4, 65, .inl (fun z9 => nI ((w z9).1 / 256)))), (b5, .inl (cb 5, 65, .inl (fun z9 => nI ((w z9).1 % 256)))), (b6, .inl (cb 6, 65, .inr (.inl (fun z9 => (w z9).2.1)))), (b7, .inl (cb 7, 65, .inl (fun z9 => (w z9).2.2)))] sz) (QmI (trM t tn x y) (dC, dI) clS [(r0, .inr (1, [.int th, .ref b0, .int (nI tn), .ref b1, .ref b2, .ref b3, .int (nI wn), .ref b4, .ref b5, .ref b6, .ref b7, .int (nI ko), .int (nI mw)])), (b0, .inl (cb 0, 8, .inl (fun z9 => nI (cl z9)))), (b1, .inl (cb 1, 2040, .inl (fun z9 => nI ((t z9).1 / 256)))), (b2, .inl (cb 2, 2040, .inl (fun z9 => nI ((t z9).1 % 256)))), (b3, .inl (cb 3, 2040, .inl (fun z9 => (t z9).2))), (b4, .inl (cb 4, 65, .inl (fun z9 => nI ((w z9).1 / 256)))), (b5, .inl (cb 5, 65, .inl (fun z9 => nI ((w z9).1 % 256)))), (b6, .inl (cb 6, 65, .inr (.inl (fun z9 => (w z9).2.1)))), (b7, .inl (cb 7, 65, .inl (fun z9 => (w z9).2.2)))] [(r0, .inr (1, [.int (bI (bad tn 2 x y)), .ref b0, .int (nI tn), .ref b1, .ref b2, .ref b3, .int (nI wn), .ref b4, .ref b5, .ref b6, .ref b7, .int (nI ko), .int (nI mw)])), (b0, .inl (cb 0, 8, .inl (fun z9 => nI (cl z9)))), (b1, .inl (cb 1, 2040, .inl (fun z9 => nI ((t z9).1 / 256)))), (b2, .inl (cb 2, 2040, .inl (fun z9 => nI ((t z9).1 % 256)))), (b3, .inl (cb 3, 2040, .inl (fun z9 => (t z9).2))), (b4, .inl (cb 4, 65, .inl (fun z9 => nI ((w z9).1 / 256)))), (b5, .inl (cb 5, 65, .inl (fun z9 => nI ((w z9).1 % 256)))), (b6, .inl (cb 6, 65, .inr (.inl (fun z9 => (w z9).2.1)))), (b7, .inl (cb 7, 65, .inl (fun z9 => (w z9).2.2)))] sz) 0 0 (va_A [(r0, .inr (1, [.int th, .ref b0, .int (nI tn), .ref b1, .ref b2, .ref b3, .int (nI wn), .ref b4, .ref b5, .ref b6, .ref b7, .int (nI ko), .int (nI mw)])), (b0, .inl (cb 0, 8, .inl (fun z9 => nI (cl z9)))), (b1, .inl (cb 1, 2040, .inl (fun z9 => nI ((t z9).1 / 256)))), (b2, .inl (cb 2, 2040, .inl (fun z9 => nI ((t z9).1 % 256)))), (b3, .inl (cb 3, 2040, .inl (fun z9 => (t z9).2))), (b4, .inl (cb 4, 65, .inl (fun z9 => nI ((w z9).1 / 256)))), (b5, .inl (cb 5, 65, .inl (fun z9 => nI ((w z9).1 % 256)))), (b6, .inl (cb 6, 65, .inr (.inl (fun z9 => (w z9).2.1)))), (b7, .inl (cb 7, 65, .inl (fun z9 => (w z9).2.2)))] sz) := by
  refine Met.ofW (cc := cY_through) (maxL := 3) (ret := (some .int)) (by decide) rfl ?_
  intro p e s m args below meth c s₁ B hml hv
  obtain ⟨hargs, hsz, hP, hK, hD0⟩ := hv
  have hx := B.exec
  have hb := B.bytes
  have hr := B.returns
  have hts := atoms_spec (ws := wsY_through) B.pre
  have hown : s.vm.findClass RY = some m.cls := findClass_of_methodNamed B.named
  have hlocks := B.notSynchronized
  subst hsz
  have hD := hD0.self (sz := s.heap.size)
  obtain ⟨A, hAe⟩ : ∃ A, A = va_A [(r0, .inr (1, [.int th, .ref b0, .int (nI tn), .ref b1, .ref b2, .ref b3, .int (nI wn), .ref b4, .ref b5, .ref b6, .ref b7, .int (nI ko), .int (nI mw)])), (b0, .inl (cb 0, 8, .inl (fun z9 => nI (cl z9)))), (b1, .inl (cb 1, 2040, .inl (fun z9 => nI ((t z9).1 / 256)))), (b2, .inl (cb 2, 2040, .inl (fun z9 => nI ((t z9).1 % 256)))), (b3, .inl (cb 3, 2040, .inl (fun z9 => (t z9).2))), (b4, .inl (cb 4, 65, .inl (fun z9 => nI ((w z9).1 / 256)))), (b5, .inl (cb 5, 65, .inl (fun z9 => nI ((w z9).1 % 256)))), (b6, .inl (cb 6, 65, .inr (.inl (fun z9 => (w z9).2.1)))), (b7, .inl (cb 7, 65, .inl (fun z9 => (w z9).2.2)))] s.heap.size := ⟨_, rfl⟩
  rw [← hAe] at hD ⊢
  have hA : ∀ q : Nat, s.heap.size ≤ q → A q := fun q h => by rw [hAe]; exact Or.inr h
  have hS : va_S A s.heap s.heap [] := va_S.rf
  have hP : va_P (dC, dI) clS [(r0, .inr (1, [.int th, .ref b0, .int (nI tn), .ref b1, .ref b2, .ref b3, .int (nI wn), .ref b4, .ref b5, .ref b6, .ref b7, .int (nI ko), .int (nI mw)])), (b0, .inl (cb 0, 8, .inl (fun z9 => nI (cl z9)))), (b1, .inl (cb 1, 2040, .inl (fun z9 => nI ((t z9).1 / 256)))), (b2, .inl (cb 2, 2040, .inl (fun z9 => nI ((t z9).1 % 256)))), (b3, .inl (cb 3, 2040, .inl (fun z9 => (t z9).2))), (b4, .inl (cb 4, 65, .inl (fun z9 => nI ((w z9).1 / 256)))), (b5, .inl (cb 5, 65, .inl (fun z9 => nI ((w z9).1 % 256)))), (b6, .inl (cb 6, 65, .inr (.inl (fun z9 => (w z9).2.1)))), (b7, .inl (cb 7, 65, .inl (fun z9 => (w z9).2.2)))] s.heap := hP
  have hl := lv_entry ([.ref r0, .int x, .int y]) (n := 3) (Nat.le_of_ble_eq_true rfl)
  have hE : entryFrame m args 3 = F0 m 0 ((lg_sl ([.ref r0, .int x, .int y]) ++ List.replicate (3 - (lg_sl ([.ref r0, .int x, .int y])).length) Slot.unset).toArray) [] := by rw [hargs]; exact lg_entry_eq m ([.ref r0, .int x, .int y]) 3
  rw [hE]
  generalize (lg_sl ([.ref r0, .int x, .int y]) ++ List.replicate (3 - (lg_sl ([.ref r0, .int x, .int y])).length) Slot.unset).toArray = ls at hl ⊢
  have hl : lv_has ls 3 [(0, .ref r0), (1, .int x), (2, .int y)] := hl
  refine lv_aload_n hx hb dY_through_0 rfl (lv_at hl 0 rfl) ?_
  refine lv_iload_n hx hb dY_through_1 rfl (lv_at hl 1 rfl) ?_
  refine lv_if_lt (tgt := 22) hx hb dY_through_2 (by decide) (fun c_2 => ?_) (fun c_2 => ?_)
  · have e9 : bad tn 2 x y = true := by simp [bad, c_2]
    refine lv_iconst (v := 1) hx hb dY_through_22 (by decide) ?_
    refine tp_i (y := bI (bad tn 2 x y)) (by rw [e9]; rfl) ?_
    refine lv_goto (tgt := 27) hx hb dY_through_23 (by decide) ?_
    refine va_put (D := (dC, dI)) (ci := 1) (v := .int (bI (bad tn 2 x y))) (ty := .int) (C := RY) (T := TY) (N := 13) hx hb hts in_Y_through_Y tyY tyY_ok nmY hown hK hP hD hS 0 rfl rfl 0 (by decide) (hts (.fieldLink RY 35 "CausalGateModel" "thrown" "I") (by decide +kernel)) (fun _ h9 => h9) rfl (by decide +kernel) rfl rfl (Nat.le_of_ble_eq_true rfl) dY_through_27 (fun H locs hP hD hS => ?_)
    have hP : va_P (dC, dI) clS [(r0, .inr (1, [.int (bI (bad tn 2 x y)), .ref b0, .int (nI tn), .ref b1, .ref b2, .ref b3, .int (nI wn), .ref b4, .ref b5, .ref b6, .ref b7, .int (nI ko), .int (nI mw)])), (b0, .inl (cb 0, 8, .inl (fun z9 => nI (cl z9)))), (b1, .inl (cb 1, 2040, .inl (fun z9 => nI ((t z9).1 / 256)))), (b2, .inl (cb 2, 2040, .inl (fun z9 => nI ((t z9).1 % 256)))), (b3, .inl (cb 3, 2040, .inl (fun z9 => (t z9).2))), (b4, .inl (cb 4, 65, .inl (fun z9 => nI ((w z9).1 / 256)))), (b5, .inl (cb 5, 65, .inl (fun z9 => nI ((w z9).1 % 256)))), (b6, .inl (cb 6, 65, .inr (.inl (fun z9 => (w z9).2.1)))), (b7, .inl (cb 7, 65, .inl (fun z9 => (w z9).2.2)))] H := hP
    have hD : va_D A [(r0, .inr (1, [.int (bI (bad tn 2 x y)), .ref b0, .int (nI tn), .ref b1, .ref b2, .ref b3, .int (nI wn), .ref b4, .ref b5, .ref b6, .ref b7, .int (nI ko), .int (nI mw)])), (b0, .inl (cb 0, 8, .inl (fun z9 => nI (cl z9)))), (b1, .inl (cb 1, 2040, .inl (fun z9 => nI ((t z9).1 / 256)))), (b2, .inl (cb 2, 2040, .inl (fun z9 => nI ((t z9).1 % 256)))), (b3, .inl (cb 3, 2040, .inl (fun z9 => (t z9).2))), (b4, .inl (cb 4, 65, .inl (fun z9 => nI ((w z9).1 / 256)))), (b5, .inl (cb 5, 65, .inl (fun z9 => nI ((w z9).1 % 256)))), (b6, .inl (cb 6, 65, .inr (.inl (fun z9 => (w z9).2.1)))), (b7, .inl (cb 7, 65, .inl (fun z9 => (w z9).2.2)))] := hD
    refine lv_aload_n hx hb dY_through_30 rfl (lv_at hl 0 rfl) ?_
    refine va_get (D := (dC, dI)) (ci := 1) (v := .int (bI (bad tn 2 x y))) (C := RY) (T := TY) (N := 13) hx hb hts in_Y_through_Y hown hK hP 0 rfl rfl 0 (by decide) (hts (.fieldLink RY 35 "CausalGateModel" "thrown" "I") (by decide +kernel)) (fun _ h9 => h9) rfl dY_through_31 ?_
    refine lv_if_le (tgt := 41) hx hb dY_through_34 (by decide) (fun c_34 => ?_) (fun c_34 => ?_)
    · exact absurd c_34 (by rw [e9]; decide)
    · refine lv_iconst (v := 0) hx hb dY_through_37 (by decide) ?_
      refine lv_goto (tgt := 74) hx hb dY_through_38 (by decide) ?_
      exact mi_ret hx hb hr hlocks (by unfold trM; rw [if_pos e9]) hAe hP hD hS dY_through_74
  · refine lv_iload_n hx hb dY_through_5 rfl (lv_at hl 1 rfl) ?_
    refine lv_aload_n hx hb dY_through_6 rfl (lv_at hl 0 rfl) ?_
    refine va_get (D := (dC, dI)) (ci := 1) (v := .int (nI tn)) (C := RY) (T := TY) (N := 13) hx hb hts in_Y_through_Y hown hK hP 0 rfl rfl 2 (by decide) (hts (.fieldLink RY 52 "CausalGateModel" "through" "I") (by decide +kernel)) (fun _ h9 => h9) rfl dY_through_7 ?_
    refine lv_icmp_ge (tgt := 22) hx hb dY_through_10 (by decide) (fun c_10 => ?_) (fun c_10 => ?_)
    · have e9 : bad tn 2 x y = true := by simp [bad, c_10]
      refine lv_iconst (v := 1) hx hb dY_through_22 (by decide) ?_
      refine tp_i (y := bI (bad tn 2 x y)) (by rw [e9]; rfl) ?_
      refine lv_goto (tgt := 27) hx hb dY_through_23 (by decide) ?_
      refine va_put (D := (dC, dI)) (ci := 1) (v := .int (bI (bad tn 2 x y))) (ty := .int) (C := RY) (T := TY) (N := 13) hx hb hts in_Y_through_Y tyY tyY_ok nmY hown hK hP hD hS 0 rfl rfl 0 (by decide) (hts (.fieldLink RY 35 "CausalGateModel" "thrown" "I") (by decide +kernel)) (fun _ h9 => h9) rfl (by decide +kernel) rfl rfl (Nat.le_of_ble_eq_true rfl) dY_through_27 (fun H locs hP hD hS => ?_)
      have hP : va_P (dC, dI) clS [(r0, .inr (1, [.int (bI (bad tn 2 x y)), .ref b0, .int (nI tn), .ref b1, .ref b2, .ref b3, .int (nI wn), .ref b4, .ref b5, .ref b6, .ref b7, .int (nI ko), .int (nI mw)])), (b0, .inl (cb 0, 8, .inl (fun z9 => nI (cl z9)))), (b1, .inl (cb 1, 2040, .inl (fun z9 => nI ((t z9).1 / 256)))), (b2, .inl (cb 2, 2040, .inl (fun z9 => nI ((t z9).1 % 256)))), (b3, .inl (cb 3, 2040, .inl (fun z9 => (t z9).2))), (b4, .inl (cb 4, 65, .inl (fun z9 => nI ((w z9).1 / 256)))), (b5, .inl (cb 5, 65, .inl (fun z9 => nI ((w z9).1 % 256)))), (b6, .inl (cb 6, 65, .inr (.inl (fun z9 => (w z9).2.1)))), (b7, .inl (cb 7, 65, .inl (fun z9 => (w z9).2.2)))] H := hP
      have hD : va_D A [(r0, .inr (1, [.int (bI (bad tn 2 x y)), .ref b0, .int (nI tn), .ref b1, .ref b2, .ref b3, .int (nI wn), .ref b4, .ref b5, .ref b6, .ref b7, .int (nI ko), .int (nI mw)])), (b0, .inl (cb 0, 8, .inl (fun z9 => nI (cl z9)))), (b1, .inl (cb 1, 2040, .inl (fun z9 => nI ((t z9).1 / 256)))), (b2, .inl (cb 2, 2040, .inl (fun z9 => nI ((t z9).1 % 256)))), (b3, .inl (cb 3, 2040, .inl (fun z9 => (t z9).2))), (b4, .inl (cb 4, 65, .inl (fun z9 => nI ((w z9).1 / 256)))), (b5, .inl (cb 5, 65, .inl (fun z9 => nI ((w z9).1 % 256)))), (b6, .inl (cb 6, 65, .inr (.inl (fun z9 => (w z9).2.1)))), (b7, .inl (cb 7, 65, .inl (fun z9 => (w z9).2.2)))] := hD
      refine lv_aload_n hx hb dY_through_30 rfl (lv_at hl 0 rfl) ?_
      refine va_get (D := (dC, dI)) (ci := 1) (v := .int (bI (bad tn 2 x y))) (C := RY) (T := TY) (N := 13) hx hb hts in_Y_through_Y hown hK hP 0 rfl rfl 0 (by decide) (hts (.fieldLink RY 35 "CausalGateModel" "thrown" "I") (by decide +kernel)) (fun _ h9 => h9) rfl dY_through_31 ?_
      refine lv_if_le (tgt := 41) hx hb dY_through_34 (by decide) (fun c_34 => ?_) (fun c_34 => ?_)
      · exact absurd c_34 (by rw [e9]; decide)
      · refine lv_iconst (v := 0) hx hb dY_through_37 (by decide) ?_
        refine lv_goto (tgt := 74) hx hb dY_through_38 (by decide) ?_
        exact mi_ret hx hb hr hlocks (by unfold trM; rw [if_pos e9]) hAe hP hD hS dY_through_74
    · refine lv_iload_n hx hb dY_through_13 rfl (lv_at hl 2 rfl) ?_
      refine lv_if_lt (tgt := 22) hx hb dY_through_14 (by decide) (fun c_14 => ?_) (fun c_14 => ?_)
      · have e9 : bad tn 2 x y = true := by simp [bad, c_14]
        refine lv_iconst (v := 1) hx hb dY_through_22 (by decide) ?_
        refine tp_i (y := bI (bad tn 2 x y)) (by rw [e9]; rfl) ?_
        refine lv_goto (tgt := 27) hx hb dY_through_23 (by decide) ?_
        refine va_put (D := (dC, dI)) (ci := 1) (v := .int (bI (bad tn 2 x y))) (ty := .int) (C := RY) (T := TY) (N := 13) hx hb hts in_Y_through_Y tyY tyY_ok nmY hown hK hP hD hS 0 rfl rfl 0 (by decide) (hts (.fieldLink RY 35 "CausalGateModel" "thrown" "I") (by decide +kernel)) (fun _ h9 => h9) rfl (by decide +kernel) rfl rfl (Nat.le_of_ble_eq_true rfl) dY_through_27 (fun H locs hP hD hS => ?_)
        have hP : va_P (dC, dI) clS [(r0, .inr (1, [.int (bI (bad tn 2 x y)), .ref b0, .int (nI tn), .ref b1, .ref b2, .ref b3, .int (nI wn), .ref b4, .ref b5, .ref b6, .ref b7, .int (nI ko), .int (nI mw)])), (b0, .inl (cb 0, 8, .inl (fun z9 => nI (cl z9)))), (b1, .inl (cb 1, 2040, .inl (fun z9 => nI ((t z9).1 / 256)))), (b2, .inl (cb 2, 2040, .inl (fun z9 => nI ((t z9).1 % 256)))), (b3, .inl (cb 3, 2040, .inl (fun z9 => (t z9).2))), (b4, .inl (cb 4, 65, .inl (fun z9 => nI ((w z9).1 / 256)))), (b5, .inl (cb 5, 65, .inl (fun z9 => nI ((w z9).1 % 256)))), (b6, .inl (cb 6, 65, .inr (.inl (fun z9 => (w z9).2.1)))), (b7, .inl (cb 7, 65, .inl (fun z9 => (w z9).2.2)))] H := hP
        have hD : va_D A [(r0, .inr (1, [.int (bI (bad tn 2 x y)), .ref b0, .int (nI tn), .ref b1, .ref b2, .ref b3, .int (nI wn), .ref b4, .ref b5, .ref b6, .ref b7, .int (nI ko), .int (nI mw)])), (b0, .inl (cb 0, 8, .inl (fun z9 => nI (cl z9)))), (b1, .inl (cb 1, 2040, .inl (fun z9 => nI ((t z9).1 / 256)))), (b2, .inl (cb 2, 2040, .inl (fun z9 => nI ((t z9).1 % 256)))), (b3, .inl (cb 3, 2040, .inl (fun z9 => (t z9).2))), (b4, .inl (cb 4, 65, .inl (fun z9 => nI ((w z9).1 / 256)))), (b5, .inl (cb 5, 65, .inl (fun z9 => nI ((w z9).1 % 256)))), (b6, .inl (cb 6, 65, .inr (.inl (fun z9 => (w z9).2.1)))), (b7, .inl (cb 7, 65, .inl (fun z9 => (w z9).2.2)))] := hD
        refine lv_aload_n hx hb dY_through_30 rfl (lv_at hl 0 rfl) ?_
        refine va_get (D := (dC, dI)) (ci := 1) (v := .int (bI (bad tn 2 x y))) (C := RY) (T := TY) (N := 13) hx hb hts in_Y_through_Y hown hK hP 0 rfl rfl 0 (by decide) (hts (.fieldLink RY 35 "CausalGateModel" "thrown" "I") (by decide +kernel)) (fun _ h9 => h9) rfl dY_through_31 ?_
        refine lv_if_le (tgt := 41) hx hb dY_through_34 (by decide) (fun c_34 => ?_) (fun c_34 => ?_)
        · exact absurd c_34 (by rw [e9]; decide)
        · refine lv_iconst (v := 0) hx hb dY_through_37 (by decide) ?_
          refine lv_goto (tgt := 74) hx hb dY_through_38 (by decide) ?_
          exact mi_ret hx hb hr hlocks (by unfold trM; rw [if_pos e9]) hAe hP hD hS dY_through_74
      · refine lv_iload_n hx hb dY_through_17 rfl (lv_at hl 2 rfl) ?_
        refine lv_iconst (v := 2) hx hb dY_through_18 (by decide) ?_
        refine lv_icmp_le (tgt := 26) hx hb dY_through_19 (by decide) (fun c_19 => ?_) (fun c_19 => ?_)
        · have e9 : bad tn 2 x y = false := by simp [bad, c_2, c_10, c_14, Int32.not_lt.mpr c_19]
          obtain ⟨j, hj, rfl⟩ := ix_of c_2 c_10 (by omega)
          refine lv_iconst (v := 0) hx hb dY_through_26 (by decide) ?_
          refine tp_i (y := bI (bad tn 2 (nI j) y)) (by rw [e9]; rfl) ?_
          refine va_put (D := (dC, dI)) (ci := 1) (v := .int (bI (bad tn 2 (nI j) y))) (ty := .int) (C := RY) (T := TY) (N := 13) hx hb hts in_Y_through_Y tyY tyY_ok nmY hown hK hP hD hS 0 rfl rfl 0 (by decide) (hts (.fieldLink RY 35 "CausalGateModel" "thrown" "I") (by decide +kernel)) (fun _ h9 => h9) rfl (by decide +kernel) rfl rfl (Nat.le_of_ble_eq_true rfl) dY_through_27 (fun H locs hP hD hS => ?_)
          have hP : va_P (dC, dI) clS [(r0, .inr (1, [.int (bI (bad tn 2 (nI j) y)), .ref b0, .int (nI tn), .ref b1, .ref b2, .ref b3, .int (nI wn), .ref b4, .ref b5, .ref b6, .ref b7, .int (nI ko), .int (nI mw)])), (b0, .inl (cb 0, 8, .inl (fun z9 => nI (cl z9)))), (b1, .inl (cb 1, 2040, .inl (fun z9 => nI ((t z9).1 / 256)))), (b2, .inl (cb 2, 2040, .inl (fun z9 => nI ((t z9).1 % 256)))), (b3, .inl (cb 3, 2040, .inl (fun z9 => (t z9).2))), (b4, .inl (cb 4, 65, .inl (fun z9 => nI ((w z9).1 / 256)))), (b5, .inl (cb 5, 65, .inl (fun z9 => nI ((w z9).1 % 256)))), (b6, .inl (cb 6, 65, .inr (.inl (fun z9 => (w z9).2.1)))), (b7, .inl (cb 7, 65, .inl (fun z9 => (w z9).2.2)))] H := hP
          have hD : va_D A [(r0, .inr (1, [.int (bI (bad tn 2 (nI j) y)), .ref b0, .int (nI tn), .ref b1, .ref b2, .ref b3, .int (nI wn), .ref b4, .ref b5, .ref b6, .ref b7, .int (nI ko), .int (nI mw)])), (b0, .inl (cb 0, 8, .inl (fun z9 => nI (cl z9)))), (b1, .inl (cb 1, 2040, .inl (fun z9 => nI ((t z9).1 / 256)))), (b2, .inl (cb 2, 2040, .inl (fun z9 => nI ((t z9).1 % 256)))), (b3, .inl (cb 3, 2040, .inl (fun z9 => (t z9).2))), (b4, .inl (cb 4, 65, .inl (fun z9 => nI ((w z9).1 / 256)))), (b5, .inl (cb 5, 65, .inl (fun z9 => nI ((w z9).1 % 256)))), (b6, .inl (cb 6, 65, .inr (.inl (fun z9 => (w z9).2.1)))), (b7, .inl (cb 7, 65, .inl (fun z9 => (w z9).2.2)))] := hD
          refine lv_aload_n hx hb dY_through_30 rfl (lv_at hl 0 rfl) ?_
          refine va_get (D := (dC, dI)) (ci := 1) (v := .int (bI (bad tn 2 (nI j) y))) (C := RY) (T := TY) (N := 13) hx hb hts in_Y_through_Y hown hK hP 0 rfl rfl 0 (by decide) (hts (.fieldLink RY 35 "CausalGateModel" "thrown" "I") (by decide +kernel)) (fun _ h9 => h9) rfl dY_through_31 ?_
          refine lv_if_le (tgt := 41) hx hb dY_through_34 (by decide) (fun c_34 => ?_) (fun c_34 => ?_)
          · refine lv_iload_n hx hb dY_through_41 rfl (lv_at hl 2 rfl) ?_
            refine lv_if_ne (tgt := 54) hx hb dY_through_42 (by decide) (fun c_42 => ?_) (fun c_42 => ?_)
            · refine lv_iload_n hx hb dY_through_54 rfl (lv_at hl 2 rfl) ?_
              refine lv_iconst (v := 1) hx hb dY_through_55 (by decide) ?_
              refine lv_icmp_ne (tgt := 68) hx hb dY_through_56 (by decide) (fun c_56 => ?_) (fun c_56 => ?_)
              · refine lv_aload_n hx hb dY_through_68 rfl (lv_at hl 0 rfl) ?_
                refine va_get (D := (dC, dI)) (ci := 1) (v := .ref b3) (C := RY) (T := TY) (N := 13) hx hb hts in_Y_through_Y hown hK hP 0 rfl rfl 5 (by decide) (hts (.fieldLink RY 19 "CausalGateModel" "labels" "[I") (by decide +kernel)) (fun _ h9 => h9) rfl dY_through_69 ?_
                refine lv_iload_n hx hb dY_through_72 rfl (lv_at hl 1 rfl) ?_
                refine va_iald hx hb hK hP 4 3 rfl rfl (vp_in_nI (by omega) (by decide)) dY_through_73 ?_
                refine tp_i (y := (t j).2) (by rw [nI_clamp (by omega)]) ?_
                exact mi_ret hx hb hr hlocks (by unfold trM; rw [if_neg (show ¬ bad tn 2 (nI j) y = true by rw [e9]; decide), nI_clamp (show j < 2 ^ 31 by omega)]; first | rw [if_pos c_42] | rw [if_neg c_42, if_pos c_56] | rw [if_neg c_42, if_neg c_56]) hAe hP hD hS dY_through_74
              · refine lv_aload_n hx hb dY_through_59 rfl (lv_at hl 0 rfl) ?_
                refine va_get (D := (dC, dI)) (ci := 1) (v := .ref b2) (C := RY) (T := TY) (N := 13) hx hb hts in_Y_through_Y hown hK hP 0 rfl rfl 4 (by decide) (hts (.fieldLink RY 16 "CausalGateModel" "seqs" "[I") (by decide +kernel)) (fun _ h9 => h9) rfl dY_through_60 ?_
                refine lv_iload_n hx hb dY_through_63 rfl (lv_at hl 1 rfl) ?_
                refine va_iald hx hb hK hP 3 2 rfl rfl (vp_in_nI (by omega) (by decide)) dY_through_64 ?_
                refine tp_i (y := nI ((t j).1 % 256)) (by rw [nI_clamp (by omega)]) ?_
                refine lv_goto (tgt := 74) hx hb dY_through_65 (by decide) ?_
                exact mi_ret hx hb hr hlocks (by unfold trM; rw [if_neg (show ¬ bad tn 2 (nI j) y = true by rw [e9]; decide), nI_clamp (show j < 2 ^ 31 by omega)]; first | rw [if_pos c_42] | rw [if_neg c_42, if_pos c_56] | rw [if_neg c_42, if_neg c_56]) hAe hP hD hS dY_through_74
            · refine lv_aload_n hx hb dY_through_45 rfl (lv_at hl 0 rfl) ?_
              refine va_get (D := (dC, dI)) (ci := 1) (v := .ref b1) (C := RY) (T := TY) (N := 13) hx hb hts in_Y_through_Y hown hK hP 0 rfl rfl 3 (by decide) (hts (.fieldLink RY 13 "CausalGateModel" "actors" "[I") (by decide +kernel)) (fun _ h9 => h9) rfl dY_through_46 ?_
              refine lv_iload_n hx hb dY_through_49 rfl (lv_at hl 1 rfl) ?_
              refine va_iald hx hb hK hP 2 1 rfl rfl (vp_in_nI (by omega) (by decide)) dY_through_50 ?_
              refine tp_i (y := nI ((t j).1 / 256)) (by rw [nI_clamp (by omega)]) ?_
              refine lv_goto (tgt := 74) hx hb dY_through_51 (by decide) ?_
              exact mi_ret hx hb hr hlocks (by unfold trM; rw [if_neg (show ¬ bad tn 2 (nI j) y = true by rw [e9]; decide), nI_clamp (show j < 2 ^ 31 by omega)]; first | rw [if_pos c_42] | rw [if_neg c_42, if_pos c_56] | rw [if_neg c_42, if_neg c_56]) hAe hP hD hS dY_through_74
          · exact absurd (by rw [e9]; decide) c_34
        · have e9 : bad tn 2 x y = true := by simp [bad, Int32.not_le.mp c_19]
          refine lv_iconst (v := 1) hx hb dY_through_22 (by decide) ?_
          refine tp_i (y := bI (bad tn 2 x y)) (by rw [e9]; rfl) ?_
          refine lv_goto (tgt := 27) hx hb dY_through_23 (by decide) ?_
          refine va_put (D := (dC, dI)) (ci := 1) (v := .int (bI (bad tn 2 x y))) (ty := .int) (C := RY) (T := TY) (N := 13) hx hb hts in_Y_through_Y tyY tyY_ok nmY hown hK hP hD hS 0 rfl rfl 0 (by decide) (hts (.fieldLink RY 35 "CausalGateModel" "thrown" "I") (by decide +kernel)) (fun _ h9 => h9) rfl (by decide +kernel) rfl rfl (Nat.le_of_ble_eq_true rfl) dY_through_27 (fun H locs hP hD hS => ?_)
          have hP : va_P (dC, dI) clS [(r0, .inr (1, [.int (bI (bad tn 2 x y)), .ref b0, .int (nI tn), .ref b1, .ref b2, .ref b3, .int (nI wn), .ref b4, .ref b5, .ref b6, .ref b7, .int (nI ko), .int (nI mw)])), (b0, .inl (cb 0, 8, .inl (fun z9 => nI (cl z9)))), (b1, .inl (cb 1, 2040, .inl (fun z9 => nI ((t z9).1 / 256)))), (b2, .inl (cb 2, 2040, .inl (fun z9 => nI ((t z9).1 % 256)))), (b3, .inl (cb 3, 2040, .inl (fun z9 => (t z9).2))), (b4, .inl (cb 4, 65, .inl (fun z9 => nI ((w z9).1 / 256)))), (b5, .inl (cb 5, 65, .inl (fun z9 => nI ((w z9).1 % 256)))), (b6, .inl (cb 6, 65, .inr (.inl (fun z9 => (w z9).2.1)))), (b7, .inl (cb 7, 65, .inl (fun z9 => (w z9).2.2)))] H := hP
          have hD : va_D A [(r0, .inr (1, [.int (bI (bad tn 2 x y)), .ref b0, .int (nI tn), .ref b1, .ref b2, .ref b3, .int (nI wn), .ref b4, .ref b5, .ref b6, .ref b7, .int (nI ko), .int (nI mw)])), (b0, .inl (cb 0, 8, .inl (fun z9 => nI (cl z9)))), (b1, .inl (cb 1, 2040, .inl (fun z9 => nI ((t z9).1 / 256)))), (b2, .inl (cb 2, 2040, .inl (fun z9 => nI ((t z9).1 % 256)))), (b3, .inl (cb 3, 2040, .inl (fun z9 => (t z9).2))), (b4, .inl (cb 4, 65, .inl (fun z9 => nI ((w z9).1 / 256)))), (b5, .inl (cb 5, 65, .inl (fun z9 => nI ((w z9).1 % 256)))), (b6, .inl (cb 6, 65, .inr (.inl (fun z9 => (w z9).2.1)))), (b7, .inl (cb 7, 65, .inl (fun z9 => (w z9).2.2)))] := hD
          refine lv_aload_n hx hb dY_through_30 rfl (lv_at hl 0 rfl) ?_
          refine va_get (D := (dC, dI)) (ci := 1) (v := .int (bI (bad tn 2 x y))) (C := RY) (T := TY) (N := 13) hx hb hts in_Y_through_Y hown hK hP 0 rfl rfl 0 (by decide) (hts (.fieldLink RY 35 "CausalGateModel" "thrown" "I") (by decide +kernel)) (fun _ h9 => h9) rfl dY_through_31 ?_
          refine lv_if_le (tgt := 41) hx hb dY_through_34 (by decide) (fun c_34 => ?_) (fun c_34 => ?_)
          · exact absurd c_34 (by rw [e9]; decide)
          · refine lv_iconst (v := 0) hx hb dY_through_37 (by decide) ?_
            refine lv_goto (tgt := 74) hx hb dY_through_38 (by decide) ?_
            exact mi_ret hx hb hr hlocks (by unfold trM; rw [if_pos e9]) hAe hP hD hS dY_through_74

set_option maxRecDepth 20000 in
theorem in_Y_waiting_Y : ∀ w ∈ wsY0, w ∈ wsY_waiting := by decide +kernel

set_option maxHeartbeats 4000000 in
set_option maxRecDepth 100000 in
theorem kY_waiting (l : Launch) (dC : Nat → ClassId) (dI : Nat → Nat → Nat) (cb : Nat → ClassId) (r0 b0 b1 b2 b3 b4 b5 b6 b7 : Nat) (th : Int32) (cl : Nat → Nat) (t : TF) (tn : Nat) (w : WF) (wn : Nat) (ko mw : Nat) (sz : Nat) (hcl : ∀ a, a < 8 → cl a < 256) (hwn : wn ≤ 65) (hw : ∀ j, j < wn → (w j).1 < 2048) (x y : Int32) : Met l yY_waiting wsY_waiting ({ frames := 2, cells := 0, slots := 0, locals := 47 }) (Pm [.ref r0, .int x, .int y] (dC, dI) clS [(cb 0, .int), (cb 1, .int), (cb 2, .int), (cb 3, .int), (cb 4, .int), (cb 5, .int), (cb 6, .long), (cb 7, .int)] [(r0, .inr (1, [.int th, .ref b0, .int (nI tn), .ref b1, .ref b2, .ref b3, .int (nI wn), .ref b4, .ref b5, .ref b6, .ref b7, .int (nI ko), .int (nI mw)])), (b0, .inl (cb 0, 8, .inl (fun z9 => nI (cl z9)))), (b1, .inl (cb 1, 2040, .inl (fun z9 => nI ((t z9).1 / 256)))), (b2, .inl (cb 2, 2040, .inl (fun z9 => nI ((t z9).1 % 256)))), (b3, .inl (cb 3, 2040, .inl (fun z9 => (t z9).2))), (b4, .inl (cb 4, 65, .inl (fun z9 => nI ((w z9).1 / 256)))), (b5, .inl (cb 5, 65, .inl (fun z9 => nI ((w z9).1 % 256)))), (b6, .inl (cb 6, 65, .inr (.inl (fun z9 => (w z9).2.1)))), (b7, .inl (cb 7, 65, .inl (fun z9 => (w z9).2.2)))] sz) (QmI (wtM cl w wn x y) (dC, dI) clS [(r0, .inr (1, [.int th, .ref b0, .int (nI tn), .ref b1, .ref b2, .ref b3, .int (nI wn), .ref b4, .ref b5, .ref b6, .ref b7, .int (nI ko), .int (nI mw)])), (b0, .inl (cb 0, 8, .inl (fun z9 => nI (cl z9)))), (b1, .inl (cb 1, 2040, .inl (fun z9 => nI ((t z9).1 / 256)))), (b2, .inl (cb 2, 2040, .inl (fun z9 => nI ((t z9).1 % 256)))), (b3, .inl (cb 3, 2040, .inl (fun z9 => (t z9).2))), (b4, .inl (cb 4, 65, .inl (fun z9 => nI ((w z9).1 / 256)))), (b5, .inl (cb 5, 65, .inl (fun z9 => nI ((w z9).1 % 256)))), (b6, .inl (cb 6, 65, .inr (.inl (fun z9 => (w z9).2.1)))), (b7, .inl (cb 7, 65, .inl (fun z9 => (w z9).2.2)))] [(r0, .inr (1, [.int (bI (bad wn 4 x y)), .ref b0, .int (nI tn), .ref b1, .ref b2, .ref b3, .int (nI wn), .ref b4, .ref b5, .ref b6, .ref b7, .int (nI ko), .int (nI mw)])), (b0, .inl (cb 0, 8, .inl (fun z9 => nI (cl z9)))), (b1, .inl (cb 1, 2040, .inl (fun z9 => nI ((t z9).1 / 256)))), (b2, .inl (cb 2, 2040, .inl (fun z9 => nI ((t z9).1 % 256)))), (b3, .inl (cb 3, 2040, .inl (fun z9 => (t z9).2))), (b4, .inl (cb 4, 65, .inl (fun z9 => nI ((w z9).1 / 256)))), (b5, .inl (cb 5, 65, .inl (fun z9 => nI ((w z9).1 % 256)))), (b6, .inl (cb 6, 65, .inr (.inl (fun z9 => (w z9).2.1)))), (b7, .inl (cb 7, 65, .inl (fun z9 => (w z9).2.2)))] sz) 0 0 (va_A [(r0, .inr (1, [.int th, .ref b0, .int (nI tn), .ref b1, .ref b2, .ref b3, .int (nI wn), .ref b4, .ref b5, .ref b6, .ref b7, .int (nI ko), .int (nI mw)])), (b0, .inl (cb 0, 8, .inl (fun z9 => nI (cl z9)))), (b1, .inl (cb 1, 2040, .inl (fun z9 => nI ((t z9).1 / 256)))), (b2, .inl (cb 2, 2040, .inl (fun z9 => nI ((t z9).1 % 256)))), (b3, .inl (cb 3, 2040, .inl (fun z9 => (t z9).2))), (b4, .inl (cb 4, 65, .inl (fun z9 => nI ((w z9).1 / 256)))), (b5, .inl (cb 5, 65, .inl (fun z9 => nI ((w z9).1 % 256)))), (b6, .inl (cb 6, 65, .inr (.inl (fun z9 => (w z9).2.1)))), (b7, .inl (cb 7, 65, .inl (fun z9 => (w z9).2.2)))] sz) := by
  refine Met.ofW (cc := cY_waiting) (maxL := 6) (ret := (some .int)) (by decide) rfl ?_
  intro p e s m args below meth c s₁ B hml hv
  obtain ⟨hargs, hsz, hP, hK, hD0⟩ := hv
  have hx := B.exec
  have hb := B.bytes
  have hr := B.returns
  have hts := atoms_spec (ws := wsY_waiting) B.pre
  have hown : s.vm.findClass RY = some m.cls := findClass_of_methodNamed B.named
  have hlocks := B.notSynchronized
  subst hsz
  have hD := hD0.self (sz := s.heap.size)
  obtain ⟨A, hAe⟩ : ∃ A, A = va_A [(r0, .inr (1, [.int th, .ref b0, .int (nI tn), .ref b1, .ref b2, .ref b3, .int (nI wn), .ref b4, .ref b5, .ref b6, .ref b7, .int (nI ko), .int (nI mw)])), (b0, .inl (cb 0, 8, .inl (fun z9 => nI (cl z9)))), (b1, .inl (cb 1, 2040, .inl (fun z9 => nI ((t z9).1 / 256)))), (b2, .inl (cb 2, 2040, .inl (fun z9 => nI ((t z9).1 % 256)))), (b3, .inl (cb 3, 2040, .inl (fun z9 => (t z9).2))), (b4, .inl (cb 4, 65, .inl (fun z9 => nI ((w z9).1 / 256)))), (b5, .inl (cb 5, 65, .inl (fun z9 => nI ((w z9).1 % 256)))), (b6, .inl (cb 6, 65, .inr (.inl (fun z9 => (w z9).2.1)))), (b7, .inl (cb 7, 65, .inl (fun z9 => (w z9).2.2)))] s.heap.size := ⟨_, rfl⟩
  rw [← hAe] at hD ⊢
  have hA : ∀ q : Nat, s.heap.size ≤ q → A q := fun q h => by rw [hAe]; exact Or.inr h
  have hS : va_S A s.heap s.heap [] := va_S.rf
  have hP : va_P (dC, dI) clS [(r0, .inr (1, [.int th, .ref b0, .int (nI tn), .ref b1, .ref b2, .ref b3, .int (nI wn), .ref b4, .ref b5, .ref b6, .ref b7, .int (nI ko), .int (nI mw)])), (b0, .inl (cb 0, 8, .inl (fun z9 => nI (cl z9)))), (b1, .inl (cb 1, 2040, .inl (fun z9 => nI ((t z9).1 / 256)))), (b2, .inl (cb 2, 2040, .inl (fun z9 => nI ((t z9).1 % 256)))), (b3, .inl (cb 3, 2040, .inl (fun z9 => (t z9).2))), (b4, .inl (cb 4, 65, .inl (fun z9 => nI ((w z9).1 / 256)))), (b5, .inl (cb 5, 65, .inl (fun z9 => nI ((w z9).1 % 256)))), (b6, .inl (cb 6, 65, .inr (.inl (fun z9 => (w z9).2.1)))), (b7, .inl (cb 7, 65, .inl (fun z9 => (w z9).2.2)))] s.heap := hP
  have hl := lv_entry ([.ref r0, .int x, .int y]) (n := 6) (Nat.le_of_ble_eq_true rfl)
  have hE : entryFrame m args 6 = F0 m 0 ((lg_sl ([.ref r0, .int x, .int y]) ++ List.replicate (6 - (lg_sl ([.ref r0, .int x, .int y])).length) Slot.unset).toArray) [] := by rw [hargs]; exact lg_entry_eq m ([.ref r0, .int x, .int y]) 6
  rw [hE]
  generalize (lg_sl ([.ref r0, .int x, .int y]) ++ List.replicate (6 - (lg_sl ([.ref r0, .int x, .int y])).length) Slot.unset).toArray = ls at hl ⊢
  have hl : lv_has ls 6 [(0, .ref r0), (1, .int x), (2, .int y)] := hl
  refine lv_aload_n hx hb dY_waiting_0 rfl (lv_at hl 0 rfl) ?_
  refine lv_iload_n hx hb dY_waiting_1 rfl (lv_at hl 1 rfl) ?_
  refine lv_if_lt (tgt := 22) hx hb dY_waiting_2 (by decide) (fun c_2 => ?_) (fun c_2 => ?_)
  · have e9 : bad wn 4 x y = true := by simp [bad, c_2]
    refine lv_iconst (v := 1) hx hb dY_waiting_22 (by decide) ?_
    refine tp_i (y := bI (bad wn 4 x y)) (by rw [e9]; rfl) ?_
    refine lv_goto (tgt := 27) hx hb dY_waiting_23 (by decide) ?_
    refine va_put (D := (dC, dI)) (ci := 1) (v := .int (bI (bad wn 4 x y))) (ty := .int) (C := RY) (T := TY) (N := 13) hx hb hts in_Y_waiting_Y tyY tyY_ok nmY hown hK hP hD hS 0 rfl rfl 0 (by decide) (hts (.fieldLink RY 35 "CausalGateModel" "thrown" "I") (by decide +kernel)) (fun _ h9 => h9) rfl (by decide +kernel) rfl rfl (Nat.le_of_ble_eq_true rfl) dY_waiting_27 (fun H locs hP hD hS => ?_)
    have hP : va_P (dC, dI) clS [(r0, .inr (1, [.int (bI (bad wn 4 x y)), .ref b0, .int (nI tn), .ref b1, .ref b2, .ref b3, .int (nI wn), .ref b4, .ref b5, .ref b6, .ref b7, .int (nI ko), .int (nI mw)])), (b0, .inl (cb 0, 8, .inl (fun z9 => nI (cl z9)))), (b1, .inl (cb 1, 2040, .inl (fun z9 => nI ((t z9).1 / 256)))), (b2, .inl (cb 2, 2040, .inl (fun z9 => nI ((t z9).1 % 256)))), (b3, .inl (cb 3, 2040, .inl (fun z9 => (t z9).2))), (b4, .inl (cb 4, 65, .inl (fun z9 => nI ((w z9).1 / 256)))), (b5, .inl (cb 5, 65, .inl (fun z9 => nI ((w z9).1 % 256)))), (b6, .inl (cb 6, 65, .inr (.inl (fun z9 => (w z9).2.1)))), (b7, .inl (cb 7, 65, .inl (fun z9 => (w z9).2.2)))] H := hP
    have hD : va_D A [(r0, .inr (1, [.int (bI (bad wn 4 x y)), .ref b0, .int (nI tn), .ref b1, .ref b2, .ref b3, .int (nI wn), .ref b4, .ref b5, .ref b6, .ref b7, .int (nI ko), .int (nI mw)])), (b0, .inl (cb 0, 8, .inl (fun z9 => nI (cl z9)))), (b1, .inl (cb 1, 2040, .inl (fun z9 => nI ((t z9).1 / 256)))), (b2, .inl (cb 2, 2040, .inl (fun z9 => nI ((t z9).1 % 256)))), (b3, .inl (cb 3, 2040, .inl (fun z9 => (t z9).2))), (b4, .inl (cb 4, 65, .inl (fun z9 => nI ((w z9).1 / 256)))), (b5, .inl (cb 5, 65, .inl (fun z9 => nI ((w z9).1 % 256)))), (b6, .inl (cb 6, 65, .inr (.inl (fun z9 => (w z9).2.1)))), (b7, .inl (cb 7, 65, .inl (fun z9 => (w z9).2.2)))] := hD
    refine lv_aload_n hx hb dY_waiting_30 rfl (lv_at hl 0 rfl) ?_
    refine va_get (D := (dC, dI)) (ci := 1) (v := .int (bI (bad wn 4 x y))) (C := RY) (T := TY) (N := 13) hx hb hts in_Y_waiting_Y hown hK hP 0 rfl rfl 0 (by decide) (hts (.fieldLink RY 35 "CausalGateModel" "thrown" "I") (by decide +kernel)) (fun _ h9 => h9) rfl dY_waiting_31 ?_
    refine lv_if_le (tgt := 39) hx hb dY_waiting_34 (by decide) (fun c_34 => ?_) (fun c_34 => ?_)
    · exact absurd c_34 (by rw [e9]; decide)
    · refine lv_iconst (v := 0) hx hb dY_waiting_37 (by decide) ?_
      exact mi_ret hx hb hr hlocks (by unfold wtM; rw [if_pos e9]) hAe hP hD hS dY_waiting_38
  · refine lv_iload_n hx hb dY_waiting_5 rfl (lv_at hl 1 rfl) ?_
    refine lv_aload_n hx hb dY_waiting_6 rfl (lv_at hl 0 rfl) ?_
    refine va_get (D := (dC, dI)) (ci := 1) (v := .int (nI wn)) (C := RY) (T := TY) (N := 13) hx hb hts in_Y_waiting_Y hown hK hP 0 rfl rfl 6 (by decide) (hts (.fieldLink RY 49 "CausalGateModel" "waiting" "I") (by decide +kernel)) (fun _ h9 => h9) rfl dY_waiting_7 ?_
    refine lv_icmp_ge (tgt := 22) hx hb dY_waiting_10 (by decide) (fun c_10 => ?_) (fun c_10 => ?_)
    · have e9 : bad wn 4 x y = true := by simp [bad, c_10]
      refine lv_iconst (v := 1) hx hb dY_waiting_22 (by decide) ?_
      refine tp_i (y := bI (bad wn 4 x y)) (by rw [e9]; rfl) ?_
      refine lv_goto (tgt := 27) hx hb dY_waiting_23 (by decide) ?_
      refine va_put (D := (dC, dI)) (ci := 1) (v := .int (bI (bad wn 4 x y))) (ty := .int) (C := RY) (T := TY) (N := 13) hx hb hts in_Y_waiting_Y tyY tyY_ok nmY hown hK hP hD hS 0 rfl rfl 0 (by decide) (hts (.fieldLink RY 35 "CausalGateModel" "thrown" "I") (by decide +kernel)) (fun _ h9 => h9) rfl (by decide +kernel) rfl rfl (Nat.le_of_ble_eq_true rfl) dY_waiting_27 (fun H locs hP hD hS => ?_)
      have hP : va_P (dC, dI) clS [(r0, .inr (1, [.int (bI (bad wn 4 x y)), .ref b0, .int (nI tn), .ref b1, .ref b2, .ref b3, .int (nI wn), .ref b4, .ref b5, .ref b6, .ref b7, .int (nI ko), .int (nI mw)])), (b0, .inl (cb 0, 8, .inl (fun z9 => nI (cl z9)))), (b1, .inl (cb 1, 2040, .inl (fun z9 => nI ((t z9).1 / 256)))), (b2, .inl (cb 2, 2040, .inl (fun z9 => nI ((t z9).1 % 256)))), (b3, .inl (cb 3, 2040, .inl (fun z9 => (t z9).2))), (b4, .inl (cb 4, 65, .inl (fun z9 => nI ((w z9).1 / 256)))), (b5, .inl (cb 5, 65, .inl (fun z9 => nI ((w z9).1 % 256)))), (b6, .inl (cb 6, 65, .inr (.inl (fun z9 => (w z9).2.1)))), (b7, .inl (cb 7, 65, .inl (fun z9 => (w z9).2.2)))] H := hP
      have hD : va_D A [(r0, .inr (1, [.int (bI (bad wn 4 x y)), .ref b0, .int (nI tn), .ref b1, .ref b2, .ref b3, .int (nI wn), .ref b4, .ref b5, .ref b6, .ref b7, .int (nI ko), .int (nI mw)])), (b0, .inl (cb 0, 8, .inl (fun z9 => nI (cl z9)))), (b1, .inl (cb 1, 2040, .inl (fun z9 => nI ((t z9).1 / 256)))), (b2, .inl (cb 2, 2040, .inl (fun z9 => nI ((t z9).1 % 256)))), (b3, .inl (cb 3, 2040, .inl (fun z9 => (t z9).2))), (b4, .inl (cb 4, 65, .inl (fun z9 => nI ((w z9).1 / 256)))), (b5, .inl (cb 5, 65, .inl (fun z9 => nI ((w z9).1 % 256)))), (b6, .inl (cb 6, 65, .inr (.inl (fun z9 => (w z9).2.1)))), (b7, .inl (cb 7, 65, .inl (fun z9 => (w z9).2.2)))] := hD
      refine lv_aload_n hx hb dY_waiting_30 rfl (lv_at hl 0 rfl) ?_
      refine va_get (D := (dC, dI)) (ci := 1) (v := .int (bI (bad wn 4 x y))) (C := RY) (T := TY) (N := 13) hx hb hts in_Y_waiting_Y hown hK hP 0 rfl rfl 0 (by decide) (hts (.fieldLink RY 35 "CausalGateModel" "thrown" "I") (by decide +kernel)) (fun _ h9 => h9) rfl dY_waiting_31 ?_
      refine lv_if_le (tgt := 39) hx hb dY_waiting_34 (by decide) (fun c_34 => ?_) (fun c_34 => ?_)
      · exact absurd c_34 (by rw [e9]; decide)
      · refine lv_iconst (v := 0) hx hb dY_waiting_37 (by decide) ?_
        exact mi_ret hx hb hr hlocks (by unfold wtM; rw [if_pos e9]) hAe hP hD hS dY_waiting_38
    · refine lv_iload_n hx hb dY_waiting_13 rfl (lv_at hl 2 rfl) ?_
      refine lv_if_lt (tgt := 22) hx hb dY_waiting_14 (by decide) (fun c_14 => ?_) (fun c_14 => ?_)
      · have e9 : bad wn 4 x y = true := by simp [bad, c_14]
        refine lv_iconst (v := 1) hx hb dY_waiting_22 (by decide) ?_
        refine tp_i (y := bI (bad wn 4 x y)) (by rw [e9]; rfl) ?_
        refine lv_goto (tgt := 27) hx hb dY_waiting_23 (by decide) ?_
        refine va_put (D := (dC, dI)) (ci := 1) (v := .int (bI (bad wn 4 x y))) (ty := .int) (C := RY) (T := TY) (N := 13) hx hb hts in_Y_waiting_Y tyY tyY_ok nmY hown hK hP hD hS 0 rfl rfl 0 (by decide) (hts (.fieldLink RY 35 "CausalGateModel" "thrown" "I") (by decide +kernel)) (fun _ h9 => h9) rfl (by decide +kernel) rfl rfl (Nat.le_of_ble_eq_true rfl) dY_waiting_27 (fun H locs hP hD hS => ?_)
        have hP : va_P (dC, dI) clS [(r0, .inr (1, [.int (bI (bad wn 4 x y)), .ref b0, .int (nI tn), .ref b1, .ref b2, .ref b3, .int (nI wn), .ref b4, .ref b5, .ref b6, .ref b7, .int (nI ko), .int (nI mw)])), (b0, .inl (cb 0, 8, .inl (fun z9 => nI (cl z9)))), (b1, .inl (cb 1, 2040, .inl (fun z9 => nI ((t z9).1 / 256)))), (b2, .inl (cb 2, 2040, .inl (fun z9 => nI ((t z9).1 % 256)))), (b3, .inl (cb 3, 2040, .inl (fun z9 => (t z9).2))), (b4, .inl (cb 4, 65, .inl (fun z9 => nI ((w z9).1 / 256)))), (b5, .inl (cb 5, 65, .inl (fun z9 => nI ((w z9).1 % 256)))), (b6, .inl (cb 6, 65, .inr (.inl (fun z9 => (w z9).2.1)))), (b7, .inl (cb 7, 65, .inl (fun z9 => (w z9).2.2)))] H := hP
        have hD : va_D A [(r0, .inr (1, [.int (bI (bad wn 4 x y)), .ref b0, .int (nI tn), .ref b1, .ref b2, .ref b3, .int (nI wn), .ref b4, .ref b5, .ref b6, .ref b7, .int (nI ko), .int (nI mw)])), (b0, .inl (cb 0, 8, .inl (fun z9 => nI (cl z9)))), (b1, .inl (cb 1, 2040, .inl (fun z9 => nI ((t z9).1 / 256)))), (b2, .inl (cb 2, 2040, .inl (fun z9 => nI ((t z9).1 % 256)))), (b3, .inl (cb 3, 2040, .inl (fun z9 => (t z9).2))), (b4, .inl (cb 4, 65, .inl (fun z9 => nI ((w z9).1 / 256)))), (b5, .inl (cb 5, 65, .inl (fun z9 => nI ((w z9).1 % 256)))), (b6, .inl (cb 6, 65, .inr (.inl (fun z9 => (w z9).2.1)))), (b7, .inl (cb 7, 65, .inl (fun z9 => (w z9).2.2)))] := hD
        refine lv_aload_n hx hb dY_waiting_30 rfl (lv_at hl 0 rfl) ?_
        refine va_get (D := (dC, dI)) (ci := 1) (v := .int (bI (bad wn 4 x y))) (C := RY) (T := TY) (N := 13) hx hb hts in_Y_waiting_Y hown hK hP 0 rfl rfl 0 (by decide) (hts (.fieldLink RY 35 "CausalGateModel" "thrown" "I") (by decide +kernel)) (fun _ h9 => h9) rfl dY_waiting_31 ?_
        refine lv_if_le (tgt := 39) hx hb dY_waiting_34 (by decide) (fun c_34 => ?_) (fun c_34 => ?_)
        · exact absurd c_34 (by rw [e9]; decide)
        · refine lv_iconst (v := 0) hx hb dY_waiting_37 (by decide) ?_
          exact mi_ret hx hb hr hlocks (by unfold wtM; rw [if_pos e9]) hAe hP hD hS dY_waiting_38
      · refine lv_iload_n hx hb dY_waiting_17 rfl (lv_at hl 2 rfl) ?_
        refine lv_iconst (v := 4) hx hb dY_waiting_18 (by decide) ?_
        refine lv_icmp_le (tgt := 26) hx hb dY_waiting_19 (by decide) (fun c_19 => ?_) (fun c_19 => ?_)
        · have e9 : bad wn 4 x y = false := by simp [bad, c_2, c_10, c_14, Int32.not_lt.mpr c_19]
          obtain ⟨j, hj, rfl⟩ := ix_of c_2 c_10 (by omega)
          refine lv_iconst (v := 0) hx hb dY_waiting_26 (by decide) ?_
          refine tp_i (y := bI (bad wn 4 (nI j) y)) (by rw [e9]; rfl) ?_
          refine va_put (D := (dC, dI)) (ci := 1) (v := .int (bI (bad wn 4 (nI j) y))) (ty := .int) (C := RY) (T := TY) (N := 13) hx hb hts in_Y_waiting_Y tyY tyY_ok nmY hown hK hP hD hS 0 rfl rfl 0 (by decide) (hts (.fieldLink RY 35 "CausalGateModel" "thrown" "I") (by decide +kernel)) (fun _ h9 => h9) rfl (by decide +kernel) rfl rfl (Nat.le_of_ble_eq_true rfl) dY_waiting_27 (fun H locs hP hD hS => ?_)
          have hP : va_P (dC, dI) clS [(r0, .inr (1, [.int (bI (bad wn 4 (nI j) y)), .ref b0, .int (nI tn), .ref b1, .ref b2, .ref b3, .int (nI wn), .ref b4, .ref b5, .ref b6, .ref b7, .int (nI ko), .int (nI mw)])), (b0, .inl (cb 0, 8, .inl (fun z9 => nI (cl z9)))), (b1, .inl (cb 1, 2040, .inl (fun z9 => nI ((t z9).1 / 256)))), (b2, .inl (cb 2, 2040, .inl (fun z9 => nI ((t z9).1 % 256)))), (b3, .inl (cb 3, 2040, .inl (fun z9 => (t z9).2))), (b4, .inl (cb 4, 65, .inl (fun z9 => nI ((w z9).1 / 256)))), (b5, .inl (cb 5, 65, .inl (fun z9 => nI ((w z9).1 % 256)))), (b6, .inl (cb 6, 65, .inr (.inl (fun z9 => (w z9).2.1)))), (b7, .inl (cb 7, 65, .inl (fun z9 => (w z9).2.2)))] H := hP
          have hD : va_D A [(r0, .inr (1, [.int (bI (bad wn 4 (nI j) y)), .ref b0, .int (nI tn), .ref b1, .ref b2, .ref b3, .int (nI wn), .ref b4, .ref b5, .ref b6, .ref b7, .int (nI ko), .int (nI mw)])), (b0, .inl (cb 0, 8, .inl (fun z9 => nI (cl z9)))), (b1, .inl (cb 1, 2040, .inl (fun z9 => nI ((t z9).1 / 256)))), (b2, .inl (cb 2, 2040, .inl (fun z9 => nI ((t z9).1 % 256)))), (b3, .inl (cb 3, 2040, .inl (fun z9 => (t z9).2))), (b4, .inl (cb 4, 65, .inl (fun z9 => nI ((w z9).1 / 256)))), (b5, .inl (cb 5, 65, .inl (fun z9 => nI ((w z9).1 % 256)))), (b6, .inl (cb 6, 65, .inr (.inl (fun z9 => (w z9).2.1)))), (b7, .inl (cb 7, 65, .inl (fun z9 => (w z9).2.2)))] := hD
          refine lv_aload_n hx hb dY_waiting_30 rfl (lv_at hl 0 rfl) ?_
          refine va_get (D := (dC, dI)) (ci := 1) (v := .int (bI (bad wn 4 (nI j) y))) (C := RY) (T := TY) (N := 13) hx hb hts in_Y_waiting_Y hown hK hP 0 rfl rfl 0 (by decide) (hts (.fieldLink RY 35 "CausalGateModel" "thrown" "I") (by decide +kernel)) (fun _ h9 => h9) rfl dY_waiting_31 ?_
          refine lv_if_le (tgt := 39) hx hb dY_waiting_34 (by decide) (fun c_34 => ?_) (fun c_34 => ?_)
          · refine lv_aload_n hx hb dY_waiting_39 rfl (lv_at hl 0 rfl) ?_
            refine va_get (D := (dC, dI)) (ci := 1) (v := .ref b4) (C := RY) (T := TY) (N := 13) hx hb hts in_Y_waiting_Y hown hK hP 0 rfl rfl 7 (by decide) (hts (.fieldLink RY 22 "CausalGateModel" "wActors" "[I") (by decide +kernel)) (fun _ h9 => h9) rfl dY_waiting_40 ?_
            refine lv_iload_n hx hb dY_waiting_43 rfl (lv_at hl 1 rfl) ?_
            refine va_iald hx hb hK hP 5 4 rfl rfl (vp_in_nI (by omega) (by decide)) dY_waiting_44 ?_
            refine tp_i (y := nI ((w j).1 / 256)) (by rw [nI_clamp (by omega)]) ?_
            have hwj := hw j hj
            refine lv_istore_n (lv' := [(3, .int (nI ((w j).1 / 256))), (0, .ref r0), (1, .int (nI j)), (2, .int y)]) hx hb dY_waiting_45 rfl hl (by decide) rfl (fun ls hl => ?_)
            refine lv_aload_n hx hb dY_waiting_46 rfl (lv_at hl 1 rfl) ?_
            refine va_get (D := (dC, dI)) (ci := 1) (v := .ref b5) (C := RY) (T := TY) (N := 13) hx hb hts in_Y_waiting_Y hown hK hP 0 rfl rfl 8 (by decide) (hts (.fieldLink RY 25 "CausalGateModel" "wSeqs" "[I") (by decide +kernel)) (fun _ h9 => h9) rfl dY_waiting_47 ?_
            refine lv_iload_n hx hb dY_waiting_50 rfl (lv_at hl 2 rfl) ?_
            refine va_iald hx hb hK hP 6 5 rfl rfl (vp_in_nI (by omega) (by decide)) dY_waiting_51 ?_
            refine tp_i (y := nI ((w j).1 % 256)) (by rw [nI_clamp (by omega)]) ?_
            refine lv_aload_n hx hb dY_waiting_52 rfl (lv_at hl 1 rfl) ?_
            refine va_get (D := (dC, dI)) (ci := 1) (v := .ref b0) (C := RY) (T := TY) (N := 13) hx hb hts in_Y_waiting_Y hown hK hP 0 rfl rfl 1 (by decide) (hts (.fieldLink RY 7 "CausalGateModel" "clock" "[I") (by decide +kernel)) (fun _ h9 => h9) rfl dY_waiting_53 ?_
            refine lv_iload_n hx hb dY_waiting_56 rfl (lv_at hl 0 rfl) ?_
            refine va_iald hx hb hK hP 1 0 rfl rfl (vp_in_nI (by omega) (by decide)) dY_waiting_57 ?_
            refine tp_i (y := nI (cl ((w j).1 / 256))) (by rw [nI_clamp (by omega)]) ?_
            refine lv_iconst (v := 1) hx hb dY_waiting_58 (by decide) ?_
            refine lv_iadd hx hb dY_waiting_59 ?_
            refine tp_i (y := nI (cl ((w j).1 / 256) + 1)) (nI_1 _) ?_
            refine lv_icmp_le (tgt := 67) hx hb dY_waiting_60 (by decide) (fun c_60 => ?_) (fun c_60 => ?_)
            · have c7 : ¬ cl ((w j).1 / 256) + 1 < (w j).1 % 256 := Nat.not_lt.mpr ((nI_leI (by omega) (by have := hcl ((w j).1 / 256) (by omega); omega)).mp c_60)
              refine lv_iconst (v := 0) hx hb dY_waiting_67 (by decide) ?_
              refine lv_istore (lv' := [(4, .int 0), (3, .int (nI ((w j).1 / 256))), (0, .ref r0), (1, .int (nI j)), (2, .int y)]) hx hb dY_waiting_68 hl (by decide) rfl (fun ls hl => ?_)
              refine lv_iload hx hb dY_waiting_70 (lv_at hl 0 rfl) ?_
              refine lv_if_eq (tgt := 79) hx hb dY_waiting_72 (by decide) (fun c_72 => ?_) (fun c_72 => ?_)
              · refine lv_aload_n hx hb dY_waiting_79 rfl (lv_at hl 2 rfl) ?_
                refine lv_iload_n hx hb dY_waiting_80 rfl (lv_at hl 1 rfl) ?_
                refine lv_aload_n hx hb dY_waiting_81 rfl (lv_at hl 2 rfl) ?_
                refine va_get (D := (dC, dI)) (ci := 1) (v := .ref b6) (C := RY) (T := TY) (N := 13) hx hb hts in_Y_waiting_Y hown hK hP 0 rfl rfl 9 (by decide) (hts (.fieldLink RY 28 "CausalGateModel" "wClocks" "[J") (by decide +kernel)) (fun _ h9 => h9) rfl dY_waiting_82 ?_
                refine lv_iload_n hx hb dY_waiting_85 rfl (lv_at hl 3 rfl) ?_
                refine va_lald hx hb hK hP 7 6 rfl rfl (vp_in_nI (by omega) (by decide)) dY_waiting_86 ?_
                refine tp_l (y := (w j).2.1) (by rw [nI_clamp (by omega)]) ?_
                refine rd_i (W.runV (As := [.int (nI ((w j).1 / 256)), .long ((w j).2.1)]) (rest := []) ⟨hx, hb, hml, hown, hts⟩ (kY_lacking l dC dI cb r0 b0 b1 b2 b3 b4 b5 b6 b7 (bI (bad wn 4 (nI j) y)) cl t tn w wn ko mw hcl ((w j).1 / 256) ((w j).2.1) (by omega)) (cwV 2 hts gY_waiting_Y_lacking rfl rfl rfl (by decide +kernel) ⟨Nat.le_of_ble_eq_true rfl, Nat.le_of_ble_eq_true rfl⟩) (pr_V (ci := 1) (q0 := 0) hK hP rfl rfl) rfl rfl hl.1 rfl (lv_room (Nat.le_of_ble_eq_true rfl)) dY_waiting_87 ⟨Nat.zero_le _, Nat.zero_le _⟩) ?_
                refine tp_i (y := oI (lwM cl (w j))) (by unfold lwM; rw [if_neg c7]) ?_
                refine lv_istore (lv' := [(5, .int (oI (lwM cl (w j)))), (4, .int 0), (3, .int (nI ((w j).1 / 256))), (0, .ref r0), (1, .int (nI j)), (2, .int y)]) hx hb dY_waiting_90 hl (by decide) rfl (fun ls hl => ?_)
                refine lv_iload_n hx hb dY_waiting_92 rfl (lv_at hl 5 rfl) ?_
                refine lv_if_ne (tgt := 100) hx hb dY_waiting_93 (by decide) (fun c_93 => ?_) (fun c_93 => ?_)
                · refine lv_iload_n hx hb dY_waiting_100 rfl (lv_at hl 5 rfl) ?_
                  refine lv_iconst (v := 1) hx hb dY_waiting_101 (by decide) ?_
                  refine lv_icmp_ne (tgt := 114) hx hb dY_waiting_102 (by decide) (fun c_102 => ?_) (fun c_102 => ?_)
                  · refine lv_iload_n hx hb dY_waiting_114 rfl (lv_at hl 5 rfl) ?_
                    refine lv_iconst (v := 2) hx hb dY_waiting_115 (by decide) ?_
                    refine lv_icmp_ne (tgt := 128) hx hb dY_waiting_116 (by decide) (fun c_116 => ?_) (fun c_116 => ?_)
                    · refine lv_iload_n hx hb dY_waiting_128 rfl (lv_at hl 5 rfl) ?_
                      refine lv_iconst (v := 3) hx hb dY_waiting_129 (by decide) ?_
                      refine lv_icmp_ne (tgt := 138) hx hb dY_waiting_130 (by decide) (fun c_130 => ?_) (fun c_130 => ?_)
                      · refine lv_aload_n hx hb dY_waiting_138 rfl (lv_at hl 3 rfl) ?_
                        refine va_get (D := (dC, dI)) (ci := 1) (v := .ref b0) (C := RY) (T := TY) (N := 13) hx hb hts in_Y_waiting_Y hown hK hP 0 rfl rfl 1 (by decide) (hts (.fieldLink RY 7 "CausalGateModel" "clock" "[I") (by decide +kernel)) (fun _ h9 => h9) rfl dY_waiting_139 ?_
                        refine lv_iload hx hb dY_waiting_142 (lv_at hl 0 rfl) ?_
                        refine lv_if_ge (tgt := 151) hx hb dY_waiting_144 (by decide) (fun c_144 => ?_) (fun c_144 => ?_)
                        · obtain ⟨b9, hb9⟩ : ∃ b9, lwM cl (w j) = some b9 := by cases hb9 : lwM cl (w j) with
                            | none => exact absurd c_144 (by rw [hb9]; decide)
                            | some b9 => exact ⟨b9, rfl⟩
                          have hb8 := lwM_lt hwj hb9
                          rw [hb9] at hl
                          have hl : lv_has ls 6 [(5, .int (nI b9)), (4, .int 0), (3, .int (nI ((w j).1 / 256))), (0, .ref r0), (1, .int (nI j)), (2, .int y)] := hl
                          refine lv_iload hx hb dY_waiting_151 (lv_at hl 0 rfl) ?_
                          refine va_iald hx hb hK hP 1 0 rfl rfl (vp_in_nI (by omega) (by decide)) dY_waiting_153 ?_
                          refine tp_i (y := nI (cl b9)) (by rw [nI_clamp (by omega)]) ?_
                          refine lv_iconst (v := 1) hx hb dY_waiting_154 (by decide) ?_
                          refine lv_iadd hx hb dY_waiting_155 ?_
                          refine tp_i (y := nI (cl b9 + 1)) (nI_1 _) ?_
                          exact mi_ret hx hb hr hlocks (by unfold wtM; rw [if_neg (show ¬ bad wn 4 (nI j) y = true by rw [e9]; decide), nI_clamp (show j < 2 ^ 31 by omega)]; first | rw [if_pos c_93] | rw [if_neg c_93, if_pos c_102] | rw [if_neg c_93, if_neg c_102, if_pos c_116] | rw [if_neg c_93, if_neg c_102, if_neg c_116, if_pos c_130] | (rw [if_neg c_93, if_neg c_102, if_neg c_116, if_neg c_130, hb9]; rfl)) hAe hP hD hS dY_waiting_156
                        · have hb9 : lwM cl (w j) = none := Classical.byContradiction fun z => c_144 ((oI_ge (fun a h => Nat.lt_of_lt_of_le (lwM_lt hwj h) (by decide))).mpr z)
                          refine lv_iconst (v := 0) hx hb dY_waiting_147 (by decide) ?_
                          refine tp_i (y := nI 0) (nI_0.symm) ?_
                          refine lv_goto (tgt := 153) hx hb dY_waiting_148 (by decide) ?_
                          refine va_iald hx hb hK hP 1 0 rfl rfl (vp_in_nI (by omega) (by decide)) dY_waiting_153 ?_
                          refine tp_i (y := nI (cl 0)) (by rw [nI_clamp (by omega)]) ?_
                          refine lv_iconst (v := 1) hx hb dY_waiting_154 (by decide) ?_
                          refine lv_iadd hx hb dY_waiting_155 ?_
                          refine tp_i (y := nI (cl 0 + 1)) (nI_1 _) ?_
                          exact mi_ret hx hb hr hlocks (by unfold wtM; rw [if_neg (show ¬ bad wn 4 (nI j) y = true by rw [e9]; decide), nI_clamp (show j < 2 ^ 31 by omega)]; first | rw [if_pos c_93] | rw [if_neg c_93, if_pos c_102] | rw [if_neg c_93, if_neg c_102, if_pos c_116] | rw [if_neg c_93, if_neg c_102, if_neg c_116, if_pos c_130] | (rw [if_neg c_93, if_neg c_102, if_neg c_116, if_neg c_130, hb9]; rfl)) hAe hP hD hS dY_waiting_156
                      · refine lv_iload hx hb dY_waiting_133 (lv_at hl 0 rfl) ?_
                        refine lv_goto (tgt := 156) hx hb dY_waiting_135 (by decide) ?_
                        exact mi_ret hx hb hr hlocks (by unfold wtM; rw [if_neg (show ¬ bad wn 4 (nI j) y = true by rw [e9]; decide), nI_clamp (show j < 2 ^ 31 by omega)]; first | rw [if_pos c_93] | rw [if_neg c_93, if_pos c_102] | rw [if_neg c_93, if_neg c_102, if_pos c_116] | rw [if_neg c_93, if_neg c_102, if_neg c_116, if_pos c_130] | (rw [if_neg c_93, if_neg c_102, if_neg c_116, if_neg c_130, hb9]; rfl)) hAe hP hD hS dY_waiting_156
                    · refine lv_aload_n hx hb dY_waiting_119 rfl (lv_at hl 3 rfl) ?_
                      refine va_get (D := (dC, dI)) (ci := 1) (v := .ref b7) (C := RY) (T := TY) (N := 13) hx hb hts in_Y_waiting_Y hown hK hP 0 rfl rfl 10 (by decide) (hts (.fieldLink RY 32 "CausalGateModel" "wLabels" "[I") (by decide +kernel)) (fun _ h9 => h9) rfl dY_waiting_120 ?_
                      refine lv_iload_n hx hb dY_waiting_123 rfl (lv_at hl 4 rfl) ?_
                      refine va_iald hx hb hK hP 8 7 rfl rfl (vp_in_nI (by omega) (by decide)) dY_waiting_124 ?_
                      refine tp_i (y := (w j).2.2) (by rw [nI_clamp (by omega)]) ?_
                      refine lv_goto (tgt := 156) hx hb dY_waiting_125 (by decide) ?_
                      exact mi_ret hx hb hr hlocks (by unfold wtM; rw [if_neg (show ¬ bad wn 4 (nI j) y = true by rw [e9]; decide), nI_clamp (show j < 2 ^ 31 by omega)]; first | rw [if_pos c_93] | rw [if_neg c_93, if_pos c_102] | rw [if_neg c_93, if_neg c_102, if_pos c_116] | rw [if_neg c_93, if_neg c_102, if_neg c_116, if_pos c_130] | (rw [if_neg c_93, if_neg c_102, if_neg c_116, if_neg c_130, hb9]; rfl)) hAe hP hD hS dY_waiting_156
                  · refine lv_aload_n hx hb dY_waiting_105 rfl (lv_at hl 3 rfl) ?_
                    refine va_get (D := (dC, dI)) (ci := 1) (v := .ref b5) (C := RY) (T := TY) (N := 13) hx hb hts in_Y_waiting_Y hown hK hP 0 rfl rfl 8 (by decide) (hts (.fieldLink RY 25 "CausalGateModel" "wSeqs" "[I") (by decide +kernel)) (fun _ h9 => h9) rfl dY_waiting_106 ?_
                    refine lv_iload_n hx hb dY_waiting_109 rfl (lv_at hl 4 rfl) ?_
                    refine va_iald hx hb hK hP 6 5 rfl rfl (vp_in_nI (by omega) (by decide)) dY_waiting_110 ?_
                    refine tp_i (y := nI ((w j).1 % 256)) (by rw [nI_clamp (by omega)]) ?_
                    refine lv_goto (tgt := 156) hx hb dY_waiting_111 (by decide) ?_
                    exact mi_ret hx hb hr hlocks (by unfold wtM; rw [if_neg (show ¬ bad wn 4 (nI j) y = true by rw [e9]; decide), nI_clamp (show j < 2 ^ 31 by omega)]; first | rw [if_pos c_93] | rw [if_neg c_93, if_pos c_102] | rw [if_neg c_93, if_neg c_102, if_pos c_116] | rw [if_neg c_93, if_neg c_102, if_neg c_116, if_pos c_130] | (rw [if_neg c_93, if_neg c_102, if_neg c_116, if_neg c_130, hb9]; rfl)) hAe hP hD hS dY_waiting_156
                · refine lv_iload_n hx hb dY_waiting_96 rfl (lv_at hl 2 rfl) ?_
                  refine lv_goto (tgt := 156) hx hb dY_waiting_97 (by decide) ?_
                  exact mi_ret hx hb hr hlocks (by unfold wtM; rw [if_neg (show ¬ bad wn 4 (nI j) y = true by rw [e9]; decide), nI_clamp (show j < 2 ^ 31 by omega)]; first | rw [if_pos c_93] | rw [if_neg c_93, if_pos c_102] | rw [if_neg c_93, if_neg c_102, if_pos c_116] | rw [if_neg c_93, if_neg c_102, if_neg c_116, if_pos c_130] | (rw [if_neg c_93, if_neg c_102, if_neg c_116, if_neg c_130, hb9]; rfl)) hAe hP hD hS dY_waiting_156
              · exact absurd rfl c_72
            · have c7 : cl ((w j).1 / 256) + 1 < (w j).1 % 256 := Nat.lt_of_not_le fun z => c_60 (nI_le z (by have := hcl ((w j).1 / 256) (by omega); omega))
              refine lv_iconst (v := 1) hx hb dY_waiting_63 (by decide) ?_
              refine lv_goto (tgt := 68) hx hb dY_waiting_64 (by decide) ?_
              refine lv_istore (lv' := [(4, .int 1), (3, .int (nI ((w j).1 / 256))), (0, .ref r0), (1, .int (nI j)), (2, .int y)]) hx hb dY_waiting_68 hl (by decide) rfl (fun ls hl => ?_)
              refine lv_iload hx hb dY_waiting_70 (lv_at hl 0 rfl) ?_
              refine lv_if_eq (tgt := 79) hx hb dY_waiting_72 (by decide) (fun c_72 => ?_) (fun c_72 => ?_)
              · exact absurd c_72 (by decide)
              · refine lv_iload_n hx hb dY_waiting_75 rfl (lv_at hl 1 rfl) ?_
                refine lv_goto (tgt := 90) hx hb dY_waiting_76 (by decide) ?_
                refine tp_i (y := oI (lwM cl (w j))) (by unfold lwM; rw [if_pos c7]; rfl) ?_
                refine lv_istore (lv' := [(5, .int (oI (lwM cl (w j)))), (4, .int 1), (3, .int (nI ((w j).1 / 256))), (0, .ref r0), (1, .int (nI j)), (2, .int y)]) hx hb dY_waiting_90 hl (by decide) rfl (fun ls hl => ?_)
                refine lv_iload_n hx hb dY_waiting_92 rfl (lv_at hl 5 rfl) ?_
                refine lv_if_ne (tgt := 100) hx hb dY_waiting_93 (by decide) (fun c_93 => ?_) (fun c_93 => ?_)
                · refine lv_iload_n hx hb dY_waiting_100 rfl (lv_at hl 5 rfl) ?_
                  refine lv_iconst (v := 1) hx hb dY_waiting_101 (by decide) ?_
                  refine lv_icmp_ne (tgt := 114) hx hb dY_waiting_102 (by decide) (fun c_102 => ?_) (fun c_102 => ?_)
                  · refine lv_iload_n hx hb dY_waiting_114 rfl (lv_at hl 5 rfl) ?_
                    refine lv_iconst (v := 2) hx hb dY_waiting_115 (by decide) ?_
                    refine lv_icmp_ne (tgt := 128) hx hb dY_waiting_116 (by decide) (fun c_116 => ?_) (fun c_116 => ?_)
                    · refine lv_iload_n hx hb dY_waiting_128 rfl (lv_at hl 5 rfl) ?_
                      refine lv_iconst (v := 3) hx hb dY_waiting_129 (by decide) ?_
                      refine lv_icmp_ne (tgt := 138) hx hb dY_waiting_130 (by decide) (fun c_130 => ?_) (fun c_130 => ?_)
                      · refine lv_aload_n hx hb dY_waiting_138 rfl (lv_at hl 3 rfl) ?_
                        refine va_get (D := (dC, dI)) (ci := 1) (v := .ref b0) (C := RY) (T := TY) (N := 13) hx hb hts in_Y_waiting_Y hown hK hP 0 rfl rfl 1 (by decide) (hts (.fieldLink RY 7 "CausalGateModel" "clock" "[I") (by decide +kernel)) (fun _ h9 => h9) rfl dY_waiting_139 ?_
                        refine lv_iload hx hb dY_waiting_142 (lv_at hl 0 rfl) ?_
                        refine lv_if_ge (tgt := 151) hx hb dY_waiting_144 (by decide) (fun c_144 => ?_) (fun c_144 => ?_)
                        · obtain ⟨b9, hb9⟩ : ∃ b9, lwM cl (w j) = some b9 := by cases hb9 : lwM cl (w j) with
                            | none => exact absurd c_144 (by rw [hb9]; decide)
                            | some b9 => exact ⟨b9, rfl⟩
                          have hb8 := lwM_lt hwj hb9
                          rw [hb9] at hl
                          have hl : lv_has ls 6 [(5, .int (nI b9)), (4, .int 1), (3, .int (nI ((w j).1 / 256))), (0, .ref r0), (1, .int (nI j)), (2, .int y)] := hl
                          refine lv_iload hx hb dY_waiting_151 (lv_at hl 0 rfl) ?_
                          refine va_iald hx hb hK hP 1 0 rfl rfl (vp_in_nI (by omega) (by decide)) dY_waiting_153 ?_
                          refine tp_i (y := nI (cl b9)) (by rw [nI_clamp (by omega)]) ?_
                          refine lv_iconst (v := 1) hx hb dY_waiting_154 (by decide) ?_
                          refine lv_iadd hx hb dY_waiting_155 ?_
                          refine tp_i (y := nI (cl b9 + 1)) (nI_1 _) ?_
                          exact mi_ret hx hb hr hlocks (by unfold wtM; rw [if_neg (show ¬ bad wn 4 (nI j) y = true by rw [e9]; decide), nI_clamp (show j < 2 ^ 31 by omega)]; first | rw [if_pos c_93] | rw [if_neg c_93, if_pos c_102] | rw [if_neg c_93, if_neg c_102, if_pos c_116] | rw [if_neg c_93, if_neg c_102, if_neg c_116, if_pos c_130] | (rw [if_neg c_93, if_neg c_102, if_neg c_116, if_neg c_130, hb9]; rfl)) hAe hP hD hS dY_waiting_156
                        · have hb9 : lwM cl (w j) = none := Classical.byContradiction fun z => c_144 ((oI_ge (fun a h => Nat.lt_of_lt_of_le (lwM_lt hwj h) (by decide))).mpr z)
                          refine lv_iconst (v := 0) hx hb dY_waiting_147 (by decide) ?_
                          refine tp_i (y := nI 0) (nI_0.symm) ?_
                          refine lv_goto (tgt := 153) hx hb dY_waiting_148 (by decide) ?_
                          refine va_iald hx hb hK hP 1 0 rfl rfl (vp_in_nI (by omega) (by decide)) dY_waiting_153 ?_
                          refine tp_i (y := nI (cl 0)) (by rw [nI_clamp (by omega)]) ?_
                          refine lv_iconst (v := 1) hx hb dY_waiting_154 (by decide) ?_
                          refine lv_iadd hx hb dY_waiting_155 ?_
                          refine tp_i (y := nI (cl 0 + 1)) (nI_1 _) ?_
                          exact mi_ret hx hb hr hlocks (by unfold wtM; rw [if_neg (show ¬ bad wn 4 (nI j) y = true by rw [e9]; decide), nI_clamp (show j < 2 ^ 31 by omega)]; first | rw [if_pos c_93] | rw [if_neg c_93, if_pos c_102] | rw [if_neg c_93, if_neg c_102, if_pos c_116] | rw [if_neg c_93, if_neg c_102, if_neg c_116, if_pos c_130] | (rw [if_neg c_93, if_neg c_102, if_neg c_116, if_neg c_130, hb9]; rfl)) hAe hP hD hS dY_waiting_156
                      · refine lv_iload hx hb dY_waiting_133 (lv_at hl 0 rfl) ?_
                        refine lv_goto (tgt := 156) hx hb dY_waiting_135 (by decide) ?_
                        exact mi_ret hx hb hr hlocks (by unfold wtM; rw [if_neg (show ¬ bad wn 4 (nI j) y = true by rw [e9]; decide), nI_clamp (show j < 2 ^ 31 by omega)]; first | rw [if_pos c_93] | rw [if_neg c_93, if_pos c_102] | rw [if_neg c_93, if_neg c_102, if_pos c_116] | rw [if_neg c_93, if_neg c_102, if_neg c_116, if_pos c_130] | (rw [if_neg c_93, if_neg c_102, if_neg c_116, if_neg c_130, hb9]; rfl)) hAe hP hD hS dY_waiting_156
                    · refine lv_aload_n hx hb dY_waiting_119 rfl (lv_at hl 3 rfl) ?_
                      refine va_get (D := (dC, dI)) (ci := 1) (v := .ref b7) (C := RY) (T := TY) (N := 13) hx hb hts in_Y_waiting_Y hown hK hP 0 rfl rfl 10 (by decide) (hts (.fieldLink RY 32 "CausalGateModel" "wLabels" "[I") (by decide +kernel)) (fun _ h9 => h9) rfl dY_waiting_120 ?_
                      refine lv_iload_n hx hb dY_waiting_123 rfl (lv_at hl 4 rfl) ?_
                      refine va_iald hx hb hK hP 8 7 rfl rfl (vp_in_nI (by omega) (by decide)) dY_waiting_124 ?_
                      refine tp_i (y := (w j).2.2) (by rw [nI_clamp (by omega)]) ?_
                      refine lv_goto (tgt := 156) hx hb dY_waiting_125 (by decide) ?_
                      exact mi_ret hx hb hr hlocks (by unfold wtM; rw [if_neg (show ¬ bad wn 4 (nI j) y = true by rw [e9]; decide), nI_clamp (show j < 2 ^ 31 by omega)]; first | rw [if_pos c_93] | rw [if_neg c_93, if_pos c_102] | rw [if_neg c_93, if_neg c_102, if_pos c_116] | rw [if_neg c_93, if_neg c_102, if_neg c_116, if_pos c_130] | (rw [if_neg c_93, if_neg c_102, if_neg c_116, if_neg c_130, hb9]; rfl)) hAe hP hD hS dY_waiting_156
                  · refine lv_aload_n hx hb dY_waiting_105 rfl (lv_at hl 3 rfl) ?_
                    refine va_get (D := (dC, dI)) (ci := 1) (v := .ref b5) (C := RY) (T := TY) (N := 13) hx hb hts in_Y_waiting_Y hown hK hP 0 rfl rfl 8 (by decide) (hts (.fieldLink RY 25 "CausalGateModel" "wSeqs" "[I") (by decide +kernel)) (fun _ h9 => h9) rfl dY_waiting_106 ?_
                    refine lv_iload_n hx hb dY_waiting_109 rfl (lv_at hl 4 rfl) ?_
                    refine va_iald hx hb hK hP 6 5 rfl rfl (vp_in_nI (by omega) (by decide)) dY_waiting_110 ?_
                    refine tp_i (y := nI ((w j).1 % 256)) (by rw [nI_clamp (by omega)]) ?_
                    refine lv_goto (tgt := 156) hx hb dY_waiting_111 (by decide) ?_
                    exact mi_ret hx hb hr hlocks (by unfold wtM; rw [if_neg (show ¬ bad wn 4 (nI j) y = true by rw [e9]; decide), nI_clamp (show j < 2 ^ 31 by omega)]; first | rw [if_pos c_93] | rw [if_neg c_93, if_pos c_102] | rw [if_neg c_93, if_neg c_102, if_pos c_116] | rw [if_neg c_93, if_neg c_102, if_neg c_116, if_pos c_130] | (rw [if_neg c_93, if_neg c_102, if_neg c_116, if_neg c_130, hb9]; rfl)) hAe hP hD hS dY_waiting_156
                · refine lv_iload_n hx hb dY_waiting_96 rfl (lv_at hl 2 rfl) ?_
                  refine lv_goto (tgt := 156) hx hb dY_waiting_97 (by decide) ?_
                  exact mi_ret hx hb hr hlocks (by unfold wtM; rw [if_neg (show ¬ bad wn 4 (nI j) y = true by rw [e9]; decide), nI_clamp (show j < 2 ^ 31 by omega)]; first | rw [if_pos c_93] | rw [if_neg c_93, if_pos c_102] | rw [if_neg c_93, if_neg c_102, if_pos c_116] | rw [if_neg c_93, if_neg c_102, if_neg c_116, if_pos c_130] | (rw [if_neg c_93, if_neg c_102, if_neg c_116, if_neg c_130, hb9]; rfl)) hAe hP hD hS dY_waiting_156
          · exact absurd (by rw [e9]; decide) c_34
        · have e9 : bad wn 4 x y = true := by simp [bad, Int32.not_le.mp c_19]
          refine lv_iconst (v := 1) hx hb dY_waiting_22 (by decide) ?_
          refine tp_i (y := bI (bad wn 4 x y)) (by rw [e9]; rfl) ?_
          refine lv_goto (tgt := 27) hx hb dY_waiting_23 (by decide) ?_
          refine va_put (D := (dC, dI)) (ci := 1) (v := .int (bI (bad wn 4 x y))) (ty := .int) (C := RY) (T := TY) (N := 13) hx hb hts in_Y_waiting_Y tyY tyY_ok nmY hown hK hP hD hS 0 rfl rfl 0 (by decide) (hts (.fieldLink RY 35 "CausalGateModel" "thrown" "I") (by decide +kernel)) (fun _ h9 => h9) rfl (by decide +kernel) rfl rfl (Nat.le_of_ble_eq_true rfl) dY_waiting_27 (fun H locs hP hD hS => ?_)
          have hP : va_P (dC, dI) clS [(r0, .inr (1, [.int (bI (bad wn 4 x y)), .ref b0, .int (nI tn), .ref b1, .ref b2, .ref b3, .int (nI wn), .ref b4, .ref b5, .ref b6, .ref b7, .int (nI ko), .int (nI mw)])), (b0, .inl (cb 0, 8, .inl (fun z9 => nI (cl z9)))), (b1, .inl (cb 1, 2040, .inl (fun z9 => nI ((t z9).1 / 256)))), (b2, .inl (cb 2, 2040, .inl (fun z9 => nI ((t z9).1 % 256)))), (b3, .inl (cb 3, 2040, .inl (fun z9 => (t z9).2))), (b4, .inl (cb 4, 65, .inl (fun z9 => nI ((w z9).1 / 256)))), (b5, .inl (cb 5, 65, .inl (fun z9 => nI ((w z9).1 % 256)))), (b6, .inl (cb 6, 65, .inr (.inl (fun z9 => (w z9).2.1)))), (b7, .inl (cb 7, 65, .inl (fun z9 => (w z9).2.2)))] H := hP
          have hD : va_D A [(r0, .inr (1, [.int (bI (bad wn 4 x y)), .ref b0, .int (nI tn), .ref b1, .ref b2, .ref b3, .int (nI wn), .ref b4, .ref b5, .ref b6, .ref b7, .int (nI ko), .int (nI mw)])), (b0, .inl (cb 0, 8, .inl (fun z9 => nI (cl z9)))), (b1, .inl (cb 1, 2040, .inl (fun z9 => nI ((t z9).1 / 256)))), (b2, .inl (cb 2, 2040, .inl (fun z9 => nI ((t z9).1 % 256)))), (b3, .inl (cb 3, 2040, .inl (fun z9 => (t z9).2))), (b4, .inl (cb 4, 65, .inl (fun z9 => nI ((w z9).1 / 256)))), (b5, .inl (cb 5, 65, .inl (fun z9 => nI ((w z9).1 % 256)))), (b6, .inl (cb 6, 65, .inr (.inl (fun z9 => (w z9).2.1)))), (b7, .inl (cb 7, 65, .inl (fun z9 => (w z9).2.2)))] := hD
          refine lv_aload_n hx hb dY_waiting_30 rfl (lv_at hl 0 rfl) ?_
          refine va_get (D := (dC, dI)) (ci := 1) (v := .int (bI (bad wn 4 x y))) (C := RY) (T := TY) (N := 13) hx hb hts in_Y_waiting_Y hown hK hP 0 rfl rfl 0 (by decide) (hts (.fieldLink RY 35 "CausalGateModel" "thrown" "I") (by decide +kernel)) (fun _ h9 => h9) rfl dY_waiting_31 ?_
          refine lv_if_le (tgt := 39) hx hb dY_waiting_34 (by decide) (fun c_34 => ?_) (fun c_34 => ?_)
          · exact absurd c_34 (by rw [e9]; decide)
          · refine lv_iconst (v := 0) hx hb dY_waiting_37 (by decide) ?_
            exact mi_ret hx hb hr hlocks (by unfold wtM; rw [if_pos e9]) hAe hP hD hS dY_waiting_38
