set_option maxRecDepth 20000 in
theorem in_X0_clear_X0 : ∀ w ∈ wsX00, w ∈ wsX0_clear := by decide +kernel

set_option maxHeartbeats 4000000 in
set_option maxRecDepth 100000 in
theorem k_clear (l : Launch) (dC : Nat → ClassId) (dI : Nat → Nat → Nat) (ca : Nat → ClassId) (h0 a0 a1 a2 a3 a4 : Nat) (t : TF) (tn : Nat) (w : WF) (wn : Nat) (g : Int64) (ko mw : Nat) (sz : Nat)  : Met l yX0_clear wsX0_clear ({ frames := 0, cells := 0, slots := 0, locals := 0 }) (Pm [.ref h0] (dC, dI) clS [(ca 0, .int), (ca 1, .int), (ca 2, .int), (ca 3, .long), (ca 4, .int)] [(h0, .inr (0, [.ref a0, .ref a1, .int (nI tn), .ref a2, .ref a3, .ref a4, .int (nI wn), .long g, .int (nI ko), .int (nI mw)])), (a0, .inl (ca 0, 512, .inl (fun z9 => nI (t z9).1))), (a1, .inl (ca 1, 512, .inl (fun z9 => (t z9).2))), (a2, .inl (ca 2, 65, .inl (fun z9 => nI (w z9).1))), (a3, .inl (ca 3, 65, .inr (.inl (fun z9 => (w z9).2.1)))), (a4, .inl (ca 4, 65, .inl (fun z9 => (w z9).2.2)))] sz) (QmV (dC, dI) clS [(h0, .inr (0, [.ref a0, .ref a1, .int (nI tn), .ref a2, .ref a3, .ref a4, .int (nI wn), .long g, .int (nI ko), .int (nI mw)])), (a0, .inl (ca 0, 512, .inl (fun z9 => nI (t z9).1))), (a1, .inl (ca 1, 512, .inl (fun z9 => (t z9).2))), (a2, .inl (ca 2, 65, .inl (fun z9 => nI (w z9).1))), (a3, .inl (ca 3, 65, .inr (.inl (fun z9 => (w z9).2.1)))), (a4, .inl (ca 4, 65, .inl (fun z9 => (w z9).2.2)))] [(h0, .inr (0, [.ref a0, .ref a1, .int (nI 0), .ref a2, .ref a3, .ref a4, .int (nI 0), .long 0, .int (nI 0), .int (nI 0)])), (a0, .inl (ca 0, 512, .inl (fun z9 => nI (t z9).1))), (a1, .inl (ca 1, 512, .inl (fun z9 => (t z9).2))), (a2, .inl (ca 2, 65, .inl (fun z9 => nI (w z9).1))), (a3, .inl (ca 3, 65, .inr (.inl (fun z9 => (w z9).2.1)))), (a4, .inl (ca 4, 65, .inl (fun z9 => (w z9).2.2)))] sz) 0 0 (va_A [(h0, .inr (0, [.ref a0, .ref a1, .int (nI tn), .ref a2, .ref a3, .ref a4, .int (nI wn), .long g, .int (nI ko), .int (nI mw)])), (a0, .inl (ca 0, 512, .inl (fun z9 => nI (t z9).1))), (a1, .inl (ca 1, 512, .inl (fun z9 => (t z9).2))), (a2, .inl (ca 2, 65, .inl (fun z9 => nI (w z9).1))), (a3, .inl (ca 3, 65, .inr (.inl (fun z9 => (w z9).2.1)))), (a4, .inl (ca 4, 65, .inl (fun z9 => (w z9).2.2)))] sz) := by
  refine Met.ofW (cc := cX0_clear) (maxL := 1) (ret := none) (by decide) rfl ?_
  intro p e s m args below meth c s₁ B hml hv
  obtain ⟨hargs, hsz, hP, hK, hD0⟩ := hv
  have hx := B.exec
  have hb := B.bytes
  have hr := B.returns
  have hts := atoms_spec (ws := wsX0_clear) B.pre
  have hown : s.vm.findClass RX0 = some m.cls := findClass_of_methodNamed B.named
  have hlocks := B.notSynchronized
  subst hsz
  have hD := hD0.self (sz := s.heap.size)
  obtain ⟨A, hAe⟩ : ∃ A, A = va_A [(h0, .inr (0, [.ref a0, .ref a1, .int (nI tn), .ref a2, .ref a3, .ref a4, .int (nI wn), .long g, .int (nI ko), .int (nI mw)])), (a0, .inl (ca 0, 512, .inl (fun z9 => nI (t z9).1))), (a1, .inl (ca 1, 512, .inl (fun z9 => (t z9).2))), (a2, .inl (ca 2, 65, .inl (fun z9 => nI (w z9).1))), (a3, .inl (ca 3, 65, .inr (.inl (fun z9 => (w z9).2.1)))), (a4, .inl (ca 4, 65, .inl (fun z9 => (w z9).2.2)))] s.heap.size := ⟨_, rfl⟩
  rw [← hAe] at hD ⊢
  have hA : ∀ q : Nat, s.heap.size ≤ q → A q := fun q h => by rw [hAe]; exact Or.inr h
  have hS : va_S A s.heap s.heap [] := va_S.rf
  have hP : va_P (dC, dI) clS [(h0, .inr (0, [.ref a0, .ref a1, .int (nI tn), .ref a2, .ref a3, .ref a4, .int (nI wn), .long g, .int (nI ko), .int (nI mw)])), (a0, .inl (ca 0, 512, .inl (fun z9 => nI (t z9).1))), (a1, .inl (ca 1, 512, .inl (fun z9 => (t z9).2))), (a2, .inl (ca 2, 65, .inl (fun z9 => nI (w z9).1))), (a3, .inl (ca 3, 65, .inr (.inl (fun z9 => (w z9).2.1)))), (a4, .inl (ca 4, 65, .inl (fun z9 => (w z9).2.2)))] s.heap := hP
  have hl := lv_entry ([.ref h0]) (n := 1) (Nat.le_of_ble_eq_true rfl)
  have hE : entryFrame m args 1 = F0 m 0 ((lg_sl ([.ref h0]) ++ List.replicate (1 - (lg_sl ([.ref h0])).length) Slot.unset).toArray) [] := by rw [hargs]; exact lg_entry_eq m ([.ref h0]) 1
  rw [hE]
  generalize (lg_sl ([.ref h0]) ++ List.replicate (1 - (lg_sl ([.ref h0])).length) Slot.unset).toArray = ls at hl ⊢
  have hl : lv_has ls 1 [(0, .ref h0)] := hl
  refine lv_aload_n hx hb dX0_clear_0 rfl (lv_at hl 0 rfl) ?_
  refine lv_iconst (v := 0) hx hb dX0_clear_1 (by decide) ?_
  refine tp_i (y := nI 0) (nI_0.symm) ?_
  refine va_put (D := (dC, dI)) (ci := 0) (v := .int (nI 0)) (ty := .int) (C := RX0) (T := TX0) (N := 10) hx hb hts in_X0_clear_X0 tyX0 tyX0_ok nmX0 hown hK hP hD hS 0 rfl rfl 2 (by decide) (hts (.fieldLink RX0 26 "CausalGate" "throughCount" "I") (by decide +kernel)) (fun _ h9 => h9) rfl (by decide +kernel) rfl rfl (Nat.le_of_ble_eq_true rfl) dX0_clear_2 (fun H locs hP hD hS => ?_)
  have hP : va_P (dC, dI) clS [(h0, .inr (0, [.ref a0, .ref a1, .int (nI 0), .ref a2, .ref a3, .ref a4, .int (nI wn), .long g, .int (nI ko), .int (nI mw)])), (a0, .inl (ca 0, 512, .inl (fun z9 => nI (t z9).1))), (a1, .inl (ca 1, 512, .inl (fun z9 => (t z9).2))), (a2, .inl (ca 2, 65, .inl (fun z9 => nI (w z9).1))), (a3, .inl (ca 3, 65, .inr (.inl (fun z9 => (w z9).2.1)))), (a4, .inl (ca 4, 65, .inl (fun z9 => (w z9).2.2)))] H := hP
  have hD : va_D A [(h0, .inr (0, [.ref a0, .ref a1, .int (nI 0), .ref a2, .ref a3, .ref a4, .int (nI wn), .long g, .int (nI ko), .int (nI mw)])), (a0, .inl (ca 0, 512, .inl (fun z9 => nI (t z9).1))), (a1, .inl (ca 1, 512, .inl (fun z9 => (t z9).2))), (a2, .inl (ca 2, 65, .inl (fun z9 => nI (w z9).1))), (a3, .inl (ca 3, 65, .inr (.inl (fun z9 => (w z9).2.1)))), (a4, .inl (ca 4, 65, .inl (fun z9 => (w z9).2.2)))] := hD
  refine lv_aload_n hx hb dX0_clear_5 rfl (lv_at hl 0 rfl) ?_
  refine lv_iconst (v := 0) hx hb dX0_clear_6 (by decide) ?_
  refine tp_i (y := nI 0) (nI_0.symm) ?_
  refine va_put (D := (dC, dI)) (ci := 0) (v := .int (nI 0)) (ty := .int) (C := RX0) (T := TX0) (N := 10) hx hb hts in_X0_clear_X0 tyX0 tyX0_ok nmX0 hown hK hP hD hS 0 rfl rfl 6 (by decide) (hts (.fieldLink RX0 30 "CausalGate" "waitCount" "I") (by decide +kernel)) (fun _ h9 => h9) rfl (by decide +kernel) rfl rfl (Nat.le_of_ble_eq_true rfl) dX0_clear_7 (fun H locs hP hD hS => ?_)
  have hP : va_P (dC, dI) clS [(h0, .inr (0, [.ref a0, .ref a1, .int (nI 0), .ref a2, .ref a3, .ref a4, .int (nI 0), .long g, .int (nI ko), .int (nI mw)])), (a0, .inl (ca 0, 512, .inl (fun z9 => nI (t z9).1))), (a1, .inl (ca 1, 512, .inl (fun z9 => (t z9).2))), (a2, .inl (ca 2, 65, .inl (fun z9 => nI (w z9).1))), (a3, .inl (ca 3, 65, .inr (.inl (fun z9 => (w z9).2.1)))), (a4, .inl (ca 4, 65, .inl (fun z9 => (w z9).2.2)))] H := hP
  have hD : va_D A [(h0, .inr (0, [.ref a0, .ref a1, .int (nI 0), .ref a2, .ref a3, .ref a4, .int (nI 0), .long g, .int (nI ko), .int (nI mw)])), (a0, .inl (ca 0, 512, .inl (fun z9 => nI (t z9).1))), (a1, .inl (ca 1, 512, .inl (fun z9 => (t z9).2))), (a2, .inl (ca 2, 65, .inl (fun z9 => nI (w z9).1))), (a3, .inl (ca 3, 65, .inr (.inl (fun z9 => (w z9).2.1)))), (a4, .inl (ca 4, 65, .inl (fun z9 => (w z9).2.2)))] := hD
  refine lv_aload_n hx hb dX0_clear_10 rfl (lv_at hl 0 rfl) ?_
  refine lv_lconst (v := 0) hx hb dX0_clear_11 (by decide) ?_
  refine va_put (D := (dC, dI)) (ci := 0) (v := .long 0) (ty := .long) (C := RX0) (T := TX0) (N := 10) hx hb hts in_X0_clear_X0 tyX0 tyX0_ok nmX0 hown hK hP hD hS 0 rfl rfl 7 (by decide) (hts (.fieldLink RX0 33 "CausalGate" "gateClock" "J") (by decide +kernel)) (fun _ h9 => h9) rfl (by decide +kernel) rfl rfl (Nat.le_of_ble_eq_true rfl) dX0_clear_12 (fun H locs hP hD hS => ?_)
  have hP : va_P (dC, dI) clS [(h0, .inr (0, [.ref a0, .ref a1, .int (nI 0), .ref a2, .ref a3, .ref a4, .int (nI 0), .long 0, .int (nI ko), .int (nI mw)])), (a0, .inl (ca 0, 512, .inl (fun z9 => nI (t z9).1))), (a1, .inl (ca 1, 512, .inl (fun z9 => (t z9).2))), (a2, .inl (ca 2, 65, .inl (fun z9 => nI (w z9).1))), (a3, .inl (ca 3, 65, .inr (.inl (fun z9 => (w z9).2.1)))), (a4, .inl (ca 4, 65, .inl (fun z9 => (w z9).2.2)))] H := hP
  have hD : va_D A [(h0, .inr (0, [.ref a0, .ref a1, .int (nI 0), .ref a2, .ref a3, .ref a4, .int (nI 0), .long 0, .int (nI ko), .int (nI mw)])), (a0, .inl (ca 0, 512, .inl (fun z9 => nI (t z9).1))), (a1, .inl (ca 1, 512, .inl (fun z9 => (t z9).2))), (a2, .inl (ca 2, 65, .inl (fun z9 => nI (w z9).1))), (a3, .inl (ca 3, 65, .inr (.inl (fun z9 => (w z9).2.1)))), (a4, .inl (ca 4, 65, .inl (fun z9 => (w z9).2.2)))] := hD
  refine lv_aload_n hx hb dX0_clear_15 rfl (lv_at hl 0 rfl) ?_
  refine lv_iconst (v := 0) hx hb dX0_clear_16 (by decide) ?_
  refine tp_i (y := nI 0) (nI_0.symm) ?_
  refine va_put (D := (dC, dI)) (ci := 0) (v := .int (nI 0)) (ty := .int) (C := RX0) (T := TX0) (N := 10) hx hb hts in_X0_clear_X0 tyX0 tyX0_ok nmX0 hown hK hP hD hS 0 rfl rfl 8 (by decide) (hts (.fieldLink RX0 37 "CausalGate" "knownOffers" "I") (by decide +kernel)) (fun _ h9 => h9) rfl (by decide +kernel) rfl rfl (Nat.le_of_ble_eq_true rfl) dX0_clear_17 (fun H locs hP hD hS => ?_)
  have hP : va_P (dC, dI) clS [(h0, .inr (0, [.ref a0, .ref a1, .int (nI 0), .ref a2, .ref a3, .ref a4, .int (nI 0), .long 0, .int (nI 0), .int (nI mw)])), (a0, .inl (ca 0, 512, .inl (fun z9 => nI (t z9).1))), (a1, .inl (ca 1, 512, .inl (fun z9 => (t z9).2))), (a2, .inl (ca 2, 65, .inl (fun z9 => nI (w z9).1))), (a3, .inl (ca 3, 65, .inr (.inl (fun z9 => (w z9).2.1)))), (a4, .inl (ca 4, 65, .inl (fun z9 => (w z9).2.2)))] H := hP
  have hD : va_D A [(h0, .inr (0, [.ref a0, .ref a1, .int (nI 0), .ref a2, .ref a3, .ref a4, .int (nI 0), .long 0, .int (nI 0), .int (nI mw)])), (a0, .inl (ca 0, 512, .inl (fun z9 => nI (t z9).1))), (a1, .inl (ca 1, 512, .inl (fun z9 => (t z9).2))), (a2, .inl (ca 2, 65, .inl (fun z9 => nI (w z9).1))), (a3, .inl (ca 3, 65, .inr (.inl (fun z9 => (w z9).2.1)))), (a4, .inl (ca 4, 65, .inl (fun z9 => (w z9).2.2)))] := hD
  refine lv_aload_n hx hb dX0_clear_20 rfl (lv_at hl 0 rfl) ?_
  refine lv_iconst (v := 0) hx hb dX0_clear_21 (by decide) ?_
  refine tp_i (y := nI 0) (nI_0.symm) ?_
  refine va_put (D := (dC, dI)) (ci := 0) (v := .int (nI 0)) (ty := .int) (C := RX0) (T := TX0) (N := 10) hx hb hts in_X0_clear_X0 tyX0 tyX0_ok nmX0 hown hK hP hD hS 0 rfl rfl 9 (by decide) (hts (.fieldLink RX0 40 "CausalGate" "mostWaited" "I") (by decide +kernel)) (fun _ h9 => h9) rfl (by decide +kernel) rfl rfl (Nat.le_of_ble_eq_true rfl) dX0_clear_22 (fun H locs hP hD hS => ?_)
  have hP : va_P (dC, dI) clS [(h0, .inr (0, [.ref a0, .ref a1, .int (nI 0), .ref a2, .ref a3, .ref a4, .int (nI 0), .long 0, .int (nI 0), .int (nI 0)])), (a0, .inl (ca 0, 512, .inl (fun z9 => nI (t z9).1))), (a1, .inl (ca 1, 512, .inl (fun z9 => (t z9).2))), (a2, .inl (ca 2, 65, .inl (fun z9 => nI (w z9).1))), (a3, .inl (ca 3, 65, .inr (.inl (fun z9 => (w z9).2.1)))), (a4, .inl (ca 4, 65, .inl (fun z9 => (w z9).2.2)))] H := hP
  have hD : va_D A [(h0, .inr (0, [.ref a0, .ref a1, .int (nI 0), .ref a2, .ref a3, .ref a4, .int (nI 0), .long 0, .int (nI 0), .int (nI 0)])), (a0, .inl (ca 0, 512, .inl (fun z9 => nI (t z9).1))), (a1, .inl (ca 1, 512, .inl (fun z9 => (t z9).2))), (a2, .inl (ca 2, 65, .inl (fun z9 => nI (w z9).1))), (a3, .inl (ca 3, 65, .inr (.inl (fun z9 => (w z9).2.1)))), (a4, .inl (ca 4, 65, .inl (fun z9 => (w z9).2.2)))] := hD
  exact mv_ret hx hb hr hlocks hAe hP hD hS dX0_clear_25

set_option maxRecDepth 20000 in
theorem in_X0_moveWaiting_X0 : ∀ w ∈ wsX00, w ∈ wsX0_moveWaiting := by decide +kernel

set_option maxHeartbeats 4000000 in
set_option maxRecDepth 100000 in
theorem k_moveWaiting (l : Launch) (dC : Nat → ClassId) (dI : Nat → Nat → Nat) (ca : Nat → ClassId) (h0 a0 a1 a2 a3 a4 : Nat) (t : TF) (tn : Nat) (w : WF) (wn : Nat) (g : Int64) (ko mw : Nat) (sz : Nat) (i q : Nat) (hi : i < 65) (hq : q < 65) : Met l yX0_moveWaiting wsX0_moveWaiting ({ frames := 0, cells := 0, slots := 0, locals := 0 }) (Pm [.ref h0, .int (nI i), .int (nI q)] (dC, dI) clS [(ca 0, .int), (ca 1, .int), (ca 2, .int), (ca 3, .long), (ca 4, .int)] [(h0, .inr (0, [.ref a0, .ref a1, .int (nI tn), .ref a2, .ref a3, .ref a4, .int (nI wn), .long g, .int (nI ko), .int (nI mw)])), (a0, .inl (ca 0, 512, .inl (fun z9 => nI (t z9).1))), (a1, .inl (ca 1, 512, .inl (fun z9 => (t z9).2))), (a2, .inl (ca 2, 65, .inl (fun z9 => nI (w z9).1))), (a3, .inl (ca 3, 65, .inr (.inl (fun z9 => (w z9).2.1)))), (a4, .inl (ca 4, 65, .inl (fun z9 => (w z9).2.2)))] sz) (QmV (dC, dI) clS [(h0, .inr (0, [.ref a0, .ref a1, .int (nI tn), .ref a2, .ref a3, .ref a4, .int (nI wn), .long g, .int (nI ko), .int (nI mw)])), (a0, .inl (ca 0, 512, .inl (fun z9 => nI (t z9).1))), (a1, .inl (ca 1, 512, .inl (fun z9 => (t z9).2))), (a2, .inl (ca 2, 65, .inl (fun z9 => nI (w z9).1))), (a3, .inl (ca 3, 65, .inr (.inl (fun z9 => (w z9).2.1)))), (a4, .inl (ca 4, 65, .inl (fun z9 => (w z9).2.2)))] [(h0, .inr (0, [.ref a0, .ref a1, .int (nI tn), .ref a2, .ref a3, .ref a4, .int (nI wn), .long g, .int (nI ko), .int (nI mw)])), (a0, .inl (ca 0, 512, .inl (fun z9 => nI (t z9).1))), (a1, .inl (ca 1, 512, .inl (fun z9 => (t z9).2))), (a2, .inl (ca 2, 65, .inl (fun z9 => nI ((va_up w q (w i)) z9).1))), (a3, .inl (ca 3, 65, .inr (.inl (fun z9 => ((va_up w q (w i)) z9).2.1)))), (a4, .inl (ca 4, 65, .inl (fun z9 => ((va_up w q (w i)) z9).2.2)))] sz) 0 0 (va_A [(h0, .inr (0, [.ref a0, .ref a1, .int (nI tn), .ref a2, .ref a3, .ref a4, .int (nI wn), .long g, .int (nI ko), .int (nI mw)])), (a0, .inl (ca 0, 512, .inl (fun z9 => nI (t z9).1))), (a1, .inl (ca 1, 512, .inl (fun z9 => (t z9).2))), (a2, .inl (ca 2, 65, .inl (fun z9 => nI (w z9).1))), (a3, .inl (ca 3, 65, .inr (.inl (fun z9 => (w z9).2.1)))), (a4, .inl (ca 4, 65, .inl (fun z9 => (w z9).2.2)))] sz) := by
  refine Met.ofW (cc := cX0_moveWaiting) (maxL := 3) (ret := none) (by decide) rfl ?_
  intro p e s m args below meth c s₁ B hml hv
  obtain ⟨hargs, hsz, hP, hK, hD0⟩ := hv
  have hx := B.exec
  have hb := B.bytes
  have hr := B.returns
  have hts := atoms_spec (ws := wsX0_moveWaiting) B.pre
  have hown : s.vm.findClass RX0 = some m.cls := findClass_of_methodNamed B.named
  have hlocks := B.notSynchronized
  subst hsz
  have hD := hD0.self (sz := s.heap.size)
  obtain ⟨A, hAe⟩ : ∃ A, A = va_A [(h0, .inr (0, [.ref a0, .ref a1, .int (nI tn), .ref a2, .ref a3, .ref a4, .int (nI wn), .long g, .int (nI ko), .int (nI mw)])), (a0, .inl (ca 0, 512, .inl (fun z9 => nI (t z9).1))), (a1, .inl (ca 1, 512, .inl (fun z9 => (t z9).2))), (a2, .inl (ca 2, 65, .inl (fun z9 => nI (w z9).1))), (a3, .inl (ca 3, 65, .inr (.inl (fun z9 => (w z9).2.1)))), (a4, .inl (ca 4, 65, .inl (fun z9 => (w z9).2.2)))] s.heap.size := ⟨_, rfl⟩
  rw [← hAe] at hD ⊢
  have hA : ∀ q : Nat, s.heap.size ≤ q → A q := fun q h => by rw [hAe]; exact Or.inr h
  have hS : va_S A s.heap s.heap [] := va_S.rf
  have hP : va_P (dC, dI) clS [(h0, .inr (0, [.ref a0, .ref a1, .int (nI tn), .ref a2, .ref a3, .ref a4, .int (nI wn), .long g, .int (nI ko), .int (nI mw)])), (a0, .inl (ca 0, 512, .inl (fun z9 => nI (t z9).1))), (a1, .inl (ca 1, 512, .inl (fun z9 => (t z9).2))), (a2, .inl (ca 2, 65, .inl (fun z9 => nI (w z9).1))), (a3, .inl (ca 3, 65, .inr (.inl (fun z9 => (w z9).2.1)))), (a4, .inl (ca 4, 65, .inl (fun z9 => (w z9).2.2)))] s.heap := hP
  have hl := lv_entry ([.ref h0, .int (nI i), .int (nI q)]) (n := 3) (Nat.le_of_ble_eq_true rfl)
  have hE : entryFrame m args 3 = F0 m 0 ((lg_sl ([.ref h0, .int (nI i), .int (nI q)]) ++ List.replicate (3 - (lg_sl ([.ref h0, .int (nI i), .int (nI q)])).length) Slot.unset).toArray) [] := by rw [hargs]; exact lg_entry_eq m ([.ref h0, .int (nI i), .int (nI q)]) 3
  rw [hE]
  generalize (lg_sl ([.ref h0, .int (nI i), .int (nI q)]) ++ List.replicate (3 - (lg_sl ([.ref h0, .int (nI i), .int (nI q)])).length) Slot.unset).toArray = ls at hl ⊢
  have hl : lv_has ls 3 [(0, .ref h0), (1, .int (nI i)), (2, .int (nI q))] := hl
  refine lv_aload_n hx hb dX0_moveWaiting_0 rfl (lv_at hl 0 rfl) ?_
  refine va_get (D := (dC, dI)) (ci := 0) (v := .ref a2) (C := RX0) (T := TX0) (N := 10) hx hb hts in_X0_moveWaiting_X0 hown hK hP 0 rfl rfl 3 (by decide) (hts (.fieldLink RX0 16 "CausalGate" "waitKeys" "[I") (by decide +kernel)) (fun _ h9 => h9) rfl dX0_moveWaiting_1 ?_
  refine lv_iload_n hx hb dX0_moveWaiting_4 rfl (lv_at hl 2 rfl) ?_
  refine lv_aload_n hx hb dX0_moveWaiting_5 rfl (lv_at hl 0 rfl) ?_
  refine va_get (D := (dC, dI)) (ci := 0) (v := .ref a2) (C := RX0) (T := TX0) (N := 10) hx hb hts in_X0_moveWaiting_X0 hown hK hP 0 rfl rfl 3 (by decide) (hts (.fieldLink RX0 16 "CausalGate" "waitKeys" "[I") (by decide +kernel)) (fun _ h9 => h9) rfl dX0_moveWaiting_6 ?_
  refine lv_iload_n hx hb dX0_moveWaiting_9 rfl (lv_at hl 1 rfl) ?_
  refine va_iald hx hb hK hP 3 2 rfl rfl (vp_in_nI (by omega) (by decide)) dX0_moveWaiting_10 ?_
  refine tp_i (y := nI (w i).1) (by rw [nI_clamp (by omega)]) ?_
  refine va_iast hx hb hK hP hD hS 3 2 rfl rfl (vp_in_nI (by omega) (by decide)) dX0_moveWaiting_11 (fun H locs hP hD hS => ?_)
  rw [show upd (fun z9 => nI (w z9).1) (nI q).toNatClampNeg (nI (w i).1) = fun z9 => nI (va_up w q (w i) z9).1 from by rw [nI_clamp (by omega)]; exact up_k w q (w i)] at hP hD
  have hP : va_P (dC, dI) clS [(h0, .inr (0, [.ref a0, .ref a1, .int (nI tn), .ref a2, .ref a3, .ref a4, .int (nI wn), .long g, .int (nI ko), .int (nI mw)])), (a0, .inl (ca 0, 512, .inl (fun z9 => nI (t z9).1))), (a1, .inl (ca 1, 512, .inl (fun z9 => (t z9).2))), (a2, .inl (ca 2, 65, .inl (fun z9 => nI (va_up w q (w i) z9).1))), (a3, .inl (ca 3, 65, .inr (.inl (fun z9 => (w z9).2.1)))), (a4, .inl (ca 4, 65, .inl (fun z9 => (w z9).2.2)))] H := hP
  have hD : va_D A [(h0, .inr (0, [.ref a0, .ref a1, .int (nI tn), .ref a2, .ref a3, .ref a4, .int (nI wn), .long g, .int (nI ko), .int (nI mw)])), (a0, .inl (ca 0, 512, .inl (fun z9 => nI (t z9).1))), (a1, .inl (ca 1, 512, .inl (fun z9 => (t z9).2))), (a2, .inl (ca 2, 65, .inl (fun z9 => nI (va_up w q (w i) z9).1))), (a3, .inl (ca 3, 65, .inr (.inl (fun z9 => (w z9).2.1)))), (a4, .inl (ca 4, 65, .inl (fun z9 => (w z9).2.2)))] := hD
  refine lv_aload_n hx hb dX0_moveWaiting_12 rfl (lv_at hl 0 rfl) ?_
  refine va_get (D := (dC, dI)) (ci := 0) (v := .ref a3) (C := RX0) (T := TX0) (N := 10) hx hb hts in_X0_moveWaiting_X0 hown hK hP 0 rfl rfl 4 (by decide) (hts (.fieldLink RX0 19 "CausalGate" "waitClocks" "[J") (by decide +kernel)) (fun _ h9 => h9) rfl dX0_moveWaiting_13 ?_
  refine lv_iload_n hx hb dX0_moveWaiting_16 rfl (lv_at hl 2 rfl) ?_
  refine lv_aload_n hx hb dX0_moveWaiting_17 rfl (lv_at hl 0 rfl) ?_
  refine va_get (D := (dC, dI)) (ci := 0) (v := .ref a3) (C := RX0) (T := TX0) (N := 10) hx hb hts in_X0_moveWaiting_X0 hown hK hP 0 rfl rfl 4 (by decide) (hts (.fieldLink RX0 19 "CausalGate" "waitClocks" "[J") (by decide +kernel)) (fun _ h9 => h9) rfl dX0_moveWaiting_18 ?_
  refine lv_iload_n hx hb dX0_moveWaiting_21 rfl (lv_at hl 1 rfl) ?_
  refine va_lald hx hb hK hP 4 3 rfl rfl (vp_in_nI (by omega) (by decide)) dX0_moveWaiting_22 ?_
  refine tp_l (y := (w i).2.1) (by rw [nI_clamp (by omega)]) ?_
  refine va_last hx hb hK hP hD hS 4 3 rfl rfl (vp_in_nI (by omega) (by decide)) dX0_moveWaiting_23 (fun H locs hP hD hS => ?_)
  rw [show vp_updL (fun z9 => (w z9).2.1) (nI q).toNatClampNeg ((w i).2.1) = fun z9 => (va_up w q (w i) z9).2.1 from by rw [nI_clamp (by omega)]; exact up_c w q (w i)] at hP hD
  have hP : va_P (dC, dI) clS [(h0, .inr (0, [.ref a0, .ref a1, .int (nI tn), .ref a2, .ref a3, .ref a4, .int (nI wn), .long g, .int (nI ko), .int (nI mw)])), (a0, .inl (ca 0, 512, .inl (fun z9 => nI (t z9).1))), (a1, .inl (ca 1, 512, .inl (fun z9 => (t z9).2))), (a2, .inl (ca 2, 65, .inl (fun z9 => nI (va_up w q (w i) z9).1))), (a3, .inl (ca 3, 65, .inr (.inl (fun z9 => (va_up w q (w i) z9).2.1)))), (a4, .inl (ca 4, 65, .inl (fun z9 => (w z9).2.2)))] H := hP
  have hD : va_D A [(h0, .inr (0, [.ref a0, .ref a1, .int (nI tn), .ref a2, .ref a3, .ref a4, .int (nI wn), .long g, .int (nI ko), .int (nI mw)])), (a0, .inl (ca 0, 512, .inl (fun z9 => nI (t z9).1))), (a1, .inl (ca 1, 512, .inl (fun z9 => (t z9).2))), (a2, .inl (ca 2, 65, .inl (fun z9 => nI (va_up w q (w i) z9).1))), (a3, .inl (ca 3, 65, .inr (.inl (fun z9 => (va_up w q (w i) z9).2.1)))), (a4, .inl (ca 4, 65, .inl (fun z9 => (w z9).2.2)))] := hD
  refine lv_aload_n hx hb dX0_moveWaiting_24 rfl (lv_at hl 0 rfl) ?_
  refine va_get (D := (dC, dI)) (ci := 0) (v := .ref a4) (C := RX0) (T := TX0) (N := 10) hx hb hts in_X0_moveWaiting_X0 hown hK hP 0 rfl rfl 5 (by decide) (hts (.fieldLink RX0 23 "CausalGate" "waitLabels" "[I") (by decide +kernel)) (fun _ h9 => h9) rfl dX0_moveWaiting_25 ?_
  refine lv_iload_n hx hb dX0_moveWaiting_28 rfl (lv_at hl 2 rfl) ?_
  refine lv_aload_n hx hb dX0_moveWaiting_29 rfl (lv_at hl 0 rfl) ?_
  refine va_get (D := (dC, dI)) (ci := 0) (v := .ref a4) (C := RX0) (T := TX0) (N := 10) hx hb hts in_X0_moveWaiting_X0 hown hK hP 0 rfl rfl 5 (by decide) (hts (.fieldLink RX0 23 "CausalGate" "waitLabels" "[I") (by decide +kernel)) (fun _ h9 => h9) rfl dX0_moveWaiting_30 ?_
  refine lv_iload_n hx hb dX0_moveWaiting_33 rfl (lv_at hl 1 rfl) ?_
  refine va_iald hx hb hK hP 5 4 rfl rfl (vp_in_nI (by omega) (by decide)) dX0_moveWaiting_34 ?_
  refine tp_i (y := (w i).2.2) (by rw [nI_clamp (by omega)]) ?_
  refine va_iast hx hb hK hP hD hS 5 4 rfl rfl (vp_in_nI (by omega) (by decide)) dX0_moveWaiting_35 (fun H locs hP hD hS => ?_)
  rw [show upd (fun z9 => (w z9).2.2) (nI q).toNatClampNeg ((w i).2.2) = fun z9 => (va_up w q (w i) z9).2.2 from by rw [nI_clamp (by omega)]; exact up_l w q (w i)] at hP hD
  have hP : va_P (dC, dI) clS [(h0, .inr (0, [.ref a0, .ref a1, .int (nI tn), .ref a2, .ref a3, .ref a4, .int (nI wn), .long g, .int (nI ko), .int (nI mw)])), (a0, .inl (ca 0, 512, .inl (fun z9 => nI (t z9).1))), (a1, .inl (ca 1, 512, .inl (fun z9 => (t z9).2))), (a2, .inl (ca 2, 65, .inl (fun z9 => nI (va_up w q (w i) z9).1))), (a3, .inl (ca 3, 65, .inr (.inl (fun z9 => (va_up w q (w i) z9).2.1)))), (a4, .inl (ca 4, 65, .inl (fun z9 => (va_up w q (w i) z9).2.2)))] H := hP
  have hD : va_D A [(h0, .inr (0, [.ref a0, .ref a1, .int (nI tn), .ref a2, .ref a3, .ref a4, .int (nI wn), .long g, .int (nI ko), .int (nI mw)])), (a0, .inl (ca 0, 512, .inl (fun z9 => nI (t z9).1))), (a1, .inl (ca 1, 512, .inl (fun z9 => (t z9).2))), (a2, .inl (ca 2, 65, .inl (fun z9 => nI (va_up w q (w i) z9).1))), (a3, .inl (ca 3, 65, .inr (.inl (fun z9 => (va_up w q (w i) z9).2.1)))), (a4, .inl (ca 4, 65, .inl (fun z9 => (va_up w q (w i) z9).2.2)))] := hD
  exact mv_ret hx hb hr hlocks hAe hP hD hS dX0_moveWaiting_36

set_option maxRecDepth 20000 in
theorem in_X0_removeWaiting_X0 : ∀ w ∈ wsX00, w ∈ wsX0_removeWaiting := by decide +kernel

set_option maxHeartbeats 4000000 in
set_option maxRecDepth 100000 in
theorem k_removeWaiting (l : Launch) (dC : Nat → ClassId) (dI : Nat → Nat → Nat) (ca : Nat → ClassId) (h0 a0 a1 a2 a3 a4 : Nat) (t : TF) (tn : Nat) (w : WF) (wn : Nat) (g : Int64) (ko mw : Nat) (sz : Nat) (q : Nat) (hq : q < wn) (hwn : wn ≤ 65) : Met l yX0_removeWaiting wsX0_removeWaiting ({ frames := 1, cells := 0, slots := 0, locals := 22 }) (Pm [.ref h0, .int (nI q)] (dC, dI) clS [(ca 0, .int), (ca 1, .int), (ca 2, .int), (ca 3, .long), (ca 4, .int)] [(h0, .inr (0, [.ref a0, .ref a1, .int (nI tn), .ref a2, .ref a3, .ref a4, .int (nI wn), .long g, .int (nI ko), .int (nI mw)])), (a0, .inl (ca 0, 512, .inl (fun z9 => nI (t z9).1))), (a1, .inl (ca 1, 512, .inl (fun z9 => (t z9).2))), (a2, .inl (ca 2, 65, .inl (fun z9 => nI (w z9).1))), (a3, .inl (ca 3, 65, .inr (.inl (fun z9 => (w z9).2.1)))), (a4, .inl (ca 4, 65, .inl (fun z9 => (w z9).2.2)))] sz) (QmV (dC, dI) clS [(h0, .inr (0, [.ref a0, .ref a1, .int (nI tn), .ref a2, .ref a3, .ref a4, .int (nI wn), .long g, .int (nI ko), .int (nI mw)])), (a0, .inl (ca 0, 512, .inl (fun z9 => nI (t z9).1))), (a1, .inl (ca 1, 512, .inl (fun z9 => (t z9).2))), (a2, .inl (ca 2, 65, .inl (fun z9 => nI (w z9).1))), (a3, .inl (ca 3, 65, .inr (.inl (fun z9 => (w z9).2.1)))), (a4, .inl (ca 4, 65, .inl (fun z9 => (w z9).2.2)))] [(h0, .inr (0, [.ref a0, .ref a1, .int (nI tn), .ref a2, .ref a3, .ref a4, .int (nI (wn - 1)), .long g, .int (nI ko), .int (nI mw)])), (a0, .inl (ca 0, 512, .inl (fun z9 => nI (t z9).1))), (a1, .inl (ca 1, 512, .inl (fun z9 => (t z9).2))), (a2, .inl (ca 2, 65, .inl (fun z9 => nI ((rmS (wn - (q + 1)) (q + 1) w) z9).1))), (a3, .inl (ca 3, 65, .inr (.inl (fun z9 => ((rmS (wn - (q + 1)) (q + 1) w) z9).2.1)))), (a4, .inl (ca 4, 65, .inl (fun z9 => ((rmS (wn - (q + 1)) (q + 1) w) z9).2.2)))] sz) 0 0 (va_A [(h0, .inr (0, [.ref a0, .ref a1, .int (nI tn), .ref a2, .ref a3, .ref a4, .int (nI wn), .long g, .int (nI ko), .int (nI mw)])), (a0, .inl (ca 0, 512, .inl (fun z9 => nI (t z9).1))), (a1, .inl (ca 1, 512, .inl (fun z9 => (t z9).2))), (a2, .inl (ca 2, 65, .inl (fun z9 => nI (w z9).1))), (a3, .inl (ca 3, 65, .inr (.inl (fun z9 => (w z9).2.1)))), (a4, .inl (ca 4, 65, .inl (fun z9 => (w z9).2.2)))] sz) := by
  refine Met.ofW (cc := cX0_removeWaiting) (maxL := 3) (ret := none) (by decide) rfl ?_
  intro p e s m args below meth c s₁ B hml hv
  obtain ⟨hargs, hsz, hP, hK, hD0⟩ := hv
  have hx := B.exec
  have hb := B.bytes
  have hr := B.returns
  have hts := atoms_spec (ws := wsX0_removeWaiting) B.pre
  have hown : s.vm.findClass RX0 = some m.cls := findClass_of_methodNamed B.named
  have hlocks := B.notSynchronized
  subst hsz
  have hD := hD0.self (sz := s.heap.size)
  obtain ⟨A, hAe⟩ : ∃ A, A = va_A [(h0, .inr (0, [.ref a0, .ref a1, .int (nI tn), .ref a2, .ref a3, .ref a4, .int (nI wn), .long g, .int (nI ko), .int (nI mw)])), (a0, .inl (ca 0, 512, .inl (fun z9 => nI (t z9).1))), (a1, .inl (ca 1, 512, .inl (fun z9 => (t z9).2))), (a2, .inl (ca 2, 65, .inl (fun z9 => nI (w z9).1))), (a3, .inl (ca 3, 65, .inr (.inl (fun z9 => (w z9).2.1)))), (a4, .inl (ca 4, 65, .inl (fun z9 => (w z9).2.2)))] s.heap.size := ⟨_, rfl⟩
  rw [← hAe] at hD ⊢
  have hA : ∀ q : Nat, s.heap.size ≤ q → A q := fun q h => by rw [hAe]; exact Or.inr h
  have hS : va_S A s.heap s.heap [] := va_S.rf
  have hP : va_P (dC, dI) clS [(h0, .inr (0, [.ref a0, .ref a1, .int (nI tn), .ref a2, .ref a3, .ref a4, .int (nI wn), .long g, .int (nI ko), .int (nI mw)])), (a0, .inl (ca 0, 512, .inl (fun z9 => nI (t z9).1))), (a1, .inl (ca 1, 512, .inl (fun z9 => (t z9).2))), (a2, .inl (ca 2, 65, .inl (fun z9 => nI (w z9).1))), (a3, .inl (ca 3, 65, .inr (.inl (fun z9 => (w z9).2.1)))), (a4, .inl (ca 4, 65, .inl (fun z9 => (w z9).2.2)))] s.heap := hP
  have hl := lv_entry ([.ref h0, .int (nI q)]) (n := 3) (Nat.le_of_ble_eq_true rfl)
  have hE : entryFrame m args 3 = F0 m 0 ((lg_sl ([.ref h0, .int (nI q)]) ++ List.replicate (3 - (lg_sl ([.ref h0, .int (nI q)])).length) Slot.unset).toArray) [] := by rw [hargs]; exact lg_entry_eq m ([.ref h0, .int (nI q)]) 3
  rw [hE]
  generalize (lg_sl ([.ref h0, .int (nI q)]) ++ List.replicate (3 - (lg_sl ([.ref h0, .int (nI q)])).length) Slot.unset).toArray = ls at hl ⊢
  have hl : lv_has ls 3 [(0, .ref h0), (1, .int (nI q))] := hl
  refine lv_iload_n hx hb dX0_removeWaiting_0 rfl (lv_at hl 1 rfl) ?_
  refine lv_iconst (v := 1) hx hb dX0_removeWaiting_1 (by decide) ?_
  refine lv_iadd hx hb dX0_removeWaiting_2 ?_
  refine tp_i (y := nI (q + 1)) (nI_1 q) ?_
  refine lv_istore_n (lv' := [(2, .int (nI (q + 1))), (0, .ref h0), (1, .int (nI q))]) hx hb dX0_removeWaiting_3 rfl hl (by decide) rfl (fun ls hl => ?_)
  have loop : ∀ (n : Nat) (j : Nat) (v : WF), 1 ≤ j → j + n = wn → rmS n j v = rmS (wn - (q + 1)) (q + 1) w → ∀ (H : Heap) (locs : List Loc), va_P (dC, dI) clS [(h0, .inr (0, [.ref a0, .ref a1, .int (nI tn), .ref a2, .ref a3, .ref a4, .int (nI wn), .long g, .int (nI ko), .int (nI mw)])), (a0, .inl (ca 0, 512, .inl (fun z9 => nI (t z9).1))), (a1, .inl (ca 1, 512, .inl (fun z9 => (t z9).2))), (a2, .inl (ca 2, 65, .inl (fun z9 => nI (v z9).1))), (a3, .inl (ca 3, 65, .inr (.inl (fun z9 => (v z9).2.1)))), (a4, .inl (ca 4, 65, .inl (fun z9 => (v z9).2.2)))] H → va_D A [(h0, .inr (0, [.ref a0, .ref a1, .int (nI tn), .ref a2, .ref a3, .ref a4, .int (nI wn), .long g, .int (nI ko), .int (nI mw)])), (a0, .inl (ca 0, 512, .inl (fun z9 => nI (t z9).1))), (a1, .inl (ca 1, 512, .inl (fun z9 => (t z9).2))), (a2, .inl (ca 2, 65, .inl (fun z9 => nI (v z9).1))), (a3, .inl (ca 3, 65, .inr (.inl (fun z9 => (v z9).2.1)))), (a4, .inl (ca 4, 65, .inl (fun z9 => (v z9).2.2)))] → va_S A s.heap H locs → ∀ ls : Array Slot, lv_has ls 3 [(0, .ref h0), (1, .int (nI q)), (2, .int (nI j))] → W p l e (headSpec wsX0_removeWaiting ({ frames := 1, cells := 0, slots := 0, locals := 22 })).room s m args below meth c H locs 0 0 (MQ below (QmV (dC, dI) clS [(h0, .inr (0, [.ref a0, .ref a1, .int (nI tn), .ref a2, .ref a3, .ref a4, .int (nI wn), .long g, .int (nI ko), .int (nI mw)])), (a0, .inl (ca 0, 512, .inl (fun z9 => nI (t z9).1))), (a1, .inl (ca 1, 512, .inl (fun z9 => (t z9).2))), (a2, .inl (ca 2, 65, .inl (fun z9 => nI (w z9).1))), (a3, .inl (ca 3, 65, .inr (.inl (fun z9 => (w z9).2.1)))), (a4, .inl (ca 4, 65, .inl (fun z9 => (w z9).2.2)))] [(h0, .inr (0, [.ref a0, .ref a1, .int (nI tn), .ref a2, .ref a3, .ref a4, .int (nI (wn - 1)), .long g, .int (nI ko), .int (nI mw)])), (a0, .inl (ca 0, 512, .inl (fun z9 => nI (t z9).1))), (a1, .inl (ca 1, 512, .inl (fun z9 => (t z9).2))), (a2, .inl (ca 2, 65, .inl (fun z9 => nI ((rmS (wn - (q + 1)) (q + 1) w) z9).1))), (a3, .inl (ca 3, 65, .inr (.inl (fun z9 => ((rmS (wn - (q + 1)) (q + 1) w) z9).2.1)))), (a4, .inl (ca 4, 65, .inl (fun z9 => ((rmS (wn - (q + 1)) (q + 1) w) z9).2.2)))] s.heap.size) args s 0 0 A) (F0 m 4 ls []) := by
    intro n
    induction n with
    | zero =>
      intro j v hj1 hj hk9 H locs hP hD hS ls hl
      refine lv_iload_n hx hb dX0_removeWaiting_4 rfl (lv_at hl 2 rfl) ?_
      refine lv_aload_n hx hb dX0_removeWaiting_5 rfl (lv_at hl 0 rfl) ?_
      refine va_get (D := (dC, dI)) (ci := 0) (v := .int (nI wn)) (C := RX0) (T := TX0) (N := 10) hx hb hts in_X0_removeWaiting_X0 hown hK hP 0 rfl rfl 6 (by decide) (hts (.fieldLink RX0 30 "CausalGate" "waitCount" "I") (by decide +kernel)) (fun _ h9 => h9) rfl dX0_removeWaiting_6 ?_
      refine lv_icmp_ge (tgt := 26) hx hb dX0_removeWaiting_9 (by decide) (fun c_9 => ?_) (fun c_9 => ?_)
      · refine lv_aload_n hx hb dX0_removeWaiting_26 rfl (lv_at hl 0 rfl) ?_
        refine lv_dup hx hb dX0_removeWaiting_27 rfl ?_
        refine va_get (D := (dC, dI)) (ci := 0) (v := .int (nI wn)) (C := RX0) (T := TX0) (N := 10) hx hb hts in_X0_removeWaiting_X0 hown hK hP 0 rfl rfl 6 (by decide) (hts (.fieldLink RX0 30 "CausalGate" "waitCount" "I") (by decide +kernel)) (fun _ h9 => h9) rfl dX0_removeWaiting_28 ?_
        refine lv_iconst (v := 1) hx hb dX0_removeWaiting_31 (by decide) ?_
        refine lv_isub hx hb dX0_removeWaiting_32 ?_
        refine tp_i (y := nI (wn - 1)) (pk_sub (b := 1) (by omega)) ?_
        refine va_put (D := (dC, dI)) (ci := 0) (v := .int (nI (wn - 1))) (ty := .int) (C := RX0) (T := TX0) (N := 10) hx hb hts in_X0_removeWaiting_X0 tyX0 tyX0_ok nmX0 hown hK hP hD hS 0 rfl rfl 6 (by decide) (hts (.fieldLink RX0 30 "CausalGate" "waitCount" "I") (by decide +kernel)) (fun _ h9 => h9) rfl (by decide +kernel) rfl rfl (Nat.le_of_ble_eq_true rfl) dX0_removeWaiting_33 (fun H locs hP hD hS => ?_)
        have hP : va_P (dC, dI) clS [(h0, .inr (0, [.ref a0, .ref a1, .int (nI tn), .ref a2, .ref a3, .ref a4, .int (nI (wn - 1)), .long g, .int (nI ko), .int (nI mw)])), (a0, .inl (ca 0, 512, .inl (fun z9 => nI (t z9).1))), (a1, .inl (ca 1, 512, .inl (fun z9 => (t z9).2))), (a2, .inl (ca 2, 65, .inl (fun z9 => nI (v z9).1))), (a3, .inl (ca 3, 65, .inr (.inl (fun z9 => (v z9).2.1)))), (a4, .inl (ca 4, 65, .inl (fun z9 => (v z9).2.2)))] H := hP
        have hD : va_D A [(h0, .inr (0, [.ref a0, .ref a1, .int (nI tn), .ref a2, .ref a3, .ref a4, .int (nI (wn - 1)), .long g, .int (nI ko), .int (nI mw)])), (a0, .inl (ca 0, 512, .inl (fun z9 => nI (t z9).1))), (a1, .inl (ca 1, 512, .inl (fun z9 => (t z9).2))), (a2, .inl (ca 2, 65, .inl (fun z9 => nI (v z9).1))), (a3, .inl (ca 3, 65, .inr (.inl (fun z9 => (v z9).2.1)))), (a4, .inl (ca 4, 65, .inl (fun z9 => (v z9).2.2)))] := hD
        have hk8 : v = rmS (wn - (q + 1)) (q + 1) w := hk9
        subst hk8
        exact mv_ret hx hb hr hlocks hAe hP hD hS dX0_removeWaiting_36
      · exact absurd (nI_le (by omega) (by omega)) c_9
    | succ n ih =>
      intro j v hj1 hj hk9 H locs hP hD hS ls hl
      refine lv_iload_n hx hb dX0_removeWaiting_4 rfl (lv_at hl 2 rfl) ?_
      refine lv_aload_n hx hb dX0_removeWaiting_5 rfl (lv_at hl 0 rfl) ?_
      refine va_get (D := (dC, dI)) (ci := 0) (v := .int (nI wn)) (C := RX0) (T := TX0) (N := 10) hx hb hts in_X0_removeWaiting_X0 hown hK hP 0 rfl rfl 6 (by decide) (hts (.fieldLink RX0 30 "CausalGate" "waitCount" "I") (by decide +kernel)) (fun _ h9 => h9) rfl dX0_removeWaiting_6 ?_
      refine lv_icmp_ge (tgt := 26) hx hb dX0_removeWaiting_9 (by decide) (fun c_9 => ?_) (fun c_9 => ?_)
      · exact absurd ((nI_leI (by omega) (by omega)).mp c_9) (by omega)
      · refine lv_aload_n hx hb dX0_removeWaiting_12 rfl (lv_at hl 0 rfl) ?_
        refine lv_iload_n hx hb dX0_removeWaiting_13 rfl (lv_at hl 2 rfl) ?_
        refine lv_iload_n hx hb dX0_removeWaiting_14 rfl (lv_at hl 2 rfl) ?_
        refine lv_iconst (v := 1) hx hb dX0_removeWaiting_15 (by decide) ?_
        refine lv_isub hx hb dX0_removeWaiting_16 ?_
        refine tp_i (y := nI (j - 1)) (pk_sub (b := 1) (by omega)) ?_
        refine mt_v (wc := [(h0, .inr (0, [.ref a0, .ref a1, .int (nI tn), .ref a2, .ref a3, .ref a4, .int (nI wn), .long g, .int (nI ko), .int (nI mw)])), (a0, .inl (ca 0, 512, .inl (fun z9 => nI (t z9).1))), (a1, .inl (ca 1, 512, .inl (fun z9 => (t z9).2))), (a2, .inl (ca 2, 65, .inl (fun z9 => nI (v z9).1))), (a3, .inl (ca 3, 65, .inr (.inl (fun z9 => (v z9).2.1)))), (a4, .inl (ca 4, 65, .inl (fun z9 => (v z9).2.2)))]) (wr := []) (w1 := [(h0, .inr (0, [.ref a0, .ref a1, .int (nI tn), .ref a2, .ref a3, .ref a4, .int (nI wn), .long g, .int (nI ko), .int (nI mw)])), (a0, .inl (ca 0, 512, .inl (fun z9 => nI (t z9).1))), (a1, .inl (ca 1, 512, .inl (fun z9 => (t z9).2))), (a2, .inl (ca 2, 65, .inl (fun z9 => nI ((va_up v (j - 1) (v j)) z9).1))), (a3, .inl (ca 3, 65, .inr (.inl (fun z9 => ((va_up v (j - 1) (v j)) z9).2.1)))), (a4, .inl (ca 4, 65, .inl (fun z9 => ((va_up v (j - 1) (v j)) z9).2.2)))]) [0, 1, 2, 3, 4, 5] [] hP hD hS hA rfl rfl (by decide) (by decide) (va_runV (mc := 0) (ms := 0) (As := [.int (nI j), .int (nI (j - 1))]) (rest := []) ⟨hx, hb, hml, hown, hts⟩ (k_moveWaiting l dC dI ca h0 a0 a1 a2 a3 a4 t tn v wn g ko mw _ j (j - 1) (by omega) (by omega)) (cwV 2 hts gX0_removeWaiting_X0_moveWaiting rfl rfl rfl (by decide +kernel) ⟨Nat.le_of_ble_eq_true rfl, Nat.le_of_ble_eq_true rfl⟩) (pm_V (ci := 0) (q0 := 0) hK (hP.sub (ws' := [(h0, .inr (0, [.ref a0, .ref a1, .int (nI tn), .ref a2, .ref a3, .ref a4, .int (nI wn), .long g, .int (nI ko), .int (nI mw)])), (a0, .inl (ca 0, 512, .inl (fun z9 => nI (t z9).1))), (a1, .inl (ca 1, 512, .inl (fun z9 => (t z9).2))), (a2, .inl (ca 2, 65, .inl (fun z9 => nI (v z9).1))), (a3, .inl (ca 3, 65, .inr (.inl (fun z9 => (v z9).2.1)))), (a4, .inl (ca 4, 65, .inl (fun z9 => (v z9).2.2)))]) [0, 1, 2, 3, 4, 5] rfl) (hD.sub (ws' := [(h0, .inr (0, [.ref a0, .ref a1, .int (nI tn), .ref a2, .ref a3, .ref a4, .int (nI wn), .long g, .int (nI ko), .int (nI mw)])), (a0, .inl (ca 0, 512, .inl (fun z9 => nI (t z9).1))), (a1, .inl (ca 1, 512, .inl (fun z9 => (t z9).2))), (a2, .inl (ca 2, 65, .inl (fun z9 => nI (v z9).1))), (a3, .inl (ca 3, 65, .inr (.inl (fun z9 => (v z9).2.1)))), (a4, .inl (ca 4, 65, .inl (fun z9 => (v z9).2.2)))]) [0, 1, 2, 3, 4, 5] (by decide) rfl) rfl rfl) rfl rfl hl.1 rfl (lv_room (Nat.le_of_ble_eq_true rfl)) dX0_removeWaiting_17 ⟨Nat.zero_le _, Nat.zero_le _⟩) (fun H locs hP hD hS => ?_)
        have hP : va_P (dC, dI) clS [(h0, .inr (0, [.ref a0, .ref a1, .int (nI tn), .ref a2, .ref a3, .ref a4, .int (nI wn), .long g, .int (nI ko), .int (nI mw)])), (a0, .inl (ca 0, 512, .inl (fun z9 => nI (t z9).1))), (a1, .inl (ca 1, 512, .inl (fun z9 => (t z9).2))), (a2, .inl (ca 2, 65, .inl (fun z9 => nI ((va_up v (j - 1) (v j)) z9).1))), (a3, .inl (ca 3, 65, .inr (.inl (fun z9 => ((va_up v (j - 1) (v j)) z9).2.1)))), (a4, .inl (ca 4, 65, .inl (fun z9 => ((va_up v (j - 1) (v j)) z9).2.2)))] H := hP
        have hD : va_D A [(h0, .inr (0, [.ref a0, .ref a1, .int (nI tn), .ref a2, .ref a3, .ref a4, .int (nI wn), .long g, .int (nI ko), .int (nI mw)])), (a0, .inl (ca 0, 512, .inl (fun z9 => nI (t z9).1))), (a1, .inl (ca 1, 512, .inl (fun z9 => (t z9).2))), (a2, .inl (ca 2, 65, .inl (fun z9 => nI ((va_up v (j - 1) (v j)) z9).1))), (a3, .inl (ca 3, 65, .inr (.inl (fun z9 => ((va_up v (j - 1) (v j)) z9).2.1)))), (a4, .inl (ca 4, 65, .inl (fun z9 => ((va_up v (j - 1) (v j)) z9).2.2)))] := hD
        refine lv_iinc (v := (nI (j + 1))) (lv' := [(2, .int (nI (j + 1))), (0, .ref h0), (1, .int (nI q))]) hx hb dX0_removeWaiting_20 hl (k := 2) rfl (nI_1 j) (by decide) rfl (fun ls hl => ?_)
        refine lv_goto (tgt := 4) hx hb dX0_removeWaiting_23 (by decide) ?_
        exact ih (j + 1) (va_up v (j - 1) (v j)) (by omega) (by omega) (by rw [← hk9]; rfl) _ _ hP hD hS ls (lv_sub hl [1, 2, 0] rfl)
  exact loop (wn - (q + 1)) (q + 1) w (by omega) (by omega) rfl _ _ hP hD hS ls (lv_sub hl [1, 2, 0] rfl)

set_option maxRecDepth 20000 in
theorem in_X0_insertWaiting_X0 : ∀ w ∈ wsX00, w ∈ wsX0_insertWaiting := by decide +kernel

set_option maxHeartbeats 4000000 in
set_option maxRecDepth 100000 in
theorem k_insertWaiting (l : Launch) (dC : Nat → ClassId) (dI : Nat → Nat → Nat) (ca : Nat → ClassId) (h0 a0 a1 a2 a3 a4 : Nat) (t : TF) (tn : Nat) (w : WF) (wn : Nat) (g : Int64) (ko mw : Nat) (sz : Nat) (k : Nat) (ck : Int64) (lb : Int32) (hk : k < 2048) (hwn : wn < 65) (hw : ∀ j, j < wn → (w j).1 < 2048) : Met l yX0_insertWaiting wsX0_insertWaiting ({ frames := 1, cells := 0, slots := 0, locals := 22 }) (Pm [.ref h0, .int (nI k), .long ck, .int lb] (dC, dI) clS [(ca 0, .int), (ca 1, .int), (ca 2, .int), (ca 3, .long), (ca 4, .int)] [(h0, .inr (0, [.ref a0, .ref a1, .int (nI tn), .ref a2, .ref a3, .ref a4, .int (nI wn), .long g, .int (nI ko), .int (nI mw)])), (a0, .inl (ca 0, 512, .inl (fun z9 => nI (t z9).1))), (a1, .inl (ca 1, 512, .inl (fun z9 => (t z9).2))), (a2, .inl (ca 2, 65, .inl (fun z9 => nI (w z9).1))), (a3, .inl (ca 3, 65, .inr (.inl (fun z9 => (w z9).2.1)))), (a4, .inl (ca 4, 65, .inl (fun z9 => (w z9).2.2)))] sz) (QmV (dC, dI) clS [(h0, .inr (0, [.ref a0, .ref a1, .int (nI tn), .ref a2, .ref a3, .ref a4, .int (nI wn), .long g, .int (nI ko), .int (nI mw)])), (a0, .inl (ca 0, 512, .inl (fun z9 => nI (t z9).1))), (a1, .inl (ca 1, 512, .inl (fun z9 => (t z9).2))), (a2, .inl (ca 2, 65, .inl (fun z9 => nI (w z9).1))), (a3, .inl (ca 3, 65, .inr (.inl (fun z9 => (w z9).2.1)))), (a4, .inl (ca 4, 65, .inl (fun z9 => (w z9).2.2)))] [(h0, .inr (0, [.ref a0, .ref a1, .int (nI tn), .ref a2, .ref a3, .ref a4, .int (nI (wn + 1)), .long g, .int (nI ko), .int (nI mw)])), (a0, .inl (ca 0, 512, .inl (fun z9 => nI (t z9).1))), (a1, .inl (ca 1, 512, .inl (fun z9 => (t z9).2))), (a2, .inl (ca 2, 65, .inl (fun z9 => nI ((va_up (inS k wn w).1 (inS k wn w).2 (k, ck, lb)) z9).1))), (a3, .inl (ca 3, 65, .inr (.inl (fun z9 => ((va_up (inS k wn w).1 (inS k wn w).2 (k, ck, lb)) z9).2.1)))), (a4, .inl (ca 4, 65, .inl (fun z9 => ((va_up (inS k wn w).1 (inS k wn w).2 (k, ck, lb)) z9).2.2)))] sz) 0 0 (va_A [(h0, .inr (0, [.ref a0, .ref a1, .int (nI tn), .ref a2, .ref a3, .ref a4, .int (nI wn), .long g, .int (nI ko), .int (nI mw)])), (a0, .inl (ca 0, 512, .inl (fun z9 => nI (t z9).1))), (a1, .inl (ca 1, 512, .inl (fun z9 => (t z9).2))), (a2, .inl (ca 2, 65, .inl (fun z9 => nI (w z9).1))), (a3, .inl (ca 3, 65, .inr (.inl (fun z9 => (w z9).2.1)))), (a4, .inl (ca 4, 65, .inl (fun z9 => (w z9).2.2)))] sz) := by
  refine Met.ofW (cc := cX0_insertWaiting) (maxL := 6) (ret := none) (by decide) rfl ?_
  intro p e s m args below meth c s₁ B hml hv
  obtain ⟨hargs, hsz, hP, hK, hD0⟩ := hv
  have hx := B.exec
  have hb := B.bytes
  have hr := B.returns
  have hts := atoms_spec (ws := wsX0_insertWaiting) B.pre
  have hown : s.vm.findClass RX0 = some m.cls := findClass_of_methodNamed B.named
  have hlocks := B.notSynchronized
  subst hsz
  have hD := hD0.self (sz := s.heap.size)
  obtain ⟨A, hAe⟩ : ∃ A, A = va_A [(h0, .inr (0, [.ref a0, .ref a1, .int (nI tn), .ref a2, .ref a3, .ref a4, .int (nI wn), .long g, .int (nI ko), .int (nI mw)])), (a0, .inl (ca 0, 512, .inl (fun z9 => nI (t z9).1))), (a1, .inl (ca 1, 512, .inl (fun z9 => (t z9).2))), (a2, .inl (ca 2, 65, .inl (fun z9 => nI (w z9).1))), (a3, .inl (ca 3, 65, .inr (.inl (fun z9 => (w z9).2.1)))), (a4, .inl (ca 4, 65, .inl (fun z9 => (w z9).2.2)))] s.heap.size := ⟨_, rfl⟩
  rw [← hAe] at hD ⊢
  have hA : ∀ q : Nat, s.heap.size ≤ q → A q := fun q h => by rw [hAe]; exact Or.inr h
  have hS : va_S A s.heap s.heap [] := va_S.rf
  have hP : va_P (dC, dI) clS [(h0, .inr (0, [.ref a0, .ref a1, .int (nI tn), .ref a2, .ref a3, .ref a4, .int (nI wn), .long g, .int (nI ko), .int (nI mw)])), (a0, .inl (ca 0, 512, .inl (fun z9 => nI (t z9).1))), (a1, .inl (ca 1, 512, .inl (fun z9 => (t z9).2))), (a2, .inl (ca 2, 65, .inl (fun z9 => nI (w z9).1))), (a3, .inl (ca 3, 65, .inr (.inl (fun z9 => (w z9).2.1)))), (a4, .inl (ca 4, 65, .inl (fun z9 => (w z9).2.2)))] s.heap := hP
  have hl := lv_entry ([.ref h0, .int (nI k), .long ck, .int lb]) (n := 6) (Nat.le_of_ble_eq_true rfl)
  have hE : entryFrame m args 6 = F0 m 0 ((lg_sl ([.ref h0, .int (nI k), .long ck, .int lb]) ++ List.replicate (6 - (lg_sl ([.ref h0, .int (nI k), .long ck, .int lb])).length) Slot.unset).toArray) [] := by rw [hargs]; exact lg_entry_eq m ([.ref h0, .int (nI k), .long ck, .int lb]) 6
  rw [hE]
  generalize (lg_sl ([.ref h0, .int (nI k), .long ck, .int lb]) ++ List.replicate (6 - (lg_sl ([.ref h0, .int (nI k), .long ck, .int lb])).length) Slot.unset).toArray = ls at hl ⊢
  have hl : lv_has ls 6 [(0, .ref h0), (1, .int (nI k)), (2, .long ck), (4, .int lb)] := hl
  refine lv_aload_n hx hb dX0_insertWaiting_0 rfl (lv_at hl 0 rfl) ?_
  refine va_get (D := (dC, dI)) (ci := 0) (v := .int (nI wn)) (C := RX0) (T := TX0) (N := 10) hx hb hts in_X0_insertWaiting_X0 hown hK hP 0 rfl rfl 6 (by decide) (hts (.fieldLink RX0 30 "CausalGate" "waitCount" "I") (by decide +kernel)) (fun _ h9 => h9) rfl dX0_insertWaiting_1 ?_
  refine lv_istore (lv' := [(5, .int (nI wn)), (0, .ref h0), (1, .int (nI k)), (2, .long ck), (4, .int lb)]) hx hb dX0_insertWaiting_4 hl (by decide) rfl (fun ls hl => ?_)
  have loop : ∀ (n : Nat) (v : WF), n ≤ wn → (∀ j, j < n → (v j).1 < 2048) → inS k n v = inS k wn w → ∀ (H : Heap) (locs : List Loc), va_P (dC, dI) clS [(h0, .inr (0, [.ref a0, .ref a1, .int (nI tn), .ref a2, .ref a3, .ref a4, .int (nI wn), .long g, .int (nI ko), .int (nI mw)])), (a0, .inl (ca 0, 512, .inl (fun z9 => nI (t z9).1))), (a1, .inl (ca 1, 512, .inl (fun z9 => (t z9).2))), (a2, .inl (ca 2, 65, .inl (fun z9 => nI (v z9).1))), (a3, .inl (ca 3, 65, .inr (.inl (fun z9 => (v z9).2.1)))), (a4, .inl (ca 4, 65, .inl (fun z9 => (v z9).2.2)))] H → va_D A [(h0, .inr (0, [.ref a0, .ref a1, .int (nI tn), .ref a2, .ref a3, .ref a4, .int (nI wn), .long g, .int (nI ko), .int (nI mw)])), (a0, .inl (ca 0, 512, .inl (fun z9 => nI (t z9).1))), (a1, .inl (ca 1, 512, .inl (fun z9 => (t z9).2))), (a2, .inl (ca 2, 65, .inl (fun z9 => nI (v z9).1))), (a3, .inl (ca 3, 65, .inr (.inl (fun z9 => (v z9).2.1)))), (a4, .inl (ca 4, 65, .inl (fun z9 => (v z9).2.2)))] → va_S A s.heap H locs → ∀ ls : Array Slot, lv_has ls 6 [(0, .ref h0), (1, .int (nI k)), (2, .long ck), (4, .int lb), (5, .int (nI n))] → W p l e (headSpec wsX0_insertWaiting ({ frames := 1, cells := 0, slots := 0, locals := 22 })).room s m args below meth c H locs 0 0 (MQ below (QmV (dC, dI) clS [(h0, .inr (0, [.ref a0, .ref a1, .int (nI tn), .ref a2, .ref a3, .ref a4, .int (nI wn), .long g, .int (nI ko), .int (nI mw)])), (a0, .inl (ca 0, 512, .inl (fun z9 => nI (t z9).1))), (a1, .inl (ca 1, 512, .inl (fun z9 => (t z9).2))), (a2, .inl (ca 2, 65, .inl (fun z9 => nI (w z9).1))), (a3, .inl (ca 3, 65, .inr (.inl (fun z9 => (w z9).2.1)))), (a4, .inl (ca 4, 65, .inl (fun z9 => (w z9).2.2)))] [(h0, .inr (0, [.ref a0, .ref a1, .int (nI tn), .ref a2, .ref a3, .ref a4, .int (nI (wn + 1)), .long g, .int (nI ko), .int (nI mw)])), (a0, .inl (ca 0, 512, .inl (fun z9 => nI (t z9).1))), (a1, .inl (ca 1, 512, .inl (fun z9 => (t z9).2))), (a2, .inl (ca 2, 65, .inl (fun z9 => nI ((va_up (inS k wn w).1 (inS k wn w).2 (k, ck, lb)) z9).1))), (a3, .inl (ca 3, 65, .inr (.inl (fun z9 => ((va_up (inS k wn w).1 (inS k wn w).2 (k, ck, lb)) z9).2.1)))), (a4, .inl (ca 4, 65, .inl (fun z9 => ((va_up (inS k wn w).1 (inS k wn w).2 (k, ck, lb)) z9).2.2)))] s.heap.size) args s 0 0 A) (F0 m 6 ls []) := by
    intro n
    induction n with
    | zero =>
      intro v hn hv hk9 H locs hP hD hS ls hl
      refine lv_iload hx hb dX0_insertWaiting_6 (lv_at hl 4 rfl) ?_
      refine lv_if_le (tgt := 40) hx hb dX0_insertWaiting_8 (by decide) (fun c_8 => ?_) (fun c_8 => ?_)
      · have hk8 : inS k wn w = (v, 0) := hk9.symm
        refine lv_aload_n hx hb dX0_insertWaiting_40 rfl (lv_at hl 0 rfl) ?_
        refine va_get (D := (dC, dI)) (ci := 0) (v := .ref a2) (C := RX0) (T := TX0) (N := 10) hx hb hts in_X0_insertWaiting_X0 hown hK hP 0 rfl rfl 3 (by decide) (hts (.fieldLink RX0 16 "CausalGate" "waitKeys" "[I") (by decide +kernel)) (fun _ h9 => h9) rfl dX0_insertWaiting_41 ?_
        refine lv_iload hx hb dX0_insertWaiting_44 (lv_at hl 4 rfl) ?_
        refine lv_iload_n hx hb dX0_insertWaiting_46 rfl (lv_at hl 1 rfl) ?_
        refine va_iast hx hb hK hP hD hS 3 2 rfl rfl (vp_in_nI (by omega) (by decide)) dX0_insertWaiting_47 (fun H locs hP hD hS => ?_)
        rw [show upd (fun z9 => nI (v z9).1) (nI 0).toNatClampNeg (nI k) = fun z9 => nI (va_up v 0 (k, ck, lb) z9).1 from by rw [nI_clamp (by omega)]; exact up_k v 0 (k, ck, lb)] at hP hD
        have hP : va_P (dC, dI) clS [(h0, .inr (0, [.ref a0, .ref a1, .int (nI tn), .ref a2, .ref a3, .ref a4, .int (nI wn), .long g, .int (nI ko), .int (nI mw)])), (a0, .inl (ca 0, 512, .inl (fun z9 => nI (t z9).1))), (a1, .inl (ca 1, 512, .inl (fun z9 => (t z9).2))), (a2, .inl (ca 2, 65, .inl (fun z9 => nI (va_up v 0 (k, ck, lb) z9).1))), (a3, .inl (ca 3, 65, .inr (.inl (fun z9 => (v z9).2.1)))), (a4, .inl (ca 4, 65, .inl (fun z9 => (v z9).2.2)))] H := hP
        have hD : va_D A [(h0, .inr (0, [.ref a0, .ref a1, .int (nI tn), .ref a2, .ref a3, .ref a4, .int (nI wn), .long g, .int (nI ko), .int (nI mw)])), (a0, .inl (ca 0, 512, .inl (fun z9 => nI (t z9).1))), (a1, .inl (ca 1, 512, .inl (fun z9 => (t z9).2))), (a2, .inl (ca 2, 65, .inl (fun z9 => nI (va_up v 0 (k, ck, lb) z9).1))), (a3, .inl (ca 3, 65, .inr (.inl (fun z9 => (v z9).2.1)))), (a4, .inl (ca 4, 65, .inl (fun z9 => (v z9).2.2)))] := hD
        refine lv_aload_n hx hb dX0_insertWaiting_48 rfl (lv_at hl 0 rfl) ?_
        refine va_get (D := (dC, dI)) (ci := 0) (v := .ref a3) (C := RX0) (T := TX0) (N := 10) hx hb hts in_X0_insertWaiting_X0 hown hK hP 0 rfl rfl 4 (by decide) (hts (.fieldLink RX0 19 "CausalGate" "waitClocks" "[J") (by decide +kernel)) (fun _ h9 => h9) rfl dX0_insertWaiting_49 ?_
        refine lv_iload hx hb dX0_insertWaiting_52 (lv_at hl 4 rfl) ?_
        refine lv_lload_n hx hb dX0_insertWaiting_54 rfl (lv_at hl 2 rfl) ?_
        refine va_last hx hb hK hP hD hS 4 3 rfl rfl (vp_in_nI (by omega) (by decide)) dX0_insertWaiting_55 (fun H locs hP hD hS => ?_)
        rw [show vp_updL (fun z9 => (v z9).2.1) (nI 0).toNatClampNeg ck = fun z9 => (va_up v 0 (k, ck, lb) z9).2.1 from by rw [nI_clamp (by omega)]; exact up_c v 0 (k, ck, lb)] at hP hD
        have hP : va_P (dC, dI) clS [(h0, .inr (0, [.ref a0, .ref a1, .int (nI tn), .ref a2, .ref a3, .ref a4, .int (nI wn), .long g, .int (nI ko), .int (nI mw)])), (a0, .inl (ca 0, 512, .inl (fun z9 => nI (t z9).1))), (a1, .inl (ca 1, 512, .inl (fun z9 => (t z9).2))), (a2, .inl (ca 2, 65, .inl (fun z9 => nI (va_up v 0 (k, ck, lb) z9).1))), (a3, .inl (ca 3, 65, .inr (.inl (fun z9 => (va_up v 0 (k, ck, lb) z9).2.1)))), (a4, .inl (ca 4, 65, .inl (fun z9 => (v z9).2.2)))] H := hP
        have hD : va_D A [(h0, .inr (0, [.ref a0, .ref a1, .int (nI tn), .ref a2, .ref a3, .ref a4, .int (nI wn), .long g, .int (nI ko), .int (nI mw)])), (a0, .inl (ca 0, 512, .inl (fun z9 => nI (t z9).1))), (a1, .inl (ca 1, 512, .inl (fun z9 => (t z9).2))), (a2, .inl (ca 2, 65, .inl (fun z9 => nI (va_up v 0 (k, ck, lb) z9).1))), (a3, .inl (ca 3, 65, .inr (.inl (fun z9 => (va_up v 0 (k, ck, lb) z9).2.1)))), (a4, .inl (ca 4, 65, .inl (fun z9 => (v z9).2.2)))] := hD
        refine lv_aload_n hx hb dX0_insertWaiting_56 rfl (lv_at hl 0 rfl) ?_
        refine va_get (D := (dC, dI)) (ci := 0) (v := .ref a4) (C := RX0) (T := TX0) (N := 10) hx hb hts in_X0_insertWaiting_X0 hown hK hP 0 rfl rfl 5 (by decide) (hts (.fieldLink RX0 23 "CausalGate" "waitLabels" "[I") (by decide +kernel)) (fun _ h9 => h9) rfl dX0_insertWaiting_57 ?_
        refine lv_iload hx hb dX0_insertWaiting_60 (lv_at hl 4 rfl) ?_
        refine lv_iload hx hb dX0_insertWaiting_62 (lv_at hl 3 rfl) ?_
        refine va_iast hx hb hK hP hD hS 5 4 rfl rfl (vp_in_nI (by omega) (by decide)) dX0_insertWaiting_64 (fun H locs hP hD hS => ?_)
        rw [show upd (fun z9 => (v z9).2.2) (nI 0).toNatClampNeg lb = fun z9 => (va_up v 0 (k, ck, lb) z9).2.2 from by rw [nI_clamp (by omega)]; exact up_l v 0 (k, ck, lb)] at hP hD
        have hP : va_P (dC, dI) clS [(h0, .inr (0, [.ref a0, .ref a1, .int (nI tn), .ref a2, .ref a3, .ref a4, .int (nI wn), .long g, .int (nI ko), .int (nI mw)])), (a0, .inl (ca 0, 512, .inl (fun z9 => nI (t z9).1))), (a1, .inl (ca 1, 512, .inl (fun z9 => (t z9).2))), (a2, .inl (ca 2, 65, .inl (fun z9 => nI (va_up v 0 (k, ck, lb) z9).1))), (a3, .inl (ca 3, 65, .inr (.inl (fun z9 => (va_up v 0 (k, ck, lb) z9).2.1)))), (a4, .inl (ca 4, 65, .inl (fun z9 => (va_up v 0 (k, ck, lb) z9).2.2)))] H := hP
        have hD : va_D A [(h0, .inr (0, [.ref a0, .ref a1, .int (nI tn), .ref a2, .ref a3, .ref a4, .int (nI wn), .long g, .int (nI ko), .int (nI mw)])), (a0, .inl (ca 0, 512, .inl (fun z9 => nI (t z9).1))), (a1, .inl (ca 1, 512, .inl (fun z9 => (t z9).2))), (a2, .inl (ca 2, 65, .inl (fun z9 => nI (va_up v 0 (k, ck, lb) z9).1))), (a3, .inl (ca 3, 65, .inr (.inl (fun z9 => (va_up v 0 (k, ck, lb) z9).2.1)))), (a4, .inl (ca 4, 65, .inl (fun z9 => (va_up v 0 (k, ck, lb) z9).2.2)))] := hD
        refine lv_aload_n hx hb dX0_insertWaiting_65 rfl (lv_at hl 0 rfl) ?_
        refine lv_dup hx hb dX0_insertWaiting_66 rfl ?_
        refine va_get (D := (dC, dI)) (ci := 0) (v := .int (nI wn)) (C := RX0) (T := TX0) (N := 10) hx hb hts in_X0_insertWaiting_X0 hown hK hP 0 rfl rfl 6 (by decide) (hts (.fieldLink RX0 30 "CausalGate" "waitCount" "I") (by decide +kernel)) (fun _ h9 => h9) rfl dX0_insertWaiting_67 ?_
        refine lv_iconst (v := 1) hx hb dX0_insertWaiting_70 (by decide) ?_
        refine lv_iadd hx hb dX0_insertWaiting_71 ?_
        refine tp_i (y := nI (wn + 1)) (nI_1 wn) ?_
        refine va_put (D := (dC, dI)) (ci := 0) (v := .int (nI (wn + 1))) (ty := .int) (C := RX0) (T := TX0) (N := 10) hx hb hts in_X0_insertWaiting_X0 tyX0 tyX0_ok nmX0 hown hK hP hD hS 0 rfl rfl 6 (by decide) (hts (.fieldLink RX0 30 "CausalGate" "waitCount" "I") (by decide +kernel)) (fun _ h9 => h9) rfl (by decide +kernel) rfl rfl (Nat.le_of_ble_eq_true rfl) dX0_insertWaiting_72 (fun H locs hP hD hS => ?_)
        have hP : va_P (dC, dI) clS [(h0, .inr (0, [.ref a0, .ref a1, .int (nI tn), .ref a2, .ref a3, .ref a4, .int (nI (wn + 1)), .long g, .int (nI ko), .int (nI mw)])), (a0, .inl (ca 0, 512, .inl (fun z9 => nI (t z9).1))), (a1, .inl (ca 1, 512, .inl (fun z9 => (t z9).2))), (a2, .inl (ca 2, 65, .inl (fun z9 => nI (va_up v 0 (k, ck, lb) z9).1))), (a3, .inl (ca 3, 65, .inr (.inl (fun z9 => (va_up v 0 (k, ck, lb) z9).2.1)))), (a4, .inl (ca 4, 65, .inl (fun z9 => (va_up v 0 (k, ck, lb) z9).2.2)))] H := hP
        have hD : va_D A [(h0, .inr (0, [.ref a0, .ref a1, .int (nI tn), .ref a2, .ref a3, .ref a4, .int (nI (wn + 1)), .long g, .int (nI ko), .int (nI mw)])), (a0, .inl (ca 0, 512, .inl (fun z9 => nI (t z9).1))), (a1, .inl (ca 1, 512, .inl (fun z9 => (t z9).2))), (a2, .inl (ca 2, 65, .inl (fun z9 => nI (va_up v 0 (k, ck, lb) z9).1))), (a3, .inl (ca 3, 65, .inr (.inl (fun z9 => (va_up v 0 (k, ck, lb) z9).2.1)))), (a4, .inl (ca 4, 65, .inl (fun z9 => (va_up v 0 (k, ck, lb) z9).2.2)))] := hD
        rw [hk8]
        exact mv_ret hx hb hr hlocks hAe hP hD hS dX0_insertWaiting_75
      · exact absurd (by decide) c_8
    | succ n ih =>
      intro v hn hv hk9 H locs hP hD hS ls hl
      refine lv_iload hx hb dX0_insertWaiting_6 (lv_at hl 4 rfl) ?_
      refine lv_if_le (tgt := 40) hx hb dX0_insertWaiting_8 (by decide) (fun c_8 => ?_) (fun c_8 => ?_)
      · exact absurd c_8 (nI_nle (by omega) (by omega))
      · refine lv_aload_n hx hb dX0_insertWaiting_11 rfl (lv_at hl 0 rfl) ?_
        refine va_get (D := (dC, dI)) (ci := 0) (v := .ref a2) (C := RX0) (T := TX0) (N := 10) hx hb hts in_X0_insertWaiting_X0 hown hK hP 0 rfl rfl 3 (by decide) (hts (.fieldLink RX0 16 "CausalGate" "waitKeys" "[I") (by decide +kernel)) (fun _ h9 => h9) rfl dX0_insertWaiting_12 ?_
        refine lv_iload hx hb dX0_insertWaiting_15 (lv_at hl 4 rfl) ?_
        refine lv_iconst (v := 1) hx hb dX0_insertWaiting_17 (by decide) ?_
        refine lv_isub hx hb dX0_insertWaiting_18 ?_
        refine tp_i (y := nI n) (nI_pred n) ?_
        refine va_iald hx hb hK hP 3 2 rfl rfl (vp_in_nI (by omega) (by decide)) dX0_insertWaiting_19 ?_
        refine tp_i (y := nI (v n).1) (by rw [nI_clamp (by omega)]) ?_
        have hvn := hv n (by omega)
        refine lv_iload_n hx hb dX0_insertWaiting_20 rfl (lv_at hl 1 rfl) ?_
        refine lv_icmp_le (tgt := 40) hx hb dX0_insertWaiting_21 (by decide) (fun c_21 => ?_) (fun c_21 => ?_)
        · have hk8 : inS k wn w = (v, n + 1) := by rw [← hk9]; simp only [inS]; rw [if_neg (Nat.not_lt.mpr ((nI_leI (by omega) (by omega)).mp c_21))]
          refine lv_aload_n hx hb dX0_insertWaiting_40 rfl (lv_at hl 0 rfl) ?_
          refine va_get (D := (dC, dI)) (ci := 0) (v := .ref a2) (C := RX0) (T := TX0) (N := 10) hx hb hts in_X0_insertWaiting_X0 hown hK hP 0 rfl rfl 3 (by decide) (hts (.fieldLink RX0 16 "CausalGate" "waitKeys" "[I") (by decide +kernel)) (fun _ h9 => h9) rfl dX0_insertWaiting_41 ?_
          refine lv_iload hx hb dX0_insertWaiting_44 (lv_at hl 4 rfl) ?_
          refine lv_iload_n hx hb dX0_insertWaiting_46 rfl (lv_at hl 1 rfl) ?_
          refine va_iast hx hb hK hP hD hS 3 2 rfl rfl (vp_in_nI (by omega) (by decide)) dX0_insertWaiting_47 (fun H locs hP hD hS => ?_)
          rw [show upd (fun z9 => nI (v z9).1) (nI (n + 1)).toNatClampNeg (nI k) = fun z9 => nI (va_up v (n + 1) (k, ck, lb) z9).1 from by rw [nI_clamp (by omega)]; exact up_k v (n + 1) (k, ck, lb)] at hP hD
          have hP : va_P (dC, dI) clS [(h0, .inr (0, [.ref a0, .ref a1, .int (nI tn), .ref a2, .ref a3, .ref a4, .int (nI wn), .long g, .int (nI ko), .int (nI mw)])), (a0, .inl (ca 0, 512, .inl (fun z9 => nI (t z9).1))), (a1, .inl (ca 1, 512, .inl (fun z9 => (t z9).2))), (a2, .inl (ca 2, 65, .inl (fun z9 => nI (va_up v (n + 1) (k, ck, lb) z9).1))), (a3, .inl (ca 3, 65, .inr (.inl (fun z9 => (v z9).2.1)))), (a4, .inl (ca 4, 65, .inl (fun z9 => (v z9).2.2)))] H := hP
          have hD : va_D A [(h0, .inr (0, [.ref a0, .ref a1, .int (nI tn), .ref a2, .ref a3, .ref a4, .int (nI wn), .long g, .int (nI ko), .int (nI mw)])), (a0, .inl (ca 0, 512, .inl (fun z9 => nI (t z9).1))), (a1, .inl (ca 1, 512, .inl (fun z9 => (t z9).2))), (a2, .inl (ca 2, 65, .inl (fun z9 => nI (va_up v (n + 1) (k, ck, lb) z9).1))), (a3, .inl (ca 3, 65, .inr (.inl (fun z9 => (v z9).2.1)))), (a4, .inl (ca 4, 65, .inl (fun z9 => (v z9).2.2)))] := hD
          refine lv_aload_n hx hb dX0_insertWaiting_48 rfl (lv_at hl 0 rfl) ?_
          refine va_get (D := (dC, dI)) (ci := 0) (v := .ref a3) (C := RX0) (T := TX0) (N := 10) hx hb hts in_X0_insertWaiting_X0 hown hK hP 0 rfl rfl 4 (by decide) (hts (.fieldLink RX0 19 "CausalGate" "waitClocks" "[J") (by decide +kernel)) (fun _ h9 => h9) rfl dX0_insertWaiting_49 ?_
          refine lv_iload hx hb dX0_insertWaiting_52 (lv_at hl 4 rfl) ?_
          refine lv_lload_n hx hb dX0_insertWaiting_54 rfl (lv_at hl 2 rfl) ?_
          refine va_last hx hb hK hP hD hS 4 3 rfl rfl (vp_in_nI (by omega) (by decide)) dX0_insertWaiting_55 (fun H locs hP hD hS => ?_)
          rw [show vp_updL (fun z9 => (v z9).2.1) (nI (n + 1)).toNatClampNeg ck = fun z9 => (va_up v (n + 1) (k, ck, lb) z9).2.1 from by rw [nI_clamp (by omega)]; exact up_c v (n + 1) (k, ck, lb)] at hP hD
          have hP : va_P (dC, dI) clS [(h0, .inr (0, [.ref a0, .ref a1, .int (nI tn), .ref a2, .ref a3, .ref a4, .int (nI wn), .long g, .int (nI ko), .int (nI mw)])), (a0, .inl (ca 0, 512, .inl (fun z9 => nI (t z9).1))), (a1, .inl (ca 1, 512, .inl (fun z9 => (t z9).2))), (a2, .inl (ca 2, 65, .inl (fun z9 => nI (va_up v (n + 1) (k, ck, lb) z9).1))), (a3, .inl (ca 3, 65, .inr (.inl (fun z9 => (va_up v (n + 1) (k, ck, lb) z9).2.1)))), (a4, .inl (ca 4, 65, .inl (fun z9 => (v z9).2.2)))] H := hP
          have hD : va_D A [(h0, .inr (0, [.ref a0, .ref a1, .int (nI tn), .ref a2, .ref a3, .ref a4, .int (nI wn), .long g, .int (nI ko), .int (nI mw)])), (a0, .inl (ca 0, 512, .inl (fun z9 => nI (t z9).1))), (a1, .inl (ca 1, 512, .inl (fun z9 => (t z9).2))), (a2, .inl (ca 2, 65, .inl (fun z9 => nI (va_up v (n + 1) (k, ck, lb) z9).1))), (a3, .inl (ca 3, 65, .inr (.inl (fun z9 => (va_up v (n + 1) (k, ck, lb) z9).2.1)))), (a4, .inl (ca 4, 65, .inl (fun z9 => (v z9).2.2)))] := hD
          refine lv_aload_n hx hb dX0_insertWaiting_56 rfl (lv_at hl 0 rfl) ?_
          refine va_get (D := (dC, dI)) (ci := 0) (v := .ref a4) (C := RX0) (T := TX0) (N := 10) hx hb hts in_X0_insertWaiting_X0 hown hK hP 0 rfl rfl 5 (by decide) (hts (.fieldLink RX0 23 "CausalGate" "waitLabels" "[I") (by decide +kernel)) (fun _ h9 => h9) rfl dX0_insertWaiting_57 ?_
          refine lv_iload hx hb dX0_insertWaiting_60 (lv_at hl 4 rfl) ?_
          refine lv_iload hx hb dX0_insertWaiting_62 (lv_at hl 3 rfl) ?_
          refine va_iast hx hb hK hP hD hS 5 4 rfl rfl (vp_in_nI (by omega) (by decide)) dX0_insertWaiting_64 (fun H locs hP hD hS => ?_)
          rw [show upd (fun z9 => (v z9).2.2) (nI (n + 1)).toNatClampNeg lb = fun z9 => (va_up v (n + 1) (k, ck, lb) z9).2.2 from by rw [nI_clamp (by omega)]; exact up_l v (n + 1) (k, ck, lb)] at hP hD
          have hP : va_P (dC, dI) clS [(h0, .inr (0, [.ref a0, .ref a1, .int (nI tn), .ref a2, .ref a3, .ref a4, .int (nI wn), .long g, .int (nI ko), .int (nI mw)])), (a0, .inl (ca 0, 512, .inl (fun z9 => nI (t z9).1))), (a1, .inl (ca 1, 512, .inl (fun z9 => (t z9).2))), (a2, .inl (ca 2, 65, .inl (fun z9 => nI (va_up v (n + 1) (k, ck, lb) z9).1))), (a3, .inl (ca 3, 65, .inr (.inl (fun z9 => (va_up v (n + 1) (k, ck, lb) z9).2.1)))), (a4, .inl (ca 4, 65, .inl (fun z9 => (va_up v (n + 1) (k, ck, lb) z9).2.2)))] H := hP
          have hD : va_D A [(h0, .inr (0, [.ref a0, .ref a1, .int (nI tn), .ref a2, .ref a3, .ref a4, .int (nI wn), .long g, .int (nI ko), .int (nI mw)])), (a0, .inl (ca 0, 512, .inl (fun z9 => nI (t z9).1))), (a1, .inl (ca 1, 512, .inl (fun z9 => (t z9).2))), (a2, .inl (ca 2, 65, .inl (fun z9 => nI (va_up v (n + 1) (k, ck, lb) z9).1))), (a3, .inl (ca 3, 65, .inr (.inl (fun z9 => (va_up v (n + 1) (k, ck, lb) z9).2.1)))), (a4, .inl (ca 4, 65, .inl (fun z9 => (va_up v (n + 1) (k, ck, lb) z9).2.2)))] := hD
          refine lv_aload_n hx hb dX0_insertWaiting_65 rfl (lv_at hl 0 rfl) ?_
          refine lv_dup hx hb dX0_insertWaiting_66 rfl ?_
          refine va_get (D := (dC, dI)) (ci := 0) (v := .int (nI wn)) (C := RX0) (T := TX0) (N := 10) hx hb hts in_X0_insertWaiting_X0 hown hK hP 0 rfl rfl 6 (by decide) (hts (.fieldLink RX0 30 "CausalGate" "waitCount" "I") (by decide +kernel)) (fun _ h9 => h9) rfl dX0_insertWaiting_67 ?_
          refine lv_iconst (v := 1) hx hb dX0_insertWaiting_70 (by decide) ?_
          refine lv_iadd hx hb dX0_insertWaiting_71 ?_
          refine tp_i (y := nI (wn + 1)) (nI_1 wn) ?_
          refine va_put (D := (dC, dI)) (ci := 0) (v := .int (nI (wn + 1))) (ty := .int) (C := RX0) (T := TX0) (N := 10) hx hb hts in_X0_insertWaiting_X0 tyX0 tyX0_ok nmX0 hown hK hP hD hS 0 rfl rfl 6 (by decide) (hts (.fieldLink RX0 30 "CausalGate" "waitCount" "I") (by decide +kernel)) (fun _ h9 => h9) rfl (by decide +kernel) rfl rfl (Nat.le_of_ble_eq_true rfl) dX0_insertWaiting_72 (fun H locs hP hD hS => ?_)
          have hP : va_P (dC, dI) clS [(h0, .inr (0, [.ref a0, .ref a1, .int (nI tn), .ref a2, .ref a3, .ref a4, .int (nI (wn + 1)), .long g, .int (nI ko), .int (nI mw)])), (a0, .inl (ca 0, 512, .inl (fun z9 => nI (t z9).1))), (a1, .inl (ca 1, 512, .inl (fun z9 => (t z9).2))), (a2, .inl (ca 2, 65, .inl (fun z9 => nI (va_up v (n + 1) (k, ck, lb) z9).1))), (a3, .inl (ca 3, 65, .inr (.inl (fun z9 => (va_up v (n + 1) (k, ck, lb) z9).2.1)))), (a4, .inl (ca 4, 65, .inl (fun z9 => (va_up v (n + 1) (k, ck, lb) z9).2.2)))] H := hP
          have hD : va_D A [(h0, .inr (0, [.ref a0, .ref a1, .int (nI tn), .ref a2, .ref a3, .ref a4, .int (nI (wn + 1)), .long g, .int (nI ko), .int (nI mw)])), (a0, .inl (ca 0, 512, .inl (fun z9 => nI (t z9).1))), (a1, .inl (ca 1, 512, .inl (fun z9 => (t z9).2))), (a2, .inl (ca 2, 65, .inl (fun z9 => nI (va_up v (n + 1) (k, ck, lb) z9).1))), (a3, .inl (ca 3, 65, .inr (.inl (fun z9 => (va_up v (n + 1) (k, ck, lb) z9).2.1)))), (a4, .inl (ca 4, 65, .inl (fun z9 => (va_up v (n + 1) (k, ck, lb) z9).2.2)))] := hD
          rw [hk8]
          exact mv_ret hx hb hr hlocks hAe hP hD hS dX0_insertWaiting_75
        · have c7 : k < (v n).1 := Nat.lt_of_not_le fun q => c_21 (nI_le q (by omega))
          refine lv_aload_n hx hb dX0_insertWaiting_24 rfl (lv_at hl 0 rfl) ?_
          refine lv_iload hx hb dX0_insertWaiting_25 (lv_at hl 4 rfl) ?_
          refine lv_iconst (v := 1) hx hb dX0_insertWaiting_27 (by decide) ?_
          refine lv_isub hx hb dX0_insertWaiting_28 ?_
          refine tp_i (y := nI n) (nI_pred n) ?_
          refine lv_iload hx hb dX0_insertWaiting_29 (lv_at hl 4 rfl) ?_
          refine mt_v (wc := [(h0, .inr (0, [.ref a0, .ref a1, .int (nI tn), .ref a2, .ref a3, .ref a4, .int (nI wn), .long g, .int (nI ko), .int (nI mw)])), (a0, .inl (ca 0, 512, .inl (fun z9 => nI (t z9).1))), (a1, .inl (ca 1, 512, .inl (fun z9 => (t z9).2))), (a2, .inl (ca 2, 65, .inl (fun z9 => nI (v z9).1))), (a3, .inl (ca 3, 65, .inr (.inl (fun z9 => (v z9).2.1)))), (a4, .inl (ca 4, 65, .inl (fun z9 => (v z9).2.2)))]) (wr := []) (w1 := [(h0, .inr (0, [.ref a0, .ref a1, .int (nI tn), .ref a2, .ref a3, .ref a4, .int (nI wn), .long g, .int (nI ko), .int (nI mw)])), (a0, .inl (ca 0, 512, .inl (fun z9 => nI (t z9).1))), (a1, .inl (ca 1, 512, .inl (fun z9 => (t z9).2))), (a2, .inl (ca 2, 65, .inl (fun z9 => nI ((va_up v (n + 1) (v n)) z9).1))), (a3, .inl (ca 3, 65, .inr (.inl (fun z9 => ((va_up v (n + 1) (v n)) z9).2.1)))), (a4, .inl (ca 4, 65, .inl (fun z9 => ((va_up v (n + 1) (v n)) z9).2.2)))]) [0, 1, 2, 3, 4, 5] [] hP hD hS hA rfl rfl (by decide) (by decide) (va_runV (mc := 0) (ms := 0) (As := [.int (nI n), .int (nI (n + 1))]) (rest := []) ⟨hx, hb, hml, hown, hts⟩ (k_moveWaiting l dC dI ca h0 a0 a1 a2 a3 a4 t tn v wn g ko mw _ n (n + 1) (by omega) (by omega)) (cwV 2 hts gX0_insertWaiting_X0_moveWaiting rfl rfl rfl (by decide +kernel) ⟨Nat.le_of_ble_eq_true rfl, Nat.le_of_ble_eq_true rfl⟩) (pm_V (ci := 0) (q0 := 0) hK (hP.sub (ws' := [(h0, .inr (0, [.ref a0, .ref a1, .int (nI tn), .ref a2, .ref a3, .ref a4, .int (nI wn), .long g, .int (nI ko), .int (nI mw)])), (a0, .inl (ca 0, 512, .inl (fun z9 => nI (t z9).1))), (a1, .inl (ca 1, 512, .inl (fun z9 => (t z9).2))), (a2, .inl (ca 2, 65, .inl (fun z9 => nI (v z9).1))), (a3, .inl (ca 3, 65, .inr (.inl (fun z9 => (v z9).2.1)))), (a4, .inl (ca 4, 65, .inl (fun z9 => (v z9).2.2)))]) [0, 1, 2, 3, 4, 5] rfl) (hD.sub (ws' := [(h0, .inr (0, [.ref a0, .ref a1, .int (nI tn), .ref a2, .ref a3, .ref a4, .int (nI wn), .long g, .int (nI ko), .int (nI mw)])), (a0, .inl (ca 0, 512, .inl (fun z9 => nI (t z9).1))), (a1, .inl (ca 1, 512, .inl (fun z9 => (t z9).2))), (a2, .inl (ca 2, 65, .inl (fun z9 => nI (v z9).1))), (a3, .inl (ca 3, 65, .inr (.inl (fun z9 => (v z9).2.1)))), (a4, .inl (ca 4, 65, .inl (fun z9 => (v z9).2.2)))]) [0, 1, 2, 3, 4, 5] (by decide) rfl) rfl rfl) rfl rfl hl.1 rfl (lv_room (Nat.le_of_ble_eq_true rfl)) dX0_insertWaiting_31 ⟨Nat.zero_le _, Nat.zero_le _⟩) (fun H locs hP hD hS => ?_)
          have hP : va_P (dC, dI) clS [(h0, .inr (0, [.ref a0, .ref a1, .int (nI tn), .ref a2, .ref a3, .ref a4, .int (nI wn), .long g, .int (nI ko), .int (nI mw)])), (a0, .inl (ca 0, 512, .inl (fun z9 => nI (t z9).1))), (a1, .inl (ca 1, 512, .inl (fun z9 => (t z9).2))), (a2, .inl (ca 2, 65, .inl (fun z9 => nI ((va_up v (n + 1) (v n)) z9).1))), (a3, .inl (ca 3, 65, .inr (.inl (fun z9 => ((va_up v (n + 1) (v n)) z9).2.1)))), (a4, .inl (ca 4, 65, .inl (fun z9 => ((va_up v (n + 1) (v n)) z9).2.2)))] H := hP
          have hD : va_D A [(h0, .inr (0, [.ref a0, .ref a1, .int (nI tn), .ref a2, .ref a3, .ref a4, .int (nI wn), .long g, .int (nI ko), .int (nI mw)])), (a0, .inl (ca 0, 512, .inl (fun z9 => nI (t z9).1))), (a1, .inl (ca 1, 512, .inl (fun z9 => (t z9).2))), (a2, .inl (ca 2, 65, .inl (fun z9 => nI ((va_up v (n + 1) (v n)) z9).1))), (a3, .inl (ca 3, 65, .inr (.inl (fun z9 => ((va_up v (n + 1) (v n)) z9).2.1)))), (a4, .inl (ca 4, 65, .inl (fun z9 => ((va_up v (n + 1) (v n)) z9).2.2)))] := hD
          refine lv_iinc (v := (nI n)) (lv' := [(5, .int (nI n)), (0, .ref h0), (1, .int (nI k)), (2, .long ck), (4, .int lb)]) hx hb dX0_insertWaiting_34 hl (k := 4) rfl (pk_m1 n) (by decide) rfl (fun ls hl => ?_)
          refine lv_goto (tgt := 6) hx hb dX0_insertWaiting_37 (by decide) ?_
          exact ih (va_up v (n + 1) (v n)) (by omega) (fun j hj => by rw [va_up_ne _ _ (by omega)]; exact hv j (by omega)) (by rw [← hk9]; simp only [inS]; rw [if_pos c7]) _ _ hP hD hS ls (lv_sub hl [1, 2, 3, 4, 0] rfl)
  exact loop wn w (Nat.le_refl _) hw rfl _ _ hP hD hS ls (lv_sub hl [1, 2, 3, 4, 0] rfl)

set_option maxRecDepth 20000 in
theorem in_X0_letThrough_X0 : ∀ w ∈ wsX00, w ∈ wsX0_letThrough := by decide +kernel

set_option maxHeartbeats 4000000 in
set_option maxRecDepth 100000 in
theorem k_letThrough (l : Launch) (dC : Nat → ClassId) (dI : Nat → Nat → Nat) (ca : Nat → ClassId) (h0 a0 a1 a2 a3 a4 : Nat) (t : TF) (tn : Nat) (w : WF) (wn : Nat) (g : Int64) (ko mw : Nat) (sz : Nat) (q : Nat) (hq : q < wn) (hwn : wn ≤ 65) (hw : ∀ j, j < wn → (w j).1 < 2048) (htn : tn < 512) : Met l yX0_letThrough wsX0_letThrough ({ frames := 2, cells := 0, slots := 0, locals := 44 }) (Pm [.ref h0, .int (nI q)] (dC, dI) clS [(ca 0, .int), (ca 1, .int), (ca 2, .int), (ca 3, .long), (ca 4, .int)] [(h0, .inr (0, [.ref a0, .ref a1, .int (nI tn), .ref a2, .ref a3, .ref a4, .int (nI wn), .long g, .int (nI ko), .int (nI mw)])), (a0, .inl (ca 0, 512, .inl (fun z9 => nI (t z9).1))), (a1, .inl (ca 1, 512, .inl (fun z9 => (t z9).2))), (a2, .inl (ca 2, 65, .inl (fun z9 => nI (w z9).1))), (a3, .inl (ca 3, 65, .inr (.inl (fun z9 => (w z9).2.1)))), (a4, .inl (ca 4, 65, .inl (fun z9 => (w z9).2.2)))] sz) (QmV (dC, dI) clS [(h0, .inr (0, [.ref a0, .ref a1, .int (nI tn), .ref a2, .ref a3, .ref a4, .int (nI wn), .long g, .int (nI ko), .int (nI mw)])), (a0, .inl (ca 0, 512, .inl (fun z9 => nI (t z9).1))), (a1, .inl (ca 1, 512, .inl (fun z9 => (t z9).2))), (a2, .inl (ca 2, 65, .inl (fun z9 => nI (w z9).1))), (a3, .inl (ca 3, 65, .inr (.inl (fun z9 => (w z9).2.1)))), (a4, .inl (ca 4, 65, .inl (fun z9 => (w z9).2.2)))] [(h0, .inr (0, [.ref a0, .ref a1, .int (nI (tn + 1)), .ref a2, .ref a3, .ref a4, .int (nI (wn - 1)), .long (ltG g (w q).1), .int (nI ko), .int (nI mw)])), (a0, .inl (ca 0, 512, .inl (fun z9 => nI ((va_up t tn ((w q).1, (w q).2.2)) z9).1))), (a1, .inl (ca 1, 512, .inl (fun z9 => ((va_up t tn ((w q).1, (w q).2.2)) z9).2))), (a2, .inl (ca 2, 65, .inl (fun z9 => nI ((rmS (wn - (q + 1)) (q + 1) w) z9).1))), (a3, .inl (ca 3, 65, .inr (.inl (fun z9 => ((rmS (wn - (q + 1)) (q + 1) w) z9).2.1)))), (a4, .inl (ca 4, 65, .inl (fun z9 => ((rmS (wn - (q + 1)) (q + 1) w) z9).2.2)))] sz) 0 0 (va_A [(h0, .inr (0, [.ref a0, .ref a1, .int (nI tn), .ref a2, .ref a3, .ref a4, .int (nI wn), .long g, .int (nI ko), .int (nI mw)])), (a0, .inl (ca 0, 512, .inl (fun z9 => nI (t z9).1))), (a1, .inl (ca 1, 512, .inl (fun z9 => (t z9).2))), (a2, .inl (ca 2, 65, .inl (fun z9 => nI (w z9).1))), (a3, .inl (ca 3, 65, .inr (.inl (fun z9 => (w z9).2.1)))), (a4, .inl (ca 4, 65, .inl (fun z9 => (w z9).2.2)))] sz) := by
  refine Met.ofW (cc := cX0_letThrough) (maxL := 2) (ret := none) (by decide) rfl ?_
  intro p e s m args below meth c s₁ B hml hv
  obtain ⟨hargs, hsz, hP, hK, hD0⟩ := hv
  have hx := B.exec
  have hb := B.bytes
  have hr := B.returns
  have hts := atoms_spec (ws := wsX0_letThrough) B.pre
  have hown : s.vm.findClass RX0 = some m.cls := findClass_of_methodNamed B.named
  have hlocks := B.notSynchronized
  subst hsz
  have hD := hD0.self (sz := s.heap.size)
  obtain ⟨A, hAe⟩ : ∃ A, A = va_A [(h0, .inr (0, [.ref a0, .ref a1, .int (nI tn), .ref a2, .ref a3, .ref a4, .int (nI wn), .long g, .int (nI ko), .int (nI mw)])), (a0, .inl (ca 0, 512, .inl (fun z9 => nI (t z9).1))), (a1, .inl (ca 1, 512, .inl (fun z9 => (t z9).2))), (a2, .inl (ca 2, 65, .inl (fun z9 => nI (w z9).1))), (a3, .inl (ca 3, 65, .inr (.inl (fun z9 => (w z9).2.1)))), (a4, .inl (ca 4, 65, .inl (fun z9 => (w z9).2.2)))] s.heap.size := ⟨_, rfl⟩
  rw [← hAe] at hD ⊢
  have hA : ∀ q : Nat, s.heap.size ≤ q → A q := fun q h => by rw [hAe]; exact Or.inr h
  have hS : va_S A s.heap s.heap [] := va_S.rf
  have hP : va_P (dC, dI) clS [(h0, .inr (0, [.ref a0, .ref a1, .int (nI tn), .ref a2, .ref a3, .ref a4, .int (nI wn), .long g, .int (nI ko), .int (nI mw)])), (a0, .inl (ca 0, 512, .inl (fun z9 => nI (t z9).1))), (a1, .inl (ca 1, 512, .inl (fun z9 => (t z9).2))), (a2, .inl (ca 2, 65, .inl (fun z9 => nI (w z9).1))), (a3, .inl (ca 3, 65, .inr (.inl (fun z9 => (w z9).2.1)))), (a4, .inl (ca 4, 65, .inl (fun z9 => (w z9).2.2)))] s.heap := hP
  have hl := lv_entry ([.ref h0, .int (nI q)]) (n := 2) (Nat.le_of_ble_eq_true rfl)
  have hE : entryFrame m args 2 = F0 m 0 ((lg_sl ([.ref h0, .int (nI q)]) ++ List.replicate (2 - (lg_sl ([.ref h0, .int (nI q)])).length) Slot.unset).toArray) [] := by rw [hargs]; exact lg_entry_eq m ([.ref h0, .int (nI q)]) 2
  rw [hE]
  generalize (lg_sl ([.ref h0, .int (nI q)]) ++ List.replicate (2 - (lg_sl ([.ref h0, .int (nI q)])).length) Slot.unset).toArray = ls at hl ⊢
  have hl : lv_has ls 2 [(0, .ref h0), (1, .int (nI q))] := hl
  have hwq := hw q hq
  refine lv_aload_n hx hb dX0_letThrough_0 rfl (lv_at hl 0 rfl) ?_
  refine va_get (D := (dC, dI)) (ci := 0) (v := .ref a0) (C := RX0) (T := TX0) (N := 10) hx hb hts in_X0_letThrough_X0 hown hK hP 0 rfl rfl 0 (by decide) (hts (.fieldLink RX0 9 "CausalGate" "throughKeys" "[I") (by decide +kernel)) (fun _ h9 => h9) rfl dX0_letThrough_1 ?_
  refine lv_aload_n hx hb dX0_letThrough_4 rfl (lv_at hl 0 rfl) ?_
  refine va_get (D := (dC, dI)) (ci := 0) (v := .int (nI tn)) (C := RX0) (T := TX0) (N := 10) hx hb hts in_X0_letThrough_X0 hown hK hP 0 rfl rfl 2 (by decide) (hts (.fieldLink RX0 26 "CausalGate" "throughCount" "I") (by decide +kernel)) (fun _ h9 => h9) rfl dX0_letThrough_5 ?_
  refine lv_aload_n hx hb dX0_letThrough_8 rfl (lv_at hl 0 rfl) ?_
  refine va_get (D := (dC, dI)) (ci := 0) (v := .ref a2) (C := RX0) (T := TX0) (N := 10) hx hb hts in_X0_letThrough_X0 hown hK hP 0 rfl rfl 3 (by decide) (hts (.fieldLink RX0 16 "CausalGate" "waitKeys" "[I") (by decide +kernel)) (fun _ h9 => h9) rfl dX0_letThrough_9 ?_
  refine lv_iload_n hx hb dX0_letThrough_12 rfl (lv_at hl 1 rfl) ?_
  refine va_iald hx hb hK hP 3 2 rfl rfl (vp_in_nI (by omega) (by decide)) dX0_letThrough_13 ?_
  refine tp_i (y := nI (w q).1) (by rw [nI_clamp (by omega)]) ?_
  refine va_iast hx hb hK hP hD hS 1 0 rfl rfl (vp_in_nI (by omega) (by decide)) dX0_letThrough_14 (fun H locs hP hD hS => ?_)
  rw [show upd (fun z9 => nI (t z9).1) (nI tn).toNatClampNeg (nI (w q).1) = fun z9 => nI (va_up t tn ((w q).1, (w q).2.2) z9).1 from by rw [nI_clamp (by omega)]; exact ut_k t tn ((w q).1, (w q).2.2)] at hP hD
  have hP : va_P (dC, dI) clS [(h0, .inr (0, [.ref a0, .ref a1, .int (nI tn), .ref a2, .ref a3, .ref a4, .int (nI wn), .long g, .int (nI ko), .int (nI mw)])), (a0, .inl (ca 0, 512, .inl (fun z9 => nI (va_up t tn ((w q).1, (w q).2.2) z9).1))), (a1, .inl (ca 1, 512, .inl (fun z9 => (t z9).2))), (a2, .inl (ca 2, 65, .inl (fun z9 => nI (w z9).1))), (a3, .inl (ca 3, 65, .inr (.inl (fun z9 => (w z9).2.1)))), (a4, .inl (ca 4, 65, .inl (fun z9 => (w z9).2.2)))] H := hP
  have hD : va_D A [(h0, .inr (0, [.ref a0, .ref a1, .int (nI tn), .ref a2, .ref a3, .ref a4, .int (nI wn), .long g, .int (nI ko), .int (nI mw)])), (a0, .inl (ca 0, 512, .inl (fun z9 => nI (va_up t tn ((w q).1, (w q).2.2) z9).1))), (a1, .inl (ca 1, 512, .inl (fun z9 => (t z9).2))), (a2, .inl (ca 2, 65, .inl (fun z9 => nI (w z9).1))), (a3, .inl (ca 3, 65, .inr (.inl (fun z9 => (w z9).2.1)))), (a4, .inl (ca 4, 65, .inl (fun z9 => (w z9).2.2)))] := hD
  refine lv_aload_n hx hb dX0_letThrough_15 rfl (lv_at hl 0 rfl) ?_
  refine va_get (D := (dC, dI)) (ci := 0) (v := .ref a1) (C := RX0) (T := TX0) (N := 10) hx hb hts in_X0_letThrough_X0 hown hK hP 0 rfl rfl 1 (by decide) (hts (.fieldLink RX0 13 "CausalGate" "throughLabels" "[I") (by decide +kernel)) (fun _ h9 => h9) rfl dX0_letThrough_16 ?_
  refine lv_aload_n hx hb dX0_letThrough_19 rfl (lv_at hl 0 rfl) ?_
  refine va_get (D := (dC, dI)) (ci := 0) (v := .int (nI tn)) (C := RX0) (T := TX0) (N := 10) hx hb hts in_X0_letThrough_X0 hown hK hP 0 rfl rfl 2 (by decide) (hts (.fieldLink RX0 26 "CausalGate" "throughCount" "I") (by decide +kernel)) (fun _ h9 => h9) rfl dX0_letThrough_20 ?_
  refine lv_aload_n hx hb dX0_letThrough_23 rfl (lv_at hl 0 rfl) ?_
  refine va_get (D := (dC, dI)) (ci := 0) (v := .ref a4) (C := RX0) (T := TX0) (N := 10) hx hb hts in_X0_letThrough_X0 hown hK hP 0 rfl rfl 5 (by decide) (hts (.fieldLink RX0 23 "CausalGate" "waitLabels" "[I") (by decide +kernel)) (fun _ h9 => h9) rfl dX0_letThrough_24 ?_
  refine lv_iload_n hx hb dX0_letThrough_27 rfl (lv_at hl 1 rfl) ?_
  refine va_iald hx hb hK hP 5 4 rfl rfl (vp_in_nI (by omega) (by decide)) dX0_letThrough_28 ?_
  refine tp_i (y := (w q).2.2) (by rw [nI_clamp (by omega)]) ?_
  refine va_iast hx hb hK hP hD hS 2 1 rfl rfl (vp_in_nI (by omega) (by decide)) dX0_letThrough_29 (fun H locs hP hD hS => ?_)
  rw [show upd (fun z9 => (t z9).2) (nI tn).toNatClampNeg ((w q).2.2) = fun z9 => (va_up t tn ((w q).1, (w q).2.2) z9).2 from by rw [nI_clamp (by omega)]; exact ut_l t tn ((w q).1, (w q).2.2)] at hP hD
  have hP : va_P (dC, dI) clS [(h0, .inr (0, [.ref a0, .ref a1, .int (nI tn), .ref a2, .ref a3, .ref a4, .int (nI wn), .long g, .int (nI ko), .int (nI mw)])), (a0, .inl (ca 0, 512, .inl (fun z9 => nI (va_up t tn ((w q).1, (w q).2.2) z9).1))), (a1, .inl (ca 1, 512, .inl (fun z9 => (va_up t tn ((w q).1, (w q).2.2) z9).2))), (a2, .inl (ca 2, 65, .inl (fun z9 => nI (w z9).1))), (a3, .inl (ca 3, 65, .inr (.inl (fun z9 => (w z9).2.1)))), (a4, .inl (ca 4, 65, .inl (fun z9 => (w z9).2.2)))] H := hP
  have hD : va_D A [(h0, .inr (0, [.ref a0, .ref a1, .int (nI tn), .ref a2, .ref a3, .ref a4, .int (nI wn), .long g, .int (nI ko), .int (nI mw)])), (a0, .inl (ca 0, 512, .inl (fun z9 => nI (va_up t tn ((w q).1, (w q).2.2) z9).1))), (a1, .inl (ca 1, 512, .inl (fun z9 => (va_up t tn ((w q).1, (w q).2.2) z9).2))), (a2, .inl (ca 2, 65, .inl (fun z9 => nI (w z9).1))), (a3, .inl (ca 3, 65, .inr (.inl (fun z9 => (w z9).2.1)))), (a4, .inl (ca 4, 65, .inl (fun z9 => (w z9).2.2)))] := hD
  refine lv_aload_n hx hb dX0_letThrough_30 rfl (lv_at hl 0 rfl) ?_
  refine lv_dup hx hb dX0_letThrough_31 rfl ?_
  refine va_get (D := (dC, dI)) (ci := 0) (v := .int (nI tn)) (C := RX0) (T := TX0) (N := 10) hx hb hts in_X0_letThrough_X0 hown hK hP 0 rfl rfl 2 (by decide) (hts (.fieldLink RX0 26 "CausalGate" "throughCount" "I") (by decide +kernel)) (fun _ h9 => h9) rfl dX0_letThrough_32 ?_
  refine lv_iconst (v := 1) hx hb dX0_letThrough_35 (by decide) ?_
  refine lv_iadd hx hb dX0_letThrough_36 ?_
  refine tp_i (y := nI (tn + 1)) (nI_1 tn) ?_
  refine va_put (D := (dC, dI)) (ci := 0) (v := .int (nI (tn + 1))) (ty := .int) (C := RX0) (T := TX0) (N := 10) hx hb hts in_X0_letThrough_X0 tyX0 tyX0_ok nmX0 hown hK hP hD hS 0 rfl rfl 2 (by decide) (hts (.fieldLink RX0 26 "CausalGate" "throughCount" "I") (by decide +kernel)) (fun _ h9 => h9) rfl (by decide +kernel) rfl rfl (Nat.le_of_ble_eq_true rfl) dX0_letThrough_37 (fun H locs hP hD hS => ?_)
  have hP : va_P (dC, dI) clS [(h0, .inr (0, [.ref a0, .ref a1, .int (nI (tn + 1)), .ref a2, .ref a3, .ref a4, .int (nI wn), .long g, .int (nI ko), .int (nI mw)])), (a0, .inl (ca 0, 512, .inl (fun z9 => nI (va_up t tn ((w q).1, (w q).2.2) z9).1))), (a1, .inl (ca 1, 512, .inl (fun z9 => (va_up t tn ((w q).1, (w q).2.2) z9).2))), (a2, .inl (ca 2, 65, .inl (fun z9 => nI (w z9).1))), (a3, .inl (ca 3, 65, .inr (.inl (fun z9 => (w z9).2.1)))), (a4, .inl (ca 4, 65, .inl (fun z9 => (w z9).2.2)))] H := hP
  have hD : va_D A [(h0, .inr (0, [.ref a0, .ref a1, .int (nI (tn + 1)), .ref a2, .ref a3, .ref a4, .int (nI wn), .long g, .int (nI ko), .int (nI mw)])), (a0, .inl (ca 0, 512, .inl (fun z9 => nI (va_up t tn ((w q).1, (w q).2.2) z9).1))), (a1, .inl (ca 1, 512, .inl (fun z9 => (va_up t tn ((w q).1, (w q).2.2) z9).2))), (a2, .inl (ca 2, 65, .inl (fun z9 => nI (w z9).1))), (a3, .inl (ca 3, 65, .inr (.inl (fun z9 => (w z9).2.1)))), (a4, .inl (ca 4, 65, .inl (fun z9 => (w z9).2.2)))] := hD
  refine lv_aload_n hx hb dX0_letThrough_40 rfl (lv_at hl 0 rfl) ?_
  refine lv_dup hx hb dX0_letThrough_41 rfl ?_
  refine va_get (D := (dC, dI)) (ci := 0) (v := .long g) (C := RX0) (T := TX0) (N := 10) hx hb hts in_X0_letThrough_X0 hown hK hP 0 rfl rfl 7 (by decide) (hts (.fieldLink RX0 33 "CausalGate" "gateClock" "J") (by decide +kernel)) (fun _ h9 => h9) rfl dX0_letThrough_42 ?_
  refine lv_lconst (v := 1) hx hb dX0_letThrough_45 (by decide) ?_
  refine lv_bipush (v := 8) hx hb dX0_letThrough_46 (by decide) ?_
  refine lv_aload_n hx hb dX0_letThrough_48 rfl (lv_at hl 0 rfl) ?_
  refine va_get (D := (dC, dI)) (ci := 0) (v := .ref a2) (C := RX0) (T := TX0) (N := 10) hx hb hts in_X0_letThrough_X0 hown hK hP 0 rfl rfl 3 (by decide) (hts (.fieldLink RX0 16 "CausalGate" "waitKeys" "[I") (by decide +kernel)) (fun _ h9 => h9) rfl dX0_letThrough_49 ?_
  refine lv_iload_n hx hb dX0_letThrough_52 rfl (lv_at hl 1 rfl) ?_
  refine va_iald hx hb hK hP 3 2 rfl rfl (vp_in_nI (by omega) (by decide)) dX0_letThrough_53 ?_
  refine tp_i (y := nI (w q).1) (by rw [nI_clamp (by omega)]) ?_
  refine rd_i (W.runS (As := [.int (nI (w q).1)]) (rest := [.int 8, .long 1, .long g, .ref h0]) ⟨hx, hb, hml, hown, hts⟩ (k_actorOf l ((w q).1) (by omega)) (va_cwS 1 hts gX0_letThrough_X0_actorOf rfl rfl rfl (by decide +kernel) ⟨Nat.le_of_ble_eq_true rfl, Nat.le_of_ble_eq_true rfl⟩) preEq rfl rfl hl.1 rfl (lv_room (Nat.le_of_ble_eq_true rfl)) dX0_letThrough_54 ⟨Nat.zero_le _, Nat.zero_le _⟩) ?_
  refine lv_imul hx hb dX0_letThrough_57 ?_
  refine tp_i (y := nI (8 * ((w q).1 / 256))) (pk_mul 8 _) ?_
  refine lv_lshl (v := lN (2 ^ (8 * ((w q).1 / 256)))) hx hb dX0_letThrough_58 (one_shl (by omega)) ?_
  refine lv_ladd hx hb dX0_letThrough_59 ?_
  refine tp_l (y := ltG g (w q).1) (rfl) ?_
  refine va_put (D := (dC, dI)) (ci := 0) (v := .long (ltG g (w q).1)) (ty := .long) (C := RX0) (T := TX0) (N := 10) hx hb hts in_X0_letThrough_X0 tyX0 tyX0_ok nmX0 hown hK hP hD hS 0 rfl rfl 7 (by decide) (hts (.fieldLink RX0 33 "CausalGate" "gateClock" "J") (by decide +kernel)) (fun _ h9 => h9) rfl (by decide +kernel) rfl rfl (Nat.le_of_ble_eq_true rfl) dX0_letThrough_60 (fun H locs hP hD hS => ?_)
  have hP : va_P (dC, dI) clS [(h0, .inr (0, [.ref a0, .ref a1, .int (nI (tn + 1)), .ref a2, .ref a3, .ref a4, .int (nI wn), .long (ltG g (w q).1), .int (nI ko), .int (nI mw)])), (a0, .inl (ca 0, 512, .inl (fun z9 => nI (va_up t tn ((w q).1, (w q).2.2) z9).1))), (a1, .inl (ca 1, 512, .inl (fun z9 => (va_up t tn ((w q).1, (w q).2.2) z9).2))), (a2, .inl (ca 2, 65, .inl (fun z9 => nI (w z9).1))), (a3, .inl (ca 3, 65, .inr (.inl (fun z9 => (w z9).2.1)))), (a4, .inl (ca 4, 65, .inl (fun z9 => (w z9).2.2)))] H := hP
  have hD : va_D A [(h0, .inr (0, [.ref a0, .ref a1, .int (nI (tn + 1)), .ref a2, .ref a3, .ref a4, .int (nI wn), .long (ltG g (w q).1), .int (nI ko), .int (nI mw)])), (a0, .inl (ca 0, 512, .inl (fun z9 => nI (va_up t tn ((w q).1, (w q).2.2) z9).1))), (a1, .inl (ca 1, 512, .inl (fun z9 => (va_up t tn ((w q).1, (w q).2.2) z9).2))), (a2, .inl (ca 2, 65, .inl (fun z9 => nI (w z9).1))), (a3, .inl (ca 3, 65, .inr (.inl (fun z9 => (w z9).2.1)))), (a4, .inl (ca 4, 65, .inl (fun z9 => (w z9).2.2)))] := hD
  refine lv_aload_n hx hb dX0_letThrough_63 rfl (lv_at hl 0 rfl) ?_
  refine lv_iload_n hx hb dX0_letThrough_64 rfl (lv_at hl 1 rfl) ?_
  refine mt_v (wc := [(h0, .inr (0, [.ref a0, .ref a1, .int (nI (tn + 1)), .ref a2, .ref a3, .ref a4, .int (nI wn), .long (ltG g (w q).1), .int (nI ko), .int (nI mw)])), (a0, .inl (ca 0, 512, .inl (fun z9 => nI (va_up t tn ((w q).1, (w q).2.2) z9).1))), (a1, .inl (ca 1, 512, .inl (fun z9 => (va_up t tn ((w q).1, (w q).2.2) z9).2))), (a2, .inl (ca 2, 65, .inl (fun z9 => nI (w z9).1))), (a3, .inl (ca 3, 65, .inr (.inl (fun z9 => (w z9).2.1)))), (a4, .inl (ca 4, 65, .inl (fun z9 => (w z9).2.2)))]) (wr := []) (w1 := [(h0, .inr (0, [.ref a0, .ref a1, .int (nI (tn + 1)), .ref a2, .ref a3, .ref a4, .int (nI (wn - 1)), .long (ltG g (w q).1), .int (nI ko), .int (nI mw)])), (a0, .inl (ca 0, 512, .inl (fun z9 => nI ((va_up t tn ((w q).1, (w q).2.2)) z9).1))), (a1, .inl (ca 1, 512, .inl (fun z9 => ((va_up t tn ((w q).1, (w q).2.2)) z9).2))), (a2, .inl (ca 2, 65, .inl (fun z9 => nI ((rmS (wn - (q + 1)) (q + 1) w) z9).1))), (a3, .inl (ca 3, 65, .inr (.inl (fun z9 => ((rmS (wn - (q + 1)) (q + 1) w) z9).2.1)))), (a4, .inl (ca 4, 65, .inl (fun z9 => ((rmS (wn - (q + 1)) (q + 1) w) z9).2.2)))]) [0, 1, 2, 3, 4, 5] [] hP hD hS hA rfl rfl (by decide) (by decide) (va_runV (mc := 0) (ms := 0) (As := [.int (nI q)]) (rest := []) ⟨hx, hb, hml, hown, hts⟩ (k_removeWaiting l dC dI ca h0 a0 a1 a2 a3 a4 (va_up t tn ((w q).1, (w q).2.2)) (tn + 1) w wn (ltG g (w q).1) ko mw _ q (by omega) (by omega)) (cwV 1 hts gX0_letThrough_X0_removeWaiting rfl rfl rfl (by decide +kernel) ⟨Nat.le_of_ble_eq_true rfl, Nat.le_of_ble_eq_true rfl⟩) (pm_V (ci := 0) (q0 := 0) hK (hP.sub (ws' := [(h0, .inr (0, [.ref a0, .ref a1, .int (nI (tn + 1)), .ref a2, .ref a3, .ref a4, .int (nI wn), .long (ltG g (w q).1), .int (nI ko), .int (nI mw)])), (a0, .inl (ca 0, 512, .inl (fun z9 => nI (va_up t tn ((w q).1, (w q).2.2) z9).1))), (a1, .inl (ca 1, 512, .inl (fun z9 => (va_up t tn ((w q).1, (w q).2.2) z9).2))), (a2, .inl (ca 2, 65, .inl (fun z9 => nI (w z9).1))), (a3, .inl (ca 3, 65, .inr (.inl (fun z9 => (w z9).2.1)))), (a4, .inl (ca 4, 65, .inl (fun z9 => (w z9).2.2)))]) [0, 1, 2, 3, 4, 5] rfl) (hD.sub (ws' := [(h0, .inr (0, [.ref a0, .ref a1, .int (nI (tn + 1)), .ref a2, .ref a3, .ref a4, .int (nI wn), .long (ltG g (w q).1), .int (nI ko), .int (nI mw)])), (a0, .inl (ca 0, 512, .inl (fun z9 => nI (va_up t tn ((w q).1, (w q).2.2) z9).1))), (a1, .inl (ca 1, 512, .inl (fun z9 => (va_up t tn ((w q).1, (w q).2.2) z9).2))), (a2, .inl (ca 2, 65, .inl (fun z9 => nI (w z9).1))), (a3, .inl (ca 3, 65, .inr (.inl (fun z9 => (w z9).2.1)))), (a4, .inl (ca 4, 65, .inl (fun z9 => (w z9).2.2)))]) [0, 1, 2, 3, 4, 5] (by decide) rfl) rfl rfl) rfl rfl hl.1 rfl (lv_room (Nat.le_of_ble_eq_true rfl)) dX0_letThrough_65 ⟨Nat.zero_le _, Nat.zero_le _⟩) (fun H locs hP hD hS => ?_)
  have hP : va_P (dC, dI) clS [(h0, .inr (0, [.ref a0, .ref a1, .int (nI (tn + 1)), .ref a2, .ref a3, .ref a4, .int (nI (wn - 1)), .long (ltG g (w q).1), .int (nI ko), .int (nI mw)])), (a0, .inl (ca 0, 512, .inl (fun z9 => nI ((va_up t tn ((w q).1, (w q).2.2)) z9).1))), (a1, .inl (ca 1, 512, .inl (fun z9 => ((va_up t tn ((w q).1, (w q).2.2)) z9).2))), (a2, .inl (ca 2, 65, .inl (fun z9 => nI ((rmS (wn - (q + 1)) (q + 1) w) z9).1))), (a3, .inl (ca 3, 65, .inr (.inl (fun z9 => ((rmS (wn - (q + 1)) (q + 1) w) z9).2.1)))), (a4, .inl (ca 4, 65, .inl (fun z9 => ((rmS (wn - (q + 1)) (q + 1) w) z9).2.2)))] H := hP
  have hD : va_D A [(h0, .inr (0, [.ref a0, .ref a1, .int (nI (tn + 1)), .ref a2, .ref a3, .ref a4, .int (nI (wn - 1)), .long (ltG g (w q).1), .int (nI ko), .int (nI mw)])), (a0, .inl (ca 0, 512, .inl (fun z9 => nI ((va_up t tn ((w q).1, (w q).2.2)) z9).1))), (a1, .inl (ca 1, 512, .inl (fun z9 => ((va_up t tn ((w q).1, (w q).2.2)) z9).2))), (a2, .inl (ca 2, 65, .inl (fun z9 => nI ((rmS (wn - (q + 1)) (q + 1) w) z9).1))), (a3, .inl (ca 3, 65, .inr (.inl (fun z9 => ((rmS (wn - (q + 1)) (q + 1) w) z9).2.1)))), (a4, .inl (ca 4, 65, .inl (fun z9 => ((rmS (wn - (q + 1)) (q + 1) w) z9).2.2)))] := hD
  exact mv_ret hx hb hr hlocks hAe hP hD hS dX0_letThrough_68

set_option maxRecDepth 20000 in
theorem in_X0_letThroughAllThatCan_X0 : ∀ w ∈ wsX00, w ∈ wsX0_letThroughAllThatCan := by decide +kernel

set_option maxHeartbeats 4000000 in
set_option maxRecDepth 100000 in
theorem k_letThroughAllThatCan (l : Launch) (dC : Nat → ClassId) (dI : Nat → Nat → Nat) (ca : Nat → ClassId) (h0 a0 a1 a2 a3 a4 : Nat) (t : TF) (tn : Nat) (w : WF) (wn : Nat) (g : Int64) (ko mw : Nat) (sz : Nat) (hwn : wn ≤ 65) (hw : ∀ j, j < wn → (w j).1 < 2048) (htn : tn ≤ 512) : Met l yX0_letThroughAllThatCan wsX0_letThroughAllThatCan ({ frames := 5, cells := 0, slots := 0, locals := 112 }) (Pm [.ref h0] (dC, dI) clS [(ca 0, .int), (ca 1, .int), (ca 2, .int), (ca 3, .long), (ca 4, .int)] [(h0, .inr (0, [.ref a0, .ref a1, .int (nI tn), .ref a2, .ref a3, .ref a4, .int (nI wn), .long g, .int (nI ko), .int (nI mw)])), (a0, .inl (ca 0, 512, .inl (fun z9 => nI (t z9).1))), (a1, .inl (ca 1, 512, .inl (fun z9 => (t z9).2))), (a2, .inl (ca 2, 65, .inl (fun z9 => nI (w z9).1))), (a3, .inl (ca 3, 65, .inr (.inl (fun z9 => (w z9).2.1)))), (a4, .inl (ca 4, 65, .inl (fun z9 => (w z9).2.2)))] sz) (QmI (nI (ltS 65 (t, tn, w, wn, g) 0).2) (dC, dI) clS [(h0, .inr (0, [.ref a0, .ref a1, .int (nI tn), .ref a2, .ref a3, .ref a4, .int (nI wn), .long g, .int (nI ko), .int (nI mw)])), (a0, .inl (ca 0, 512, .inl (fun z9 => nI (t z9).1))), (a1, .inl (ca 1, 512, .inl (fun z9 => (t z9).2))), (a2, .inl (ca 2, 65, .inl (fun z9 => nI (w z9).1))), (a3, .inl (ca 3, 65, .inr (.inl (fun z9 => (w z9).2.1)))), (a4, .inl (ca 4, 65, .inl (fun z9 => (w z9).2.2)))] [(h0, .inr (0, [.ref a0, .ref a1, .int (nI ((ltS 65 (t, tn, w, wn, g) 0).1.2.1)), .ref a2, .ref a3, .ref a4, .int (nI ((ltS 65 (t, tn, w, wn, g) 0).1.2.2.2.1)), .long ((ltS 65 (t, tn, w, wn, g) 0).1.2.2.2.2), .int (nI ko), .int (nI mw)])), (a0, .inl (ca 0, 512, .inl (fun z9 => nI (((ltS 65 (t, tn, w, wn, g) 0).1.1) z9).1))), (a1, .inl (ca 1, 512, .inl (fun z9 => (((ltS 65 (t, tn, w, wn, g) 0).1.1) z9).2))), (a2, .inl (ca 2, 65, .inl (fun z9 => nI (((ltS 65 (t, tn, w, wn, g) 0).1.2.2.1) z9).1))), (a3, .inl (ca 3, 65, .inr (.inl (fun z9 => (((ltS 65 (t, tn, w, wn, g) 0).1.2.2.1) z9).2.1)))), (a4, .inl (ca 4, 65, .inl (fun z9 => (((ltS 65 (t, tn, w, wn, g) 0).1.2.2.1) z9).2.2)))] sz) 0 0 (va_A [(h0, .inr (0, [.ref a0, .ref a1, .int (nI tn), .ref a2, .ref a3, .ref a4, .int (nI wn), .long g, .int (nI ko), .int (nI mw)])), (a0, .inl (ca 0, 512, .inl (fun z9 => nI (t z9).1))), (a1, .inl (ca 1, 512, .inl (fun z9 => (t z9).2))), (a2, .inl (ca 2, 65, .inl (fun z9 => nI (w z9).1))), (a3, .inl (ca 3, 65, .inr (.inl (fun z9 => (w z9).2.1)))), (a4, .inl (ca 4, 65, .inl (fun z9 => (w z9).2.2)))] sz) := by
  refine Met.ofW (cc := cX0_letThroughAllThatCan) (maxL := 3) (ret := (some .int)) (by decide) rfl ?_
  intro p e s m args below meth c s₁ B hml hv
  obtain ⟨hargs, hsz, hP, hK, hD0⟩ := hv
  have hx := B.exec
  have hb := B.bytes
  have hr := B.returns
  have hts := atoms_spec (ws := wsX0_letThroughAllThatCan) B.pre
  have hown : s.vm.findClass RX0 = some m.cls := findClass_of_methodNamed B.named
  have hlocks := B.notSynchronized
  subst hsz
  have hD := hD0.self (sz := s.heap.size)
  obtain ⟨A, hAe⟩ : ∃ A, A = va_A [(h0, .inr (0, [.ref a0, .ref a1, .int (nI tn), .ref a2, .ref a3, .ref a4, .int (nI wn), .long g, .int (nI ko), .int (nI mw)])), (a0, .inl (ca 0, 512, .inl (fun z9 => nI (t z9).1))), (a1, .inl (ca 1, 512, .inl (fun z9 => (t z9).2))), (a2, .inl (ca 2, 65, .inl (fun z9 => nI (w z9).1))), (a3, .inl (ca 3, 65, .inr (.inl (fun z9 => (w z9).2.1)))), (a4, .inl (ca 4, 65, .inl (fun z9 => (w z9).2.2)))] s.heap.size := ⟨_, rfl⟩
  rw [← hAe] at hD ⊢
  have hA : ∀ q : Nat, s.heap.size ≤ q → A q := fun q h => by rw [hAe]; exact Or.inr h
  have hS : va_S A s.heap s.heap [] := va_S.rf
  have hP : va_P (dC, dI) clS [(h0, .inr (0, [.ref a0, .ref a1, .int (nI tn), .ref a2, .ref a3, .ref a4, .int (nI wn), .long g, .int (nI ko), .int (nI mw)])), (a0, .inl (ca 0, 512, .inl (fun z9 => nI (t z9).1))), (a1, .inl (ca 1, 512, .inl (fun z9 => (t z9).2))), (a2, .inl (ca 2, 65, .inl (fun z9 => nI (w z9).1))), (a3, .inl (ca 3, 65, .inr (.inl (fun z9 => (w z9).2.1)))), (a4, .inl (ca 4, 65, .inl (fun z9 => (w z9).2.2)))] s.heap := hP
  have hl := lv_entry ([.ref h0]) (n := 3) (Nat.le_of_ble_eq_true rfl)
  have hE : entryFrame m args 3 = F0 m 0 ((lg_sl ([.ref h0]) ++ List.replicate (3 - (lg_sl ([.ref h0])).length) Slot.unset).toArray) [] := by rw [hargs]; exact lg_entry_eq m ([.ref h0]) 3
  rw [hE]
  generalize (lg_sl ([.ref h0]) ++ List.replicate (3 - (lg_sl ([.ref h0])).length) Slot.unset).toArray = ls at hl ⊢
  have hl : lv_has ls 3 [(0, .ref h0)] := hl
  refine lv_iconst (v := 0) hx hb dX0_letThroughAllThatCan_0 (by decide) ?_
  refine tp_i (y := nI 0) (nI_0.symm) ?_
  refine lv_istore_n (lv' := [(1, .int (nI 0)), (0, .ref h0)]) hx hb dX0_letThroughAllThatCan_1 rfl hl (by decide) rfl (fun ls hl => ?_)
  have loop : ∀ (n : Nat) (x : Nat) (t1 : TF) (tn1 : Nat) (w1 : WF) (wn1 : Nat) (g1 : Int64), x + n = 65 → wn1 ≤ 65 → tn1 ≤ 512 → (∀ j, j < wn1 → (w1 j).1 < 2048) → ltS n (t1, tn1, w1, wn1, g1) x = ltS 65 (t, tn, w, wn, g) 0 → ∀ (H : Heap) (locs : List Loc), va_P (dC, dI) clS [(h0, .inr (0, [.ref a0, .ref a1, .int (nI tn1), .ref a2, .ref a3, .ref a4, .int (nI wn1), .long g1, .int (nI ko), .int (nI mw)])), (a0, .inl (ca 0, 512, .inl (fun z9 => nI (t1 z9).1))), (a1, .inl (ca 1, 512, .inl (fun z9 => (t1 z9).2))), (a2, .inl (ca 2, 65, .inl (fun z9 => nI (w1 z9).1))), (a3, .inl (ca 3, 65, .inr (.inl (fun z9 => (w1 z9).2.1)))), (a4, .inl (ca 4, 65, .inl (fun z9 => (w1 z9).2.2)))] H → va_D A [(h0, .inr (0, [.ref a0, .ref a1, .int (nI tn1), .ref a2, .ref a3, .ref a4, .int (nI wn1), .long g1, .int (nI ko), .int (nI mw)])), (a0, .inl (ca 0, 512, .inl (fun z9 => nI (t1 z9).1))), (a1, .inl (ca 1, 512, .inl (fun z9 => (t1 z9).2))), (a2, .inl (ca 2, 65, .inl (fun z9 => nI (w1 z9).1))), (a3, .inl (ca 3, 65, .inr (.inl (fun z9 => (w1 z9).2.1)))), (a4, .inl (ca 4, 65, .inl (fun z9 => (w1 z9).2.2)))] → va_S A s.heap H locs → ∀ ls : Array Slot, lv_has ls 3 [(0, .ref h0), (1, .int (nI x))] → W p l e (headSpec wsX0_letThroughAllThatCan ({ frames := 5, cells := 0, slots := 0, locals := 112 })).room s m args below meth c H locs 0 0 (MQ below (QmI (nI (ltS 65 (t, tn, w, wn, g) 0).2) (dC, dI) clS [(h0, .inr (0, [.ref a0, .ref a1, .int (nI tn), .ref a2, .ref a3, .ref a4, .int (nI wn), .long g, .int (nI ko), .int (nI mw)])), (a0, .inl (ca 0, 512, .inl (fun z9 => nI (t z9).1))), (a1, .inl (ca 1, 512, .inl (fun z9 => (t z9).2))), (a2, .inl (ca 2, 65, .inl (fun z9 => nI (w z9).1))), (a3, .inl (ca 3, 65, .inr (.inl (fun z9 => (w z9).2.1)))), (a4, .inl (ca 4, 65, .inl (fun z9 => (w z9).2.2)))] [(h0, .inr (0, [.ref a0, .ref a1, .int (nI ((ltS 65 (t, tn, w, wn, g) 0).1.2.1)), .ref a2, .ref a3, .ref a4, .int (nI ((ltS 65 (t, tn, w, wn, g) 0).1.2.2.2.1)), .long ((ltS 65 (t, tn, w, wn, g) 0).1.2.2.2.2), .int (nI ko), .int (nI mw)])), (a0, .inl (ca 0, 512, .inl (fun z9 => nI (((ltS 65 (t, tn, w, wn, g) 0).1.1) z9).1))), (a1, .inl (ca 1, 512, .inl (fun z9 => (((ltS 65 (t, tn, w, wn, g) 0).1.1) z9).2))), (a2, .inl (ca 2, 65, .inl (fun z9 => nI (((ltS 65 (t, tn, w, wn, g) 0).1.2.2.1) z9).1))), (a3, .inl (ca 3, 65, .inr (.inl (fun z9 => (((ltS 65 (t, tn, w, wn, g) 0).1.2.2.1) z9).2.1)))), (a4, .inl (ca 4, 65, .inl (fun z9 => (((ltS 65 (t, tn, w, wn, g) 0).1.2.2.1) z9).2.2)))] s.heap.size) args s 0 0 A) (F0 m 2 ls []) := by
    intro n
    induction n with
    | zero =>
      intro x t1 tn1 w1 wn1 g1 hx9 hwn1 htn1 hw1 hk9 H locs hP hD hS ls hl
      refine lv_iload_n hx hb dX0_letThroughAllThatCan_2 rfl (lv_at hl 1 rfl) ?_
      refine lv_bipush (v := 65) hx hb dX0_letThroughAllThatCan_3 (by decide) ?_
      refine tp_i (y := nI 65) (rfl) ?_
      refine lv_icmp_ge (tgt := 31) hx hb dX0_letThroughAllThatCan_5 (by decide) (fun c_5 => ?_) (fun c_5 => ?_)
      · refine lv_iload_n hx hb dX0_letThroughAllThatCan_31 rfl (lv_at hl 1 rfl) ?_
        rw [← hk9]
        exact mi_ret hx hb hr hlocks (rfl) hAe hP hD hS dX0_letThroughAllThatCan_32
      · exact absurd (nI_le (by omega) (by omega)) c_5
    | succ n ih =>
      intro x t1 tn1 w1 wn1 g1 hx9 hwn1 htn1 hw1 hk9 H locs hP hD hS ls hl
      refine lv_iload_n hx hb dX0_letThroughAllThatCan_2 rfl (lv_at hl 1 rfl) ?_
      refine lv_bipush (v := 65) hx hb dX0_letThroughAllThatCan_3 (by decide) ?_
      refine tp_i (y := nI 65) (rfl) ?_
      refine lv_icmp_ge (tgt := 31) hx hb dX0_letThroughAllThatCan_5 (by decide) (fun c_5 => ?_) (fun c_5 => ?_)
      · exact absurd ((nI_leI (by omega) (by omega)).mp c_5) (by omega)
      · refine lv_aload_n hx hb dX0_letThroughAllThatCan_8 rfl (lv_at hl 0 rfl) ?_
        refine rd_i (W.runV (As := []) (rest := []) ⟨hx, hb, hml, hown, hts⟩ (k_firstThatCanComeThrough l dC dI ca h0 a0 a1 a2 a3 a4 t1 tn1 w1 wn1 g1 ko mw hwn1 hw1 htn1) (cwV 0 hts gX0_letThroughAllThatCan_X0_firstThatCanComeThrough rfl rfl rfl (by decide +kernel) ⟨Nat.le_of_ble_eq_true rfl, Nat.le_of_ble_eq_true rfl⟩) (pr_V (ci := 0) (q0 := 0) hK hP rfl rfl) rfl rfl hl.1 rfl (lv_room (Nat.le_of_ble_eq_true rfl)) dX0_letThroughAllThatCan_9 ⟨Nat.zero_le _, Nat.zero_le _⟩) ?_
        refine lv_istore_n (lv' := [(2, .int (oI (fs tn1 g1 w1 wn1 0))), (0, .ref h0), (1, .int (nI x))]) hx hb dX0_letThroughAllThatCan_12 rfl hl (by decide) rfl (fun ls hl => ?_)
        refine lv_iload_n hx hb dX0_letThroughAllThatCan_13 rfl (lv_at hl 0 rfl) ?_
        refine lv_iconst (v := -1) hx hb dX0_letThroughAllThatCan_14 (by decide) ?_
        refine lv_icmp_ne (tgt := 20) hx hb dX0_letThroughAllThatCan_15 (by decide) (fun c_15 => ?_) (fun c_15 => ?_)
        · obtain ⟨q, hq⟩ : ∃ q, fs tn1 g1 w1 wn1 0 = some q := by cases hq : fs tn1 g1 w1 wn1 0 with
            | none => exact absurd (by rw [hq]; rfl) c_15
            | some q => exact ⟨q, rfl⟩
          have hq1 := fs_lt hq
          have hq2 := fs_tn hq
          rw [hq] at hl
          have hl : lv_has ls 3 [(2, .int (nI q)), (0, .ref h0), (1, .int (nI x))] := hl
          refine lv_aload_n hx hb dX0_letThroughAllThatCan_20 rfl (lv_at hl 1 rfl) ?_
          refine lv_iload_n hx hb dX0_letThroughAllThatCan_21 rfl (lv_at hl 0 rfl) ?_
          refine mt_v (wc := [(h0, .inr (0, [.ref a0, .ref a1, .int (nI tn1), .ref a2, .ref a3, .ref a4, .int (nI wn1), .long g1, .int (nI ko), .int (nI mw)])), (a0, .inl (ca 0, 512, .inl (fun z9 => nI (t1 z9).1))), (a1, .inl (ca 1, 512, .inl (fun z9 => (t1 z9).2))), (a2, .inl (ca 2, 65, .inl (fun z9 => nI (w1 z9).1))), (a3, .inl (ca 3, 65, .inr (.inl (fun z9 => (w1 z9).2.1)))), (a4, .inl (ca 4, 65, .inl (fun z9 => (w1 z9).2.2)))]) (wr := []) (w1 := [(h0, .inr (0, [.ref a0, .ref a1, .int (nI (tn1 + 1)), .ref a2, .ref a3, .ref a4, .int (nI (wn1 - 1)), .long (ltG g1 (w1 q).1), .int (nI ko), .int (nI mw)])), (a0, .inl (ca 0, 512, .inl (fun z9 => nI ((va_up t1 tn1 ((w1 q).1, (w1 q).2.2)) z9).1))), (a1, .inl (ca 1, 512, .inl (fun z9 => ((va_up t1 tn1 ((w1 q).1, (w1 q).2.2)) z9).2))), (a2, .inl (ca 2, 65, .inl (fun z9 => nI ((rmS (wn1 - (q + 1)) (q + 1) w1) z9).1))), (a3, .inl (ca 3, 65, .inr (.inl (fun z9 => ((rmS (wn1 - (q + 1)) (q + 1) w1) z9).2.1)))), (a4, .inl (ca 4, 65, .inl (fun z9 => ((rmS (wn1 - (q + 1)) (q + 1) w1) z9).2.2)))]) [0, 1, 2, 3, 4, 5] [] hP hD hS hA rfl rfl (by decide) (by decide) (va_runV (mc := 0) (ms := 0) (As := [.int (nI q)]) (rest := []) ⟨hx, hb, hml, hown, hts⟩ (k_letThrough l dC dI ca h0 a0 a1 a2 a3 a4 t1 tn1 w1 wn1 g1 ko mw _ q (by omega) hwn1 hw1 hq2) (cwV 1 hts gX0_letThroughAllThatCan_X0_letThrough rfl rfl rfl (by decide +kernel) ⟨Nat.le_of_ble_eq_true rfl, Nat.le_of_ble_eq_true rfl⟩) (pm_V (ci := 0) (q0 := 0) hK (hP.sub (ws' := [(h0, .inr (0, [.ref a0, .ref a1, .int (nI tn1), .ref a2, .ref a3, .ref a4, .int (nI wn1), .long g1, .int (nI ko), .int (nI mw)])), (a0, .inl (ca 0, 512, .inl (fun z9 => nI (t1 z9).1))), (a1, .inl (ca 1, 512, .inl (fun z9 => (t1 z9).2))), (a2, .inl (ca 2, 65, .inl (fun z9 => nI (w1 z9).1))), (a3, .inl (ca 3, 65, .inr (.inl (fun z9 => (w1 z9).2.1)))), (a4, .inl (ca 4, 65, .inl (fun z9 => (w1 z9).2.2)))]) [0, 1, 2, 3, 4, 5] rfl) (hD.sub (ws' := [(h0, .inr (0, [.ref a0, .ref a1, .int (nI tn1), .ref a2, .ref a3, .ref a4, .int (nI wn1), .long g1, .int (nI ko), .int (nI mw)])), (a0, .inl (ca 0, 512, .inl (fun z9 => nI (t1 z9).1))), (a1, .inl (ca 1, 512, .inl (fun z9 => (t1 z9).2))), (a2, .inl (ca 2, 65, .inl (fun z9 => nI (w1 z9).1))), (a3, .inl (ca 3, 65, .inr (.inl (fun z9 => (w1 z9).2.1)))), (a4, .inl (ca 4, 65, .inl (fun z9 => (w1 z9).2.2)))]) [0, 1, 2, 3, 4, 5] (by decide) rfl) rfl rfl) rfl rfl hl.1 rfl (lv_room (Nat.le_of_ble_eq_true rfl)) dX0_letThroughAllThatCan_22 ⟨Nat.zero_le _, Nat.zero_le _⟩) (fun H locs hP hD hS => ?_)
          have hP : va_P (dC, dI) clS [(h0, .inr (0, [.ref a0, .ref a1, .int (nI (tn1 + 1)), .ref a2, .ref a3, .ref a4, .int (nI (wn1 - 1)), .long (ltG g1 (w1 q).1), .int (nI ko), .int (nI mw)])), (a0, .inl (ca 0, 512, .inl (fun z9 => nI ((va_up t1 tn1 ((w1 q).1, (w1 q).2.2)) z9).1))), (a1, .inl (ca 1, 512, .inl (fun z9 => ((va_up t1 tn1 ((w1 q).1, (w1 q).2.2)) z9).2))), (a2, .inl (ca 2, 65, .inl (fun z9 => nI ((rmS (wn1 - (q + 1)) (q + 1) w1) z9).1))), (a3, .inl (ca 3, 65, .inr (.inl (fun z9 => ((rmS (wn1 - (q + 1)) (q + 1) w1) z9).2.1)))), (a4, .inl (ca 4, 65, .inl (fun z9 => ((rmS (wn1 - (q + 1)) (q + 1) w1) z9).2.2)))] H := hP
          have hD : va_D A [(h0, .inr (0, [.ref a0, .ref a1, .int (nI (tn1 + 1)), .ref a2, .ref a3, .ref a4, .int (nI (wn1 - 1)), .long (ltG g1 (w1 q).1), .int (nI ko), .int (nI mw)])), (a0, .inl (ca 0, 512, .inl (fun z9 => nI ((va_up t1 tn1 ((w1 q).1, (w1 q).2.2)) z9).1))), (a1, .inl (ca 1, 512, .inl (fun z9 => ((va_up t1 tn1 ((w1 q).1, (w1 q).2.2)) z9).2))), (a2, .inl (ca 2, 65, .inl (fun z9 => nI ((rmS (wn1 - (q + 1)) (q + 1) w1) z9).1))), (a3, .inl (ca 3, 65, .inr (.inl (fun z9 => ((rmS (wn1 - (q + 1)) (q + 1) w1) z9).2.1)))), (a4, .inl (ca 4, 65, .inl (fun z9 => ((rmS (wn1 - (q + 1)) (q + 1) w1) z9).2.2)))] := hD
          refine lv_iinc (v := (nI (x + 1))) (lv' := [(1, .int (nI (x + 1))), (2, .int (nI q)), (0, .ref h0)]) hx hb dX0_letThroughAllThatCan_25 hl (k := 2) rfl (nI_1 x) (by decide) rfl (fun ls hl => ?_)
          refine lv_goto (tgt := 2) hx hb dX0_letThroughAllThatCan_28 (by decide) ?_
          exact ih (x + 1) _ _ _ _ _ (by omega) (by omega) (by omega) (rmS_keys hw1 (by omega)) (by rw [← hk9]; simp only [ltS]; rw [hq]; rfl) _ _ hP hD hS ls (lv_sub hl [2, 0] rfl)
        · have c8 : fs tn1 g1 w1 wn1 0 = none := (oI_m1 (fun a h => by have := fs_lt h; omega)).mp c_15
          have hk8 : ltS 65 (t, tn, w, wn, g) 0 = ((t1, tn1, w1, wn1, g1), x) := by rw [← hk9]; simp only [ltS]; rw [c8]
          refine lv_iload_n hx hb dX0_letThroughAllThatCan_18 rfl (lv_at hl 2 rfl) ?_
          rw [hk8]
          exact mi_ret hx hb hr hlocks (rfl) hAe hP hD hS dX0_letThroughAllThatCan_19
  exact loop 65 0 t tn w wn g (by omega) hwn htn hw rfl _ _ hP hD hS ls (lv_sub hl [1, 0] rfl)

set_option maxRecDepth 20000 in
theorem in_X0_forget_X0 : ∀ w ∈ wsX00, w ∈ wsX0_forget := by decide +kernel

set_option maxHeartbeats 4000000 in
set_option maxRecDepth 100000 in
theorem k_forget (l : Launch) (dC : Nat → ClassId) (dI : Nat → Nat → Nat) (ca : Nat → ClassId) (h0 a0 a1 a2 a3 a4 : Nat) (t : TF) (tn : Nat) (w : WF) (wn : Nat) (g : Int64) (ko mw : Nat) (sz : Nat) (hwn : wn ≤ 65) (hw : ∀ j, j < wn → (w j).1 < 2048) (x : Int32) : Met l yX0_forget wsX0_forget ({ frames := 1, cells := 0, slots := 0, locals := 22 }) (Pm [.ref h0, .int x] (dC, dI) clS [(ca 0, .int), (ca 1, .int), (ca 2, .int), (ca 3, .long), (ca 4, .int)] [(h0, .inr (0, [.ref a0, .ref a1, .int (nI tn), .ref a2, .ref a3, .ref a4, .int (nI wn), .long g, .int (nI ko), .int (nI mw)])), (a0, .inl (ca 0, 512, .inl (fun z9 => nI (t z9).1))), (a1, .inl (ca 1, 512, .inl (fun z9 => (t z9).2))), (a2, .inl (ca 2, 65, .inl (fun z9 => nI (w z9).1))), (a3, .inl (ca 3, 65, .inr (.inl (fun z9 => (w z9).2.1)))), (a4, .inl (ca 4, 65, .inl (fun z9 => (w z9).2.2)))] sz) (QmI (nI (wn - (fgS x wn 0 0 w).2)) (dC, dI) clS [(h0, .inr (0, [.ref a0, .ref a1, .int (nI tn), .ref a2, .ref a3, .ref a4, .int (nI wn), .long g, .int (nI ko), .int (nI mw)])), (a0, .inl (ca 0, 512, .inl (fun z9 => nI (t z9).1))), (a1, .inl (ca 1, 512, .inl (fun z9 => (t z9).2))), (a2, .inl (ca 2, 65, .inl (fun z9 => nI (w z9).1))), (a3, .inl (ca 3, 65, .inr (.inl (fun z9 => (w z9).2.1)))), (a4, .inl (ca 4, 65, .inl (fun z9 => (w z9).2.2)))] [(h0, .inr (0, [.ref a0, .ref a1, .int (nI tn), .ref a2, .ref a3, .ref a4, .int (nI ((fgS x wn 0 0 w).2)), .long g, .int (nI ko), .int (nI mw)])), (a0, .inl (ca 0, 512, .inl (fun z9 => nI (t z9).1))), (a1, .inl (ca 1, 512, .inl (fun z9 => (t z9).2))), (a2, .inl (ca 2, 65, .inl (fun z9 => nI (((fgS x wn 0 0 w).1) z9).1))), (a3, .inl (ca 3, 65, .inr (.inl (fun z9 => (((fgS x wn 0 0 w).1) z9).2.1)))), (a4, .inl (ca 4, 65, .inl (fun z9 => (((fgS x wn 0 0 w).1) z9).2.2)))] sz) 0 0 (va_A [(h0, .inr (0, [.ref a0, .ref a1, .int (nI tn), .ref a2, .ref a3, .ref a4, .int (nI wn), .long g, .int (nI ko), .int (nI mw)])), (a0, .inl (ca 0, 512, .inl (fun z9 => nI (t z9).1))), (a1, .inl (ca 1, 512, .inl (fun z9 => (t z9).2))), (a2, .inl (ca 2, 65, .inl (fun z9 => nI (w z9).1))), (a3, .inl (ca 3, 65, .inr (.inl (fun z9 => (w z9).2.1)))), (a4, .inl (ca 4, 65, .inl (fun z9 => (w z9).2.2)))] sz) := by
  refine Met.ofW (cc := cX0_forget) (maxL := 4) (ret := (some .int)) (by decide) rfl ?_
  intro p e s m args below meth c s₁ B hml hv
  obtain ⟨hargs, hsz, hP, hK, hD0⟩ := hv
  have hx := B.exec
  have hb := B.bytes
  have hr := B.returns
  have hts := atoms_spec (ws := wsX0_forget) B.pre
  have hown : s.vm.findClass RX0 = some m.cls := findClass_of_methodNamed B.named
  have hlocks := B.notSynchronized
  subst hsz
  have hD := hD0.self (sz := s.heap.size)
  obtain ⟨A, hAe⟩ : ∃ A, A = va_A [(h0, .inr (0, [.ref a0, .ref a1, .int (nI tn), .ref a2, .ref a3, .ref a4, .int (nI wn), .long g, .int (nI ko), .int (nI mw)])), (a0, .inl (ca 0, 512, .inl (fun z9 => nI (t z9).1))), (a1, .inl (ca 1, 512, .inl (fun z9 => (t z9).2))), (a2, .inl (ca 2, 65, .inl (fun z9 => nI (w z9).1))), (a3, .inl (ca 3, 65, .inr (.inl (fun z9 => (w z9).2.1)))), (a4, .inl (ca 4, 65, .inl (fun z9 => (w z9).2.2)))] s.heap.size := ⟨_, rfl⟩
  rw [← hAe] at hD ⊢
  have hA : ∀ q : Nat, s.heap.size ≤ q → A q := fun q h => by rw [hAe]; exact Or.inr h
  have hS : va_S A s.heap s.heap [] := va_S.rf
  have hP : va_P (dC, dI) clS [(h0, .inr (0, [.ref a0, .ref a1, .int (nI tn), .ref a2, .ref a3, .ref a4, .int (nI wn), .long g, .int (nI ko), .int (nI mw)])), (a0, .inl (ca 0, 512, .inl (fun z9 => nI (t z9).1))), (a1, .inl (ca 1, 512, .inl (fun z9 => (t z9).2))), (a2, .inl (ca 2, 65, .inl (fun z9 => nI (w z9).1))), (a3, .inl (ca 3, 65, .inr (.inl (fun z9 => (w z9).2.1)))), (a4, .inl (ca 4, 65, .inl (fun z9 => (w z9).2.2)))] s.heap := hP
  have hl := lv_entry ([.ref h0, .int x]) (n := 4) (Nat.le_of_ble_eq_true rfl)
  have hE : entryFrame m args 4 = F0 m 0 ((lg_sl ([.ref h0, .int x]) ++ List.replicate (4 - (lg_sl ([.ref h0, .int x])).length) Slot.unset).toArray) [] := by rw [hargs]; exact lg_entry_eq m ([.ref h0, .int x]) 4
  rw [hE]
  generalize (lg_sl ([.ref h0, .int x]) ++ List.replicate (4 - (lg_sl ([.ref h0, .int x])).length) Slot.unset).toArray = ls at hl ⊢
  have hl : lv_has ls 4 [(0, .ref h0), (1, .int x)] := hl
  refine lv_iconst (v := 0) hx hb dX0_forget_0 (by decide) ?_
  refine tp_i (y := nI 0) (nI_0.symm) ?_
  refine lv_istore_n (lv' := [(2, .int (nI 0)), (0, .ref h0), (1, .int x)]) hx hb dX0_forget_1 rfl hl (by decide) rfl (fun ls hl => ?_)
  refine lv_iconst (v := 0) hx hb dX0_forget_2 (by decide) ?_
  refine tp_i (y := nI 0) (nI_0.symm) ?_
  refine lv_istore_n (lv' := [(3, .int (nI 0)), (2, .int (nI 0)), (0, .ref h0), (1, .int x)]) hx hb dX0_forget_3 rfl hl (by decide) rfl (fun ls hl => ?_)
  have loop : ∀ (n : Nat) (j kp : Nat) (v : WF), j + n = wn → kp ≤ j → (∀ j9, j9 < wn → (v j9).1 < 2048) → fgS x n j kp v = fgS x wn 0 0 w → ∀ (H : Heap) (locs : List Loc), va_P (dC, dI) clS [(h0, .inr (0, [.ref a0, .ref a1, .int (nI tn), .ref a2, .ref a3, .ref a4, .int (nI wn), .long g, .int (nI ko), .int (nI mw)])), (a0, .inl (ca 0, 512, .inl (fun z9 => nI (t z9).1))), (a1, .inl (ca 1, 512, .inl (fun z9 => (t z9).2))), (a2, .inl (ca 2, 65, .inl (fun z9 => nI (v z9).1))), (a3, .inl (ca 3, 65, .inr (.inl (fun z9 => (v z9).2.1)))), (a4, .inl (ca 4, 65, .inl (fun z9 => (v z9).2.2)))] H → va_D A [(h0, .inr (0, [.ref a0, .ref a1, .int (nI tn), .ref a2, .ref a3, .ref a4, .int (nI wn), .long g, .int (nI ko), .int (nI mw)])), (a0, .inl (ca 0, 512, .inl (fun z9 => nI (t z9).1))), (a1, .inl (ca 1, 512, .inl (fun z9 => (t z9).2))), (a2, .inl (ca 2, 65, .inl (fun z9 => nI (v z9).1))), (a3, .inl (ca 3, 65, .inr (.inl (fun z9 => (v z9).2.1)))), (a4, .inl (ca 4, 65, .inl (fun z9 => (v z9).2.2)))] → va_S A s.heap H locs → ∀ ls : Array Slot, lv_has ls 4 [(0, .ref h0), (1, .int x), (2, .int (nI kp)), (3, .int (nI j))] → W p l e (headSpec wsX0_forget ({ frames := 1, cells := 0, slots := 0, locals := 22 })).room s m args below meth c H locs 0 0 (MQ below (QmI (nI (wn - (fgS x wn 0 0 w).2)) (dC, dI) clS [(h0, .inr (0, [.ref a0, .ref a1, .int (nI tn), .ref a2, .ref a3, .ref a4, .int (nI wn), .long g, .int (nI ko), .int (nI mw)])), (a0, .inl (ca 0, 512, .inl (fun z9 => nI (t z9).1))), (a1, .inl (ca 1, 512, .inl (fun z9 => (t z9).2))), (a2, .inl (ca 2, 65, .inl (fun z9 => nI (w z9).1))), (a3, .inl (ca 3, 65, .inr (.inl (fun z9 => (w z9).2.1)))), (a4, .inl (ca 4, 65, .inl (fun z9 => (w z9).2.2)))] [(h0, .inr (0, [.ref a0, .ref a1, .int (nI tn), .ref a2, .ref a3, .ref a4, .int (nI ((fgS x wn 0 0 w).2)), .long g, .int (nI ko), .int (nI mw)])), (a0, .inl (ca 0, 512, .inl (fun z9 => nI (t z9).1))), (a1, .inl (ca 1, 512, .inl (fun z9 => (t z9).2))), (a2, .inl (ca 2, 65, .inl (fun z9 => nI (((fgS x wn 0 0 w).1) z9).1))), (a3, .inl (ca 3, 65, .inr (.inl (fun z9 => (((fgS x wn 0 0 w).1) z9).2.1)))), (a4, .inl (ca 4, 65, .inl (fun z9 => (((fgS x wn 0 0 w).1) z9).2.2)))] s.heap.size) args s 0 0 A) (F0 m 4 ls []) := by
    intro n
    induction n with
    | zero =>
      intro j kp v hj hkp hv hk9 H locs hP hD hS ls hl
      refine lv_iload_n hx hb dX0_forget_4 rfl (lv_at hl 3 rfl) ?_
      refine lv_aload_n hx hb dX0_forget_5 rfl (lv_at hl 0 rfl) ?_
      refine va_get (D := (dC, dI)) (ci := 0) (v := .int (nI wn)) (C := RX0) (T := TX0) (N := 10) hx hb hts in_X0_forget_X0 hown hK hP 0 rfl rfl 6 (by decide) (hts (.fieldLink RX0 30 "CausalGate" "waitCount" "I") (by decide +kernel)) (fun _ h9 => h9) rfl dX0_forget_6 ?_
      refine lv_icmp_ge (tgt := 40) hx hb dX0_forget_9 (by decide) (fun c_9 => ?_) (fun c_9 => ?_)
      · refine lv_aload_n hx hb dX0_forget_40 rfl (lv_at hl 0 rfl) ?_
        refine va_get (D := (dC, dI)) (ci := 0) (v := .int (nI wn)) (C := RX0) (T := TX0) (N := 10) hx hb hts in_X0_forget_X0 hown hK hP 0 rfl rfl 6 (by decide) (hts (.fieldLink RX0 30 "CausalGate" "waitCount" "I") (by decide +kernel)) (fun _ h9 => h9) rfl dX0_forget_41 ?_
        refine lv_iload_n hx hb dX0_forget_44 rfl (lv_at hl 2 rfl) ?_
        refine lv_isub hx hb dX0_forget_45 ?_
        refine tp_i (y := nI (wn - kp)) (pk_sub (by omega)) ?_
        refine lv_istore_n (lv' := [(3, .int (nI (wn - kp))), (0, .ref h0), (1, .int x), (2, .int (nI kp))]) hx hb dX0_forget_46 rfl hl (by decide) rfl (fun ls hl => ?_)
        refine lv_aload_n hx hb dX0_forget_47 rfl (lv_at hl 1 rfl) ?_
        refine lv_iload_n hx hb dX0_forget_48 rfl (lv_at hl 3 rfl) ?_
        refine va_put (D := (dC, dI)) (ci := 0) (v := .int (nI kp)) (ty := .int) (C := RX0) (T := TX0) (N := 10) hx hb hts in_X0_forget_X0 tyX0 tyX0_ok nmX0 hown hK hP hD hS 0 rfl rfl 6 (by decide) (hts (.fieldLink RX0 30 "CausalGate" "waitCount" "I") (by decide +kernel)) (fun _ h9 => h9) rfl (by decide +kernel) rfl rfl (Nat.le_of_ble_eq_true rfl) dX0_forget_49 (fun H locs hP hD hS => ?_)
        have hP : va_P (dC, dI) clS [(h0, .inr (0, [.ref a0, .ref a1, .int (nI tn), .ref a2, .ref a3, .ref a4, .int (nI kp), .long g, .int (nI ko), .int (nI mw)])), (a0, .inl (ca 0, 512, .inl (fun z9 => nI (t z9).1))), (a1, .inl (ca 1, 512, .inl (fun z9 => (t z9).2))), (a2, .inl (ca 2, 65, .inl (fun z9 => nI (v z9).1))), (a3, .inl (ca 3, 65, .inr (.inl (fun z9 => (v z9).2.1)))), (a4, .inl (ca 4, 65, .inl (fun z9 => (v z9).2.2)))] H := hP
        have hD : va_D A [(h0, .inr (0, [.ref a0, .ref a1, .int (nI tn), .ref a2, .ref a3, .ref a4, .int (nI kp), .long g, .int (nI ko), .int (nI mw)])), (a0, .inl (ca 0, 512, .inl (fun z9 => nI (t z9).1))), (a1, .inl (ca 1, 512, .inl (fun z9 => (t z9).2))), (a2, .inl (ca 2, 65, .inl (fun z9 => nI (v z9).1))), (a3, .inl (ca 3, 65, .inr (.inl (fun z9 => (v z9).2.1)))), (a4, .inl (ca 4, 65, .inl (fun z9 => (v z9).2.2)))] := hD
        refine lv_iload_n hx hb dX0_forget_52 rfl (lv_at hl 0 rfl) ?_
        have hk8 : fgS x wn 0 0 w = (v, kp) := hk9.symm
        rw [hk8]
        exact mi_ret hx hb hr hlocks (rfl) hAe hP hD hS dX0_forget_53
      · exact absurd (nI_le (by omega) (by omega)) c_9
    | succ n ih =>
      intro j kp v hj hkp hv hk9 H locs hP hD hS ls hl
      refine lv_iload_n hx hb dX0_forget_4 rfl (lv_at hl 3 rfl) ?_
      refine lv_aload_n hx hb dX0_forget_5 rfl (lv_at hl 0 rfl) ?_
      refine va_get (D := (dC, dI)) (ci := 0) (v := .int (nI wn)) (C := RX0) (T := TX0) (N := 10) hx hb hts in_X0_forget_X0 hown hK hP 0 rfl rfl 6 (by decide) (hts (.fieldLink RX0 30 "CausalGate" "waitCount" "I") (by decide +kernel)) (fun _ h9 => h9) rfl dX0_forget_6 ?_
      refine lv_icmp_ge (tgt := 40) hx hb dX0_forget_9 (by decide) (fun c_9 => ?_) (fun c_9 => ?_)
      · exact absurd ((nI_leI (by omega) (by omega)).mp c_9) (by omega)
      · refine lv_aload_n hx hb dX0_forget_12 rfl (lv_at hl 0 rfl) ?_
        refine va_get (D := (dC, dI)) (ci := 0) (v := .ref a2) (C := RX0) (T := TX0) (N := 10) hx hb hts in_X0_forget_X0 hown hK hP 0 rfl rfl 3 (by decide) (hts (.fieldLink RX0 16 "CausalGate" "waitKeys" "[I") (by decide +kernel)) (fun _ h9 => h9) rfl dX0_forget_13 ?_
        refine lv_iload_n hx hb dX0_forget_16 rfl (lv_at hl 3 rfl) ?_
        refine va_iald hx hb hK hP 3 2 rfl rfl (vp_in_nI (by omega) (by decide)) dX0_forget_17 ?_
        refine tp_i (y := nI (v j).1) (by rw [nI_clamp (by omega)]) ?_
        have hvj := hv j (by omega)
        refine rd_i (W.runS (As := [.int (nI (v j).1)]) (rest := []) ⟨hx, hb, hml, hown, hts⟩ (k_actorOf l ((v j).1) (by omega)) (va_cwS 1 hts gX0_forget_X0_actorOf rfl rfl rfl (by decide +kernel) ⟨Nat.le_of_ble_eq_true rfl, Nat.le_of_ble_eq_true rfl⟩) preEq rfl rfl hl.1 rfl (lv_room (Nat.le_of_ble_eq_true rfl)) dX0_forget_18 ⟨Nat.zero_le _, Nat.zero_le _⟩) ?_
        refine lv_iload_n hx hb dX0_forget_21 rfl (lv_at hl 1 rfl) ?_
        refine lv_icmp_eq (tgt := 34) hx hb dX0_forget_22 (by decide) (fun c_22 => ?_) (fun c_22 => ?_)
        · refine lv_iinc (v := (nI (j + 1))) (lv' := [(3, .int (nI (j + 1))), (0, .ref h0), (1, .int x), (2, .int (nI kp))]) hx hb dX0_forget_34 hl (k := 3) rfl (nI_1 j) (by decide) rfl (fun ls hl => ?_)
          refine lv_goto (tgt := 4) hx hb dX0_forget_37 (by decide) ?_
          exact ih (j + 1) kp v (by omega) (by omega) hv (by rw [← hk9]; simp only [fgS]; rw [if_pos c_22]) _ _ hP hD hS ls (lv_sub hl [1, 2, 3, 0] rfl)
        · refine lv_aload_n hx hb dX0_forget_25 rfl (lv_at hl 0 rfl) ?_
          refine lv_iload_n hx hb dX0_forget_26 rfl (lv_at hl 3 rfl) ?_
          refine lv_iload_n hx hb dX0_forget_27 rfl (lv_at hl 2 rfl) ?_
          refine mt_v (wc := [(h0, .inr (0, [.ref a0, .ref a1, .int (nI tn), .ref a2, .ref a3, .ref a4, .int (nI wn), .long g, .int (nI ko), .int (nI mw)])), (a0, .inl (ca 0, 512, .inl (fun z9 => nI (t z9).1))), (a1, .inl (ca 1, 512, .inl (fun z9 => (t z9).2))), (a2, .inl (ca 2, 65, .inl (fun z9 => nI (v z9).1))), (a3, .inl (ca 3, 65, .inr (.inl (fun z9 => (v z9).2.1)))), (a4, .inl (ca 4, 65, .inl (fun z9 => (v z9).2.2)))]) (wr := []) (w1 := [(h0, .inr (0, [.ref a0, .ref a1, .int (nI tn), .ref a2, .ref a3, .ref a4, .int (nI wn), .long g, .int (nI ko), .int (nI mw)])), (a0, .inl (ca 0, 512, .inl (fun z9 => nI (t z9).1))), (a1, .inl (ca 1, 512, .inl (fun z9 => (t z9).2))), (a2, .inl (ca 2, 65, .inl (fun z9 => nI ((va_up v kp (v j)) z9).1))), (a3, .inl (ca 3, 65, .inr (.inl (fun z9 => ((va_up v kp (v j)) z9).2.1)))), (a4, .inl (ca 4, 65, .inl (fun z9 => ((va_up v kp (v j)) z9).2.2)))]) [0, 1, 2, 3, 4, 5] [] hP hD hS hA rfl rfl (by decide) (by decide) (va_runV (mc := 0) (ms := 0) (As := [.int (nI j), .int (nI kp)]) (rest := []) ⟨hx, hb, hml, hown, hts⟩ (k_moveWaiting l dC dI ca h0 a0 a1 a2 a3 a4 t tn v wn g ko mw _ j kp (by omega) (by omega)) (cwV 2 hts gX0_forget_X0_moveWaiting rfl rfl rfl (by decide +kernel) ⟨Nat.le_of_ble_eq_true rfl, Nat.le_of_ble_eq_true rfl⟩) (pm_V (ci := 0) (q0 := 0) hK (hP.sub (ws' := [(h0, .inr (0, [.ref a0, .ref a1, .int (nI tn), .ref a2, .ref a3, .ref a4, .int (nI wn), .long g, .int (nI ko), .int (nI mw)])), (a0, .inl (ca 0, 512, .inl (fun z9 => nI (t z9).1))), (a1, .inl (ca 1, 512, .inl (fun z9 => (t z9).2))), (a2, .inl (ca 2, 65, .inl (fun z9 => nI (v z9).1))), (a3, .inl (ca 3, 65, .inr (.inl (fun z9 => (v z9).2.1)))), (a4, .inl (ca 4, 65, .inl (fun z9 => (v z9).2.2)))]) [0, 1, 2, 3, 4, 5] rfl) (hD.sub (ws' := [(h0, .inr (0, [.ref a0, .ref a1, .int (nI tn), .ref a2, .ref a3, .ref a4, .int (nI wn), .long g, .int (nI ko), .int (nI mw)])), (a0, .inl (ca 0, 512, .inl (fun z9 => nI (t z9).1))), (a1, .inl (ca 1, 512, .inl (fun z9 => (t z9).2))), (a2, .inl (ca 2, 65, .inl (fun z9 => nI (v z9).1))), (a3, .inl (ca 3, 65, .inr (.inl (fun z9 => (v z9).2.1)))), (a4, .inl (ca 4, 65, .inl (fun z9 => (v z9).2.2)))]) [0, 1, 2, 3, 4, 5] (by decide) rfl) rfl rfl) rfl rfl hl.1 rfl (lv_room (Nat.le_of_ble_eq_true rfl)) dX0_forget_28 ⟨Nat.zero_le _, Nat.zero_le _⟩) (fun H locs hP hD hS => ?_)
          have hP : va_P (dC, dI) clS [(h0, .inr (0, [.ref a0, .ref a1, .int (nI tn), .ref a2, .ref a3, .ref a4, .int (nI wn), .long g, .int (nI ko), .int (nI mw)])), (a0, .inl (ca 0, 512, .inl (fun z9 => nI (t z9).1))), (a1, .inl (ca 1, 512, .inl (fun z9 => (t z9).2))), (a2, .inl (ca 2, 65, .inl (fun z9 => nI ((va_up v kp (v j)) z9).1))), (a3, .inl (ca 3, 65, .inr (.inl (fun z9 => ((va_up v kp (v j)) z9).2.1)))), (a4, .inl (ca 4, 65, .inl (fun z9 => ((va_up v kp (v j)) z9).2.2)))] H := hP
          have hD : va_D A [(h0, .inr (0, [.ref a0, .ref a1, .int (nI tn), .ref a2, .ref a3, .ref a4, .int (nI wn), .long g, .int (nI ko), .int (nI mw)])), (a0, .inl (ca 0, 512, .inl (fun z9 => nI (t z9).1))), (a1, .inl (ca 1, 512, .inl (fun z9 => (t z9).2))), (a2, .inl (ca 2, 65, .inl (fun z9 => nI ((va_up v kp (v j)) z9).1))), (a3, .inl (ca 3, 65, .inr (.inl (fun z9 => ((va_up v kp (v j)) z9).2.1)))), (a4, .inl (ca 4, 65, .inl (fun z9 => ((va_up v kp (v j)) z9).2.2)))] := hD
          refine lv_iinc (v := (nI (kp + 1))) (lv' := [(2, .int (nI (kp + 1))), (0, .ref h0), (1, .int x), (3, .int (nI j))]) hx hb dX0_forget_31 hl (k := 2) rfl (nI_1 kp) (by decide) rfl (fun ls hl => ?_)
          refine lv_iinc (v := (nI (j + 1))) (lv' := [(3, .int (nI (j + 1))), (2, .int (nI (kp + 1))), (0, .ref h0), (1, .int x)]) hx hb dX0_forget_34 hl (k := 3) rfl (nI_1 j) (by decide) rfl (fun ls hl => ?_)
          refine lv_goto (tgt := 4) hx hb dX0_forget_37 (by decide) ?_
          exact ih (j + 1) (kp + 1) (va_up v kp (v j)) (by omega) (by omega) (up_keys hv (by omega)) (by rw [← hk9]; simp only [fgS]; rw [if_neg c_22]) _ _ hP hD hS ls (lv_sub hl [2, 3, 1, 0] rfl)
  exact loop wn 0 0 w (by omega) (by omega) hw rfl _ _ hP hD hS ls (lv_sub hl [2, 3, 1, 0] rfl)
