set_option maxRecDepth 20000 in
theorem in_Y_clear_Y : ∀ w ∈ wsY0, w ∈ wsY_clear := by decide +kernel

set_option maxHeartbeats 4000000 in
set_option maxRecDepth 100000 in
theorem kY_clear (l : Launch) (dC : Nat → ClassId) (dI : Nat → Nat → Nat) (cb : Nat → ClassId) (r0 b0 b1 b2 b3 b4 b5 b6 b7 : Nat) (th : Int32) (cl : Nat → Nat) (t : TF) (tn : Nat) (w : WF) (wn : Nat) (ko mw : Nat) (sz : Nat)  : Met l yY_clear wsY_clear ({ frames := 0, cells := 0, slots := 0, locals := 0 }) (Pm [.ref r0] (dC, dI) clS [(cb 0, .int), (cb 1, .int), (cb 2, .int), (cb 3, .int), (cb 4, .int), (cb 5, .int), (cb 6, .long), (cb 7, .int)] [(r0, .inr (1, [.int th, .ref b0, .int (nI tn), .ref b1, .ref b2, .ref b3, .int (nI wn), .ref b4, .ref b5, .ref b6, .ref b7, .int (nI ko), .int (nI mw)])), (b0, .inl (cb 0, 8, .inl (fun z9 => nI (cl z9)))), (b1, .inl (cb 1, 2040, .inl (fun z9 => nI ((t z9).1 / 256)))), (b2, .inl (cb 2, 2040, .inl (fun z9 => nI ((t z9).1 % 256)))), (b3, .inl (cb 3, 2040, .inl (fun z9 => (t z9).2))), (b4, .inl (cb 4, 65, .inl (fun z9 => nI ((w z9).1 / 256)))), (b5, .inl (cb 5, 65, .inl (fun z9 => nI ((w z9).1 % 256)))), (b6, .inl (cb 6, 65, .inr (.inl (fun z9 => (w z9).2.1)))), (b7, .inl (cb 7, 65, .inl (fun z9 => (w z9).2.2)))] sz) (QmV (dC, dI) clS [(r0, .inr (1, [.int th, .ref b0, .int (nI tn), .ref b1, .ref b2, .ref b3, .int (nI wn), .ref b4, .ref b5, .ref b6, .ref b7, .int (nI ko), .int (nI mw)])), (b0, .inl (cb 0, 8, .inl (fun z9 => nI (cl z9)))), (b1, .inl (cb 1, 2040, .inl (fun z9 => nI ((t z9).1 / 256)))), (b2, .inl (cb 2, 2040, .inl (fun z9 => nI ((t z9).1 % 256)))), (b3, .inl (cb 3, 2040, .inl (fun z9 => (t z9).2))), (b4, .inl (cb 4, 65, .inl (fun z9 => nI ((w z9).1 / 256)))), (b5, .inl (cb 5, 65, .inl (fun z9 => nI ((w z9).1 % 256)))), (b6, .inl (cb 6, 65, .inr (.inl (fun z9 => (w z9).2.1)))), (b7, .inl (cb 7, 65, .inl (fun z9 => (w z9).2.2)))] [(r0, .inr (1, [.int 0, .ref b0, .int (nI 0), .ref b1, .ref b2, .ref b3, .int (nI 0), .ref b4, .ref b5, .ref b6, .ref b7, .int (nI 0), .int (nI 0)])), (b0, .inl (cb 0, 8, .inl (fun z9 => nI ((zcS 8 0 cl) z9)))), (b1, .inl (cb 1, 2040, .inl (fun z9 => nI ((t z9).1 / 256)))), (b2, .inl (cb 2, 2040, .inl (fun z9 => nI ((t z9).1 % 256)))), (b3, .inl (cb 3, 2040, .inl (fun z9 => (t z9).2))), (b4, .inl (cb 4, 65, .inl (fun z9 => nI ((w z9).1 / 256)))), (b5, .inl (cb 5, 65, .inl (fun z9 => nI ((w z9).1 % 256)))), (b6, .inl (cb 6, 65, .inr (.inl (fun z9 => (w z9).2.1)))), (b7, .inl (cb 7, 65, .inl (fun z9 => (w z9).2.2)))] sz) 0 0 (va_A [(r0, .inr (1, [.int th, .ref b0, .int (nI tn), .ref b1, .ref b2, .ref b3, .int (nI wn), .ref b4, .ref b5, .ref b6, .ref b7, .int (nI ko), .int (nI mw)])), (b0, .inl (cb 0, 8, .inl (fun z9 => nI (cl z9)))), (b1, .inl (cb 1, 2040, .inl (fun z9 => nI ((t z9).1 / 256)))), (b2, .inl (cb 2, 2040, .inl (fun z9 => nI ((t z9).1 % 256)))), (b3, .inl (cb 3, 2040, .inl (fun z9 => (t z9).2))), (b4, .inl (cb 4, 65, .inl (fun z9 => nI ((w z9).1 / 256)))), (b5, .inl (cb 5, 65, .inl (fun z9 => nI ((w z9).1 % 256)))), (b6, .inl (cb 6, 65, .inr (.inl (fun z9 => (w z9).2.1)))), (b7, .inl (cb 7, 65, .inl (fun z9 => (w z9).2.2)))] sz) := by
  refine Met.ofW (cc := cY_clear) (maxL := 2) (ret := none) (by decide) rfl ?_
  intro p e s m args below meth c s₁ B hml hv
  obtain ⟨hargs, hsz, hP, hK, hD0⟩ := hv
  have hx := B.exec
  have hb := B.bytes
  have hr := B.returns
  have hts := atoms_spec (ws := wsY_clear) B.pre
  have hown : s.vm.findClass RY = some m.cls := findClass_of_methodNamed B.named
  have hlocks := B.notSynchronized
  subst hsz
  have hD := hD0.self (sz := s.heap.size)
  obtain ⟨A, hAe⟩ : ∃ A, A = va_A [(r0, .inr (1, [.int th, .ref b0, .int (nI tn), .ref b1, .ref b2, .ref b3, .int (nI wn), .ref b4, .ref b5, .ref b6, .ref b7, .int (nI ko), .int (nI mw)])), (b0, .inl (cb 0, 8, .inl (fun z9 => nI (cl z9)))), (b1, .inl (cb 1, 2040, .inl (fun z9 => nI ((t z9).1 / 256)))), (b2, .inl (cb 2, 2040, .inl (fun z9 => nI ((t z9).1 % 256)))), (b3, .inl (cb 3, 2040, .inl (fun z9 => (t z9).2))), (b4, .inl (cb 4, 65, .inl (fun z9 => nI ((w z9).1 / 256)))), (b5, .inl (cb 5, 65, .inl (fun z9 => nI ((w z9).1 % 256)))), (b6, .inl (cb 6, 65, .inr (.inl (fun z9 => (w z9).2.1)))), (b7, .inl (cb 7, 65, .inl (fun z9 => (w z9).2.2)))] s.heap.size := ⟨_, rfl⟩
  rw [← hAe] at hD ⊢
  have hA : ∀ q : Nat, s.heap.size ≤ q → A q := fun q h => by rw [hAe]; exact Or.inr h
  have hS : va_S A s.heap s.heap [] := va_S.rf
  have hP : va_P (dC, dI) clS [(r0, .inr (1, [.int th, .ref b0, .int (nI tn), .ref b1, .ref b2, .ref b3, .int (nI wn), .ref b4, .ref b5, .ref b6, .ref b7, .int (nI ko), .int (nI mw)])), (b0, .inl (cb 0, 8, .inl (fun z9 => nI (cl z9)))), (b1, .inl (cb 1, 2040, .inl (fun z9 => nI ((t z9).1 / 256)))), (b2, .inl (cb 2, 2040, .inl (fun z9 => nI ((t z9).1 % 256)))), (b3, .inl (cb 3, 2040, .inl (fun z9 => (t z9).2))), (b4, .inl (cb 4, 65, .inl (fun z9 => nI ((w z9).1 / 256)))), (b5, .inl (cb 5, 65, .inl (fun z9 => nI ((w z9).1 % 256)))), (b6, .inl (cb 6, 65, .inr (.inl (fun z9 => (w z9).2.1)))), (b7, .inl (cb 7, 65, .inl (fun z9 => (w z9).2.2)))] s.heap := hP
  have hl := lv_entry ([.ref r0]) (n := 2) (Nat.le_of_ble_eq_true rfl)
  have hE : entryFrame m args 2 = F0 m 0 ((lg_sl ([.ref r0]) ++ List.replicate (2 - (lg_sl ([.ref r0])).length) Slot.unset).toArray) [] := by rw [hargs]; exact lg_entry_eq m ([.ref r0]) 2
  rw [hE]
  generalize (lg_sl ([.ref r0]) ++ List.replicate (2 - (lg_sl ([.ref r0])).length) Slot.unset).toArray = ls at hl ⊢
  have hl : lv_has ls 2 [(0, .ref r0)] := hl
  refine lv_aload_n hx hb dY_clear_0 rfl (lv_at hl 0 rfl) ?_
  refine lv_iconst (v := 0) hx hb dY_clear_1 (by decide) ?_
  refine va_put (D := (dC, dI)) (ci := 1) (v := .int 0) (ty := .int) (C := RY) (T := TY) (N := 13) hx hb hts in_Y_clear_Y tyY tyY_ok nmY hown hK hP hD hS 0 rfl rfl 0 (by decide) (hts (.fieldLink RY 35 "CausalGateModel" "thrown" "I") (by decide +kernel)) (fun _ h9 => h9) rfl (by decide +kernel) rfl rfl (Nat.le_of_ble_eq_true rfl) dY_clear_2 (fun H locs hP hD hS => ?_)
  have hP : va_P (dC, dI) clS [(r0, .inr (1, [.int 0, .ref b0, .int (nI tn), .ref b1, .ref b2, .ref b3, .int (nI wn), .ref b4, .ref b5, .ref b6, .ref b7, .int (nI ko), .int (nI mw)])), (b0, .inl (cb 0, 8, .inl (fun z9 => nI (cl z9)))), (b1, .inl (cb 1, 2040, .inl (fun z9 => nI ((t z9).1 / 256)))), (b2, .inl (cb 2, 2040, .inl (fun z9 => nI ((t z9).1 % 256)))), (b3, .inl (cb 3, 2040, .inl (fun z9 => (t z9).2))), (b4, .inl (cb 4, 65, .inl (fun z9 => nI ((w z9).1 / 256)))), (b5, .inl (cb 5, 65, .inl (fun z9 => nI ((w z9).1 % 256)))), (b6, .inl (cb 6, 65, .inr (.inl (fun z9 => (w z9).2.1)))), (b7, .inl (cb 7, 65, .inl (fun z9 => (w z9).2.2)))] H := hP
  have hD : va_D A [(r0, .inr (1, [.int 0, .ref b0, .int (nI tn), .ref b1, .ref b2, .ref b3, .int (nI wn), .ref b4, .ref b5, .ref b6, .ref b7, .int (nI ko), .int (nI mw)])), (b0, .inl (cb 0, 8, .inl (fun z9 => nI (cl z9)))), (b1, .inl (cb 1, 2040, .inl (fun z9 => nI ((t z9).1 / 256)))), (b2, .inl (cb 2, 2040, .inl (fun z9 => nI ((t z9).1 % 256)))), (b3, .inl (cb 3, 2040, .inl (fun z9 => (t z9).2))), (b4, .inl (cb 4, 65, .inl (fun z9 => nI ((w z9).1 / 256)))), (b5, .inl (cb 5, 65, .inl (fun z9 => nI ((w z9).1 % 256)))), (b6, .inl (cb 6, 65, .inr (.inl (fun z9 => (w z9).2.1)))), (b7, .inl (cb 7, 65, .inl (fun z9 => (w z9).2.2)))] := hD
  refine lv_iconst (v := 0) hx hb dY_clear_5 (by decide) ?_
  refine tp_i (y := nI 0) (nI_0.symm) ?_
  refine lv_istore_n (lv' := [(1, .int (nI 0)), (0, .ref r0)]) hx hb dY_clear_6 rfl hl (by decide) rfl (fun ls hl => ?_)
  have loop : ∀ (n : Nat) (a : Nat) (v : Nat → Nat), a + n = 8 → zcS n a v = zcS 8 0 cl → ∀ (H : Heap) (locs : List Loc), va_P (dC, dI) clS [(r0, .inr (1, [.int 0, .ref b0, .int (nI tn), .ref b1, .ref b2, .ref b3, .int (nI wn), .ref b4, .ref b5, .ref b6, .ref b7, .int (nI ko), .int (nI mw)])), (b0, .inl (cb 0, 8, .inl (fun z9 => nI (v z9)))), (b1, .inl (cb 1, 2040, .inl (fun z9 => nI ((t z9).1 / 256)))), (b2, .inl (cb 2, 2040, .inl (fun z9 => nI ((t z9).1 % 256)))), (b3, .inl (cb 3, 2040, .inl (fun z9 => (t z9).2))), (b4, .inl (cb 4, 65, .inl (fun z9 => nI ((w z9).1 / 256)))), (b5, .inl (cb 5, 65, .inl (fun z9 => nI ((w z9).1 % 256)))), (b6, .inl (cb 6, 65, .inr (.inl (fun z9 => (w z9).2.1)))), (b7, .inl (cb 7, 65, .inl (fun z9 => (w z9).2.2)))] H → va_D A [(r0, .inr (1, [.int 0, .ref b0, .int (nI tn), .ref b1, .ref b2, .ref b3, .int (nI wn), .ref b4, .ref b5, .ref b6, .ref b7, .int (nI ko), .int (nI mw)])), (b0, .inl (cb 0, 8, .inl (fun z9 => nI (v z9)))), (b1, .inl (cb 1, 2040, .inl (fun z9 => nI ((t z9).1 / 256)))), (b2, .inl (cb 2, 2040, .inl (fun z9 => nI ((t z9).1 % 256)))), (b3, .inl (cb 3, 2040, .inl (fun z9 => (t z9).2))), (b4, .inl (cb 4, 65, .inl (fun z9 => nI ((w z9).1 / 256)))), (b5, .inl (cb 5, 65, .inl (fun z9 => nI ((w z9).1 % 256)))), (b6, .inl (cb 6, 65, .inr (.inl (fun z9 => (w z9).2.1)))), (b7, .inl (cb 7, 65, .inl (fun z9 => (w z9).2.2)))] → va_S A s.heap H locs → ∀ ls : Array Slot, lv_has ls 2 [(0, .ref r0), (1, .int (nI a))] → W p l e (headSpec wsY_clear ({ frames := 0, cells := 0, slots := 0, locals := 0 })).room s m args below meth c H locs 0 0 (MQ below (QmV (dC, dI) clS [(r0, .inr (1, [.int th, .ref b0, .int (nI tn), .ref b1, .ref b2, .ref b3, .int (nI wn), .ref b4, .ref b5, .ref b6, .ref b7, .int (nI ko), .int (nI mw)])), (b0, .inl (cb 0, 8, .inl (fun z9 => nI (cl z9)))), (b1, .inl (cb 1, 2040, .inl (fun z9 => nI ((t z9).1 / 256)))), (b2, .inl (cb 2, 2040, .inl (fun z9 => nI ((t z9).1 % 256)))), (b3, .inl (cb 3, 2040, .inl (fun z9 => (t z9).2))), (b4, .inl (cb 4, 65, .inl (fun z9 => nI ((w z9).1 / 256)))), (b5, .inl (cb 5, 65, .inl (fun z9 => nI ((w z9).1 % 256)))), (b6, .inl (cb 6, 65, .inr (.inl (fun z9 => (w z9).2.1)))), (b7, .inl (cb 7, 65, .inl (fun z9 => (w z9).2.2)))] [(r0, .inr (1, [.int 0, .ref b0, .int (nI 0), .ref b1, .ref b2, .ref b3, .int (nI 0), .ref b4, .ref b5, .ref b6, .ref b7, .int (nI 0), .int (nI 0)])), (b0, .inl (cb 0, 8, .inl (fun z9 => nI ((zcS 8 0 cl) z9)))), (b1, .inl (cb 1, 2040, .inl (fun z9 => nI ((t z9).1 / 256)))), (b2, .inl (cb 2, 2040, .inl (fun z9 => nI ((t z9).1 % 256)))), (b3, .inl (cb 3, 2040, .inl (fun z9 => (t z9).2))), (b4, .inl (cb 4, 65, .inl (fun z9 => nI ((w z9).1 / 256)))), (b5, .inl (cb 5, 65, .inl (fun z9 => nI ((w z9).1 % 256)))), (b6, .inl (cb 6, 65, .inr (.inl (fun z9 => (w z9).2.1)))), (b7, .inl (cb 7, 65, .inl (fun z9 => (w z9).2.2)))] s.heap.size) args s 0 0 A) (F0 m 7 ls []) := by
    intro n
    induction n with
    | zero =>
      intro a v ha hk9 H locs hP hD hS ls hl
      refine lv_iload_n hx hb dY_clear_7 rfl (lv_at hl 1 rfl) ?_
      refine lv_bipush (v := 8) hx hb dY_clear_8 (by decide) ?_
      refine tp_i (y := nI 8) (rfl) ?_
      refine lv_icmp_ge (tgt := 26) hx hb dY_clear_10 (by decide) (fun c_10 => ?_) (fun c_10 => ?_)
      · refine lv_aload_n hx hb dY_clear_26 rfl (lv_at hl 0 rfl) ?_
        refine lv_iconst (v := 0) hx hb dY_clear_27 (by decide) ?_
        refine tp_i (y := nI 0) (nI_0.symm) ?_
        refine va_put (D := (dC, dI)) (ci := 1) (v := .int (nI 0)) (ty := .int) (C := RY) (T := TY) (N := 13) hx hb hts in_Y_clear_Y tyY tyY_ok nmY hown hK hP hD hS 0 rfl rfl 2 (by decide) (hts (.fieldLink RY 52 "CausalGateModel" "through" "I") (by decide +kernel)) (fun _ h9 => h9) rfl (by decide +kernel) rfl rfl (Nat.le_of_ble_eq_true rfl) dY_clear_28 (fun H locs hP hD hS => ?_)
        have hP : va_P (dC, dI) clS [(r0, .inr (1, [.int 0, .ref b0, .int (nI 0), .ref b1, .ref b2, .ref b3, .int (nI wn), .ref b4, .ref b5, .ref b6, .ref b7, .int (nI ko), .int (nI mw)])), (b0, .inl (cb 0, 8, .inl (fun z9 => nI (v z9)))), (b1, .inl (cb 1, 2040, .inl (fun z9 => nI ((t z9).1 / 256)))), (b2, .inl (cb 2, 2040, .inl (fun z9 => nI ((t z9).1 % 256)))), (b3, .inl (cb 3, 2040, .inl (fun z9 => (t z9).2))), (b4, .inl (cb 4, 65, .inl (fun z9 => nI ((w z9).1 / 256)))), (b5, .inl (cb 5, 65, .inl (fun z9 => nI ((w z9).1 % 256)))), (b6, .inl (cb 6, 65, .inr (.inl (fun z9 => (w z9).2.1)))), (b7, .inl (cb 7, 65, .inl (fun z9 => (w z9).2.2)))] H := hP
        have hD : va_D A [(r0, .inr (1, [.int 0, .ref b0, .int (nI 0), .ref b1, .ref b2, .ref b3, .int (nI wn), .ref b4, .ref b5, .ref b6, .ref b7, .int (nI ko), .int (nI mw)])), (b0, .inl (cb 0, 8, .inl (fun z9 => nI (v z9)))), (b1, .inl (cb 1, 2040, .inl (fun z9 => nI ((t z9).1 / 256)))), (b2, .inl (cb 2, 2040, .inl (fun z9 => nI ((t z9).1 % 256)))), (b3, .inl (cb 3, 2040, .inl (fun z9 => (t z9).2))), (b4, .inl (cb 4, 65, .inl (fun z9 => nI ((w z9).1 / 256)))), (b5, .inl (cb 5, 65, .inl (fun z9 => nI ((w z9).1 % 256)))), (b6, .inl (cb 6, 65, .inr (.inl (fun z9 => (w z9).2.1)))), (b7, .inl (cb 7, 65, .inl (fun z9 => (w z9).2.2)))] := hD
        refine lv_aload_n hx hb dY_clear_31 rfl (lv_at hl 0 rfl) ?_
        refine lv_iconst (v := 0) hx hb dY_clear_32 (by decide) ?_
        refine tp_i (y := nI 0) (nI_0.symm) ?_
        refine va_put (D := (dC, dI)) (ci := 1) (v := .int (nI 0)) (ty := .int) (C := RY) (T := TY) (N := 13) hx hb hts in_Y_clear_Y tyY tyY_ok nmY hown hK hP hD hS 0 rfl rfl 6 (by decide) (hts (.fieldLink RY 49 "CausalGateModel" "waiting" "I") (by decide +kernel)) (fun _ h9 => h9) rfl (by decide +kernel) rfl rfl (Nat.le_of_ble_eq_true rfl) dY_clear_33 (fun H locs hP hD hS => ?_)
        have hP : va_P (dC, dI) clS [(r0, .inr (1, [.int 0, .ref b0, .int (nI 0), .ref b1, .ref b2, .ref b3, .int (nI 0), .ref b4, .ref b5, .ref b6, .ref b7, .int (nI ko), .int (nI mw)])), (b0, .inl (cb 0, 8, .inl (fun z9 => nI (v z9)))), (b1, .inl (cb 1, 2040, .inl (fun z9 => nI ((t z9).1 / 256)))), (b2, .inl (cb 2, 2040, .inl (fun z9 => nI ((t z9).1 % 256)))), (b3, .inl (cb 3, 2040, .inl (fun z9 => (t z9).2))), (b4, .inl (cb 4, 65, .inl (fun z9 => nI ((w z9).1 / 256)))), (b5, .inl (cb 5, 65, .inl (fun z9 => nI ((w z9).1 % 256)))), (b6, .inl (cb 6, 65, .inr (.inl (fun z9 => (w z9).2.1)))), (b7, .inl (cb 7, 65, .inl (fun z9 => (w z9).2.2)))] H := hP
        have hD : va_D A [(r0, .inr (1, [.int 0, .ref b0, .int (nI 0), .ref b1, .ref b2, .ref b3, .int (nI 0), .ref b4, .ref b5, .ref b6, .ref b7, .int (nI ko), .int (nI mw)])), (b0, .inl (cb 0, 8, .inl (fun z9 => nI (v z9)))), (b1, .inl (cb 1, 2040, .inl (fun z9 => nI ((t z9).1 / 256)))), (b2, .inl (cb 2, 2040, .inl (fun z9 => nI ((t z9).1 % 256)))), (b3, .inl (cb 3, 2040, .inl (fun z9 => (t z9).2))), (b4, .inl (cb 4, 65, .inl (fun z9 => nI ((w z9).1 / 256)))), (b5, .inl (cb 5, 65, .inl (fun z9 => nI ((w z9).1 % 256)))), (b6, .inl (cb 6, 65, .inr (.inl (fun z9 => (w z9).2.1)))), (b7, .inl (cb 7, 65, .inl (fun z9 => (w z9).2.2)))] := hD
        refine lv_aload_n hx hb dY_clear_36 rfl (lv_at hl 0 rfl) ?_
        refine lv_iconst (v := 0) hx hb dY_clear_37 (by decide) ?_
        refine tp_i (y := nI 0) (nI_0.symm) ?_
        refine va_put (D := (dC, dI)) (ci := 1) (v := .int (nI 0)) (ty := .int) (C := RY) (T := TY) (N := 13) hx hb hts in_Y_clear_Y tyY tyY_ok nmY hown hK hP hD hS 0 rfl rfl 11 (by decide) (hts (.fieldLink RY 59 "CausalGateModel" "knownOffers" "I") (by decide +kernel)) (fun _ h9 => h9) rfl (by decide +kernel) rfl rfl (Nat.le_of_ble_eq_true rfl) dY_clear_38 (fun H locs hP hD hS => ?_)
        have hP : va_P (dC, dI) clS [(r0, .inr (1, [.int 0, .ref b0, .int (nI 0), .ref b1, .ref b2, .ref b3, .int (nI 0), .ref b4, .ref b5, .ref b6, .ref b7, .int (nI 0), .int (nI mw)])), (b0, .inl (cb 0, 8, .inl (fun z9 => nI (v z9)))), (b1, .inl (cb 1, 2040, .inl (fun z9 => nI ((t z9).1 / 256)))), (b2, .inl (cb 2, 2040, .inl (fun z9 => nI ((t z9).1 % 256)))), (b3, .inl (cb 3, 2040, .inl (fun z9 => (t z9).2))), (b4, .inl (cb 4, 65, .inl (fun z9 => nI ((w z9).1 / 256)))), (b5, .inl (cb 5, 65, .inl (fun z9 => nI ((w z9).1 % 256)))), (b6, .inl (cb 6, 65, .inr (.inl (fun z9 => (w z9).2.1)))), (b7, .inl (cb 7, 65, .inl (fun z9 => (w z9).2.2)))] H := hP
        have hD : va_D A [(r0, .inr (1, [.int 0, .ref b0, .int (nI 0), .ref b1, .ref b2, .ref b3, .int (nI 0), .ref b4, .ref b5, .ref b6, .ref b7, .int (nI 0), .int (nI mw)])), (b0, .inl (cb 0, 8, .inl (fun z9 => nI (v z9)))), (b1, .inl (cb 1, 2040, .inl (fun z9 => nI ((t z9).1 / 256)))), (b2, .inl (cb 2, 2040, .inl (fun z9 => nI ((t z9).1 % 256)))), (b3, .inl (cb 3, 2040, .inl (fun z9 => (t z9).2))), (b4, .inl (cb 4, 65, .inl (fun z9 => nI ((w z9).1 / 256)))), (b5, .inl (cb 5, 65, .inl (fun z9 => nI ((w z9).1 % 256)))), (b6, .inl (cb 6, 65, .inr (.inl (fun z9 => (w z9).2.1)))), (b7, .inl (cb 7, 65, .inl (fun z9 => (w z9).2.2)))] := hD
        refine lv_aload_n hx hb dY_clear_41 rfl (lv_at hl 0 rfl) ?_
        refine lv_iconst (v := 0) hx hb dY_clear_42 (by decide) ?_
        refine tp_i (y := nI 0) (nI_0.symm) ?_
        refine va_put (D := (dC, dI)) (ci := 1) (v := .int (nI 0)) (ty := .int) (C := RY) (T := TY) (N := 13) hx hb hts in_Y_clear_Y tyY tyY_ok nmY hown hK hP hD hS 0 rfl rfl 12 (by decide) (hts (.fieldLink RY 62 "CausalGateModel" "most" "I") (by decide +kernel)) (fun _ h9 => h9) rfl (by decide +kernel) rfl rfl (Nat.le_of_ble_eq_true rfl) dY_clear_43 (fun H locs hP hD hS => ?_)
        have hP : va_P (dC, dI) clS [(r0, .inr (1, [.int 0, .ref b0, .int (nI 0), .ref b1, .ref b2, .ref b3, .int (nI 0), .ref b4, .ref b5, .ref b6, .ref b7, .int (nI 0), .int (nI 0)])), (b0, .inl (cb 0, 8, .inl (fun z9 => nI (v z9)))), (b1, .inl (cb 1, 2040, .inl (fun z9 => nI ((t z9).1 / 256)))), (b2, .inl (cb 2, 2040, .inl (fun z9 => nI ((t z9).1 % 256)))), (b3, .inl (cb 3, 2040, .inl (fun z9 => (t z9).2))), (b4, .inl (cb 4, 65, .inl (fun z9 => nI ((w z9).1 / 256)))), (b5, .inl (cb 5, 65, .inl (fun z9 => nI ((w z9).1 % 256)))), (b6, .inl (cb 6, 65, .inr (.inl (fun z9 => (w z9).2.1)))), (b7, .inl (cb 7, 65, .inl (fun z9 => (w z9).2.2)))] H := hP
        have hD : va_D A [(r0, .inr (1, [.int 0, .ref b0, .int (nI 0), .ref b1, .ref b2, .ref b3, .int (nI 0), .ref b4, .ref b5, .ref b6, .ref b7, .int (nI 0), .int (nI 0)])), (b0, .inl (cb 0, 8, .inl (fun z9 => nI (v z9)))), (b1, .inl (cb 1, 2040, .inl (fun z9 => nI ((t z9).1 / 256)))), (b2, .inl (cb 2, 2040, .inl (fun z9 => nI ((t z9).1 % 256)))), (b3, .inl (cb 3, 2040, .inl (fun z9 => (t z9).2))), (b4, .inl (cb 4, 65, .inl (fun z9 => nI ((w z9).1 / 256)))), (b5, .inl (cb 5, 65, .inl (fun z9 => nI ((w z9).1 % 256)))), (b6, .inl (cb 6, 65, .inr (.inl (fun z9 => (w z9).2.1)))), (b7, .inl (cb 7, 65, .inl (fun z9 => (w z9).2.2)))] := hD
        have hk8 : v = zcS 8 0 cl := hk9
        subst hk8
        exact mv_ret hx hb hr hlocks hAe hP hD hS dY_clear_46
      · exact absurd (nI_le (by omega) (by omega)) c_10
    | succ n ih =>
      intro a v ha hk9 H locs hP hD hS ls hl
      refine lv_iload_n hx hb dY_clear_7 rfl (lv_at hl 1 rfl) ?_
      refine lv_bipush (v := 8) hx hb dY_clear_8 (by decide) ?_
      refine tp_i (y := nI 8) (rfl) ?_
      refine lv_icmp_ge (tgt := 26) hx hb dY_clear_10 (by decide) (fun c_10 => ?_) (fun c_10 => ?_)
      · exact absurd ((nI_leI (by omega) (by omega)).mp c_10) (by omega)
      · refine lv_aload_n hx hb dY_clear_13 rfl (lv_at hl 0 rfl) ?_
        refine va_get (D := (dC, dI)) (ci := 1) (v := .ref b0) (C := RY) (T := TY) (N := 13) hx hb hts in_Y_clear_Y hown hK hP 0 rfl rfl 1 (by decide) (hts (.fieldLink RY 7 "CausalGateModel" "clock" "[I") (by decide +kernel)) (fun _ h9 => h9) rfl dY_clear_14 ?_
        refine lv_iload_n hx hb dY_clear_17 rfl (lv_at hl 1 rfl) ?_
        refine lv_iconst (v := 0) hx hb dY_clear_18 (by decide) ?_
        refine tp_i (y := nI 0) (nI_0.symm) ?_
        refine va_iast hx hb hK hP hD hS 1 0 rfl rfl (vp_in_nI (by omega) (by decide)) dY_clear_19 (fun H locs hP hD hS => ?_)
        rw [show upd (fun z9 => nI (v z9)) (nI a).toNatClampNeg (nI 0) = fun z9 => nI (va_up v a 0 z9) from by rw [nI_clamp (by omega)]; exact uc_ v a 0] at hP hD
        have hP : va_P (dC, dI) clS [(r0, .inr (1, [.int 0, .ref b0, .int (nI tn), .ref b1, .ref b2, .ref b3, .int (nI wn), .ref b4, .ref b5, .ref b6, .ref b7, .int (nI ko), .int (nI mw)])), (b0, .inl (cb 0, 8, .inl (fun z9 => nI (va_up v a 0 z9)))), (b1, .inl (cb 1, 2040, .inl (fun z9 => nI ((t z9).1 / 256)))), (b2, .inl (cb 2, 2040, .inl (fun z9 => nI ((t z9).1 % 256)))), (b3, .inl (cb 3, 2040, .inl (fun z9 => (t z9).2))), (b4, .inl (cb 4, 65, .inl (fun z9 => nI ((w z9).1 / 256)))), (b5, .inl (cb 5, 65, .inl (fun z9 => nI ((w z9).1 % 256)))), (b6, .inl (cb 6, 65, .inr (.inl (fun z9 => (w z9).2.1)))), (b7, .inl (cb 7, 65, .inl (fun z9 => (w z9).2.2)))] H := hP
        have hD : va_D A [(r0, .inr (1, [.int 0, .ref b0, .int (nI tn), .ref b1, .ref b2, .ref b3, .int (nI wn), .ref b4, .ref b5, .ref b6, .ref b7, .int (nI ko), .int (nI mw)])), (b0, .inl (cb 0, 8, .inl (fun z9 => nI (va_up v a 0 z9)))), (b1, .inl (cb 1, 2040, .inl (fun z9 => nI ((t z9).1 / 256)))), (b2, .inl (cb 2, 2040, .inl (fun z9 => nI ((t z9).1 % 256)))), (b3, .inl (cb 3, 2040, .inl (fun z9 => (t z9).2))), (b4, .inl (cb 4, 65, .inl (fun z9 => nI ((w z9).1 / 256)))), (b5, .inl (cb 5, 65, .inl (fun z9 => nI ((w z9).1 % 256)))), (b6, .inl (cb 6, 65, .inr (.inl (fun z9 => (w z9).2.1)))), (b7, .inl (cb 7, 65, .inl (fun z9 => (w z9).2.2)))] := hD
        refine lv_iinc (v := (nI (a + 1))) (lv' := [(1, .int (nI (a + 1))), (0, .ref r0)]) hx hb dY_clear_20 hl (k := 1) rfl (nI_1 a) (by decide) rfl (fun ls hl => ?_)
        refine lv_goto (tgt := 7) hx hb dY_clear_23 (by decide) ?_
        exact ih (a + 1) (va_up v a 0) (by omega) (by rw [← hk9]; rfl) _ _ hP hD hS ls (lv_sub hl [1, 0] rfl)
  exact loop 8 0 cl (by omega) rfl _ _ hP hD hS ls (lv_sub hl [1, 0] rfl)

set_option maxRecDepth 20000 in
theorem in_Y_known_Y : ∀ w ∈ wsY0, w ∈ wsY_known := by decide +kernel

set_option maxHeartbeats 4000000 in
set_option maxRecDepth 100000 in
theorem kY_known (l : Launch) (dC : Nat → ClassId) (dI : Nat → Nat → Nat) (cb : Nat → ClassId) (r0 b0 b1 b2 b3 b4 b5 b6 b7 : Nat) (th : Int32) (cl : Nat → Nat) (t : TF) (tn : Nat) (w : WF) (wn : Nat) (ko mw : Nat) (sz : Nat) (hcl : ∀ a, a < 8 → cl a < 256) (hwn : wn ≤ 65) (hw : ∀ j, j < wn → (w j).1 < 2048) (x y : Int32) : Met l yY_known wsY_known ({ frames := 1, cells := 0, slots := 0, locals := 24 }) (Pm [.ref r0, .int x, .int y] (dC, dI) clS [(cb 0, .int), (cb 1, .int), (cb 2, .int), (cb 3, .int), (cb 4, .int), (cb 5, .int), (cb 6, .long), (cb 7, .int)] [(r0, .inr (1, [.int th, .ref b0, .int (nI tn), .ref b1, .ref b2, .ref b3, .int (nI wn), .ref b4, .ref b5, .ref b6, .ref b7, .int (nI ko), .int (nI mw)])), (b0, .inl (cb 0, 8, .inl (fun z9 => nI (cl z9)))), (b1, .inl (cb 1, 2040, .inl (fun z9 => nI ((t z9).1 / 256)))), (b2, .inl (cb 2, 2040, .inl (fun z9 => nI ((t z9).1 % 256)))), (b3, .inl (cb 3, 2040, .inl (fun z9 => (t z9).2))), (b4, .inl (cb 4, 65, .inl (fun z9 => nI ((w z9).1 / 256)))), (b5, .inl (cb 5, 65, .inl (fun z9 => nI ((w z9).1 % 256)))), (b6, .inl (cb 6, 65, .inr (.inl (fun z9 => (w z9).2.1)))), (b7, .inl (cb 7, 65, .inl (fun z9 => (w z9).2.2)))] sz) (QmI (bI (kwM cl w wn x y)) (dC, dI) clS [(r0, .inr (1, [.int th, .ref b0, .int (nI tn), .ref b1, .ref b2, .ref b3, .int (nI wn), .ref b4, .ref b5, .ref b6, .ref b7, .int (nI ko), .int (nI mw)])), (b0, .inl (cb 0, 8, .inl (fun z9 => nI (cl z9)))), (b1, .inl (cb 1, 2040, .inl (fun z9 => nI ((t z9).1 / 256)))), (b2, .inl (cb 2, 2040, .inl (fun z9 => nI ((t z9).1 % 256)))), (b3, .inl (cb 3, 2040, .inl (fun z9 => (t z9).2))), (b4, .inl (cb 4, 65, .inl (fun z9 => nI ((w z9).1 / 256)))), (b5, .inl (cb 5, 65, .inl (fun z9 => nI ((w z9).1 % 256)))), (b6, .inl (cb 6, 65, .inr (.inl (fun z9 => (w z9).2.1)))), (b7, .inl (cb 7, 65, .inl (fun z9 => (w z9).2.2)))] [(r0, .inr (1, [.int 0, .ref b0, .int (nI tn), .ref b1, .ref b2, .ref b3, .int (nI wn), .ref b4, .ref b5, .ref b6, .ref b7, .int (nI ko), .int (nI mw)])), (b0, .inl (cb 0, 8, .inl (fun z9 => nI (cl z9)))), (b1, .inl (cb 1, 2040, .inl (fun z9 => nI ((t z9).1 / 256)))), (b2, .inl (cb 2, 2040, .inl (fun z9 => nI ((t z9).1 % 256)))), (b3, .inl (cb 3, 2040, .inl (fun z9 => (t z9).2))), (b4, .inl (cb 4, 65, .inl (fun z9 => nI ((w z9).1 / 256)))), (b5, .inl (cb 5, 65, .inl (fun z9 => nI ((w z9).1 % 256)))), (b6, .inl (cb 6, 65, .inr (.inl (fun z9 => (w z9).2.1)))), (b7, .inl (cb 7, 65, .inl (fun z9 => (w z9).2.2)))] sz) 0 0 (va_A [(r0, .inr (1, [.int th, .ref b0, .int (nI tn), .ref b1, .ref b2, .ref b3, .int (nI wn), .ref b4, .ref b5, .ref b6, .ref b7, .int (nI ko), .int (nI mw)])), (b0, .inl (cb 0, 8, .inl (fun z9 => nI (cl z9)))), (b1, .inl (cb 1, 2040, .inl (fun z9 => nI ((t z9).1 / 256)))), (b2, .inl (cb 2, 2040, .inl (fun z9 => nI ((t z9).1 % 256)))), (b3, .inl (cb 3, 2040, .inl (fun z9 => (t z9).2))), (b4, .inl (cb 4, 65, .inl (fun z9 => nI ((w z9).1 / 256)))), (b5, .inl (cb 5, 65, .inl (fun z9 => nI ((w z9).1 % 256)))), (b6, .inl (cb 6, 65, .inr (.inl (fun z9 => (w z9).2.1)))), (b7, .inl (cb 7, 65, .inl (fun z9 => (w z9).2.2)))] sz) := by
  refine Met.ofW (cc := cY_known) (maxL := 3) (ret := (some .boolean)) (by decide) rfl ?_
  intro p e s m args below meth c s₁ B hml hv
  obtain ⟨hargs, hsz, hP, hK, hD0⟩ := hv
  have hx := B.exec
  have hb := B.bytes
  have hr := B.returns
  have hts := atoms_spec (ws := wsY_known) B.pre
  have hown : s.vm.findClass RY = some m.cls := findClass_of_methodNamed B.named
  have hlocks := B.notSynchronized
  subst hsz
  have hD := hD0.self (sz := s.heap.size)
  obtain ⟨A, hAe⟩ : ∃ A, A = va_A [(r0, .inr (1, [.int th, .ref b0, .int (nI tn), .ref b1, .ref b2, .ref b3, .int (nI wn), .ref b4, .ref b5, .ref b6, .ref b7, .int (nI ko), .int (nI mw)])), (b0, .inl (cb 0, 8, .inl (fun z9 => nI (cl z9)))), (b1, .inl (cb 1, 2040, .inl (fun z9 => nI ((t z9).1 / 256)))), (b2, .inl (cb 2, 2040, .inl (fun z9 => nI ((t z9).1 % 256)))), (b3, .inl (cb 3, 2040, .inl (fun z9 => (t z9).2))), (b4, .inl (cb 4, 65, .inl (fun z9 => nI ((w z9).1 / 256)))), (b5, .inl (cb 5, 65, .inl (fun z9 => nI ((w z9).1 % 256)))), (b6, .inl (cb 6, 65, .inr (.inl (fun z9 => (w z9).2.1)))), (b7, .inl (cb 7, 65, .inl (fun z9 => (w z9).2.2)))] s.heap.size := ⟨_, rfl⟩
  rw [← hAe] at hD ⊢
  have hA : ∀ q : Nat, s.heap.size ≤ q → A q := fun q h => by rw [hAe]; exact Or.inr h
  have hS : va_S A s.heap s.heap [] := va_S.rf
  have hP : va_P (dC, dI) clS [(r0, .inr (1, [.int th, .ref b0, .int (nI tn), .ref b1, .ref b2, .ref b3, .int (nI wn), .ref b4, .ref b5, .ref b6, .ref b7, .int (nI ko), .int (nI mw)])), (b0, .inl (cb 0, 8, .inl (fun z9 => nI (cl z9)))), (b1, .inl (cb 1, 2040, .inl (fun z9 => nI ((t z9).1 / 256)))), (b2, .inl (cb 2, 2040, .inl (fun z9 => nI ((t z9).1 % 256)))), (b3, .inl (cb 3, 2040, .inl (fun z9 => (t z9).2))), (b4, .inl (cb 4, 65, .inl (fun z9 => nI ((w z9).1 / 256)))), (b5, .inl (cb 5, 65, .inl (fun z9 => nI ((w z9).1 % 256)))), (b6, .inl (cb 6, 65, .inr (.inl (fun z9 => (w z9).2.1)))), (b7, .inl (cb 7, 65, .inl (fun z9 => (w z9).2.2)))] s.heap := hP
  have hl := lv_entry ([.ref r0, .int x, .int y]) (n := 3) (Nat.le_of_ble_eq_true rfl)
  have hE : entryFrame m args 3 = F0 m 0 ((lg_sl ([.ref r0, .int x, .int y]) ++ List.replicate (3 - (lg_sl ([.ref r0, .int x, .int y])).length) Slot.unset).toArray) [] := by rw [hargs]; exact lg_entry_eq m ([.ref r0, .int x, .int y]) 3
  rw [hE]
  generalize (lg_sl ([.ref r0, .int x, .int y]) ++ List.replicate (3 - (lg_sl ([.ref r0, .int x, .int y])).length) Slot.unset).toArray = ls at hl ⊢
  have hl : lv_has ls 3 [(0, .ref r0), (1, .int x), (2, .int y)] := hl
  refine lv_aload_n hx hb dY_known_0 rfl (lv_at hl 0 rfl) ?_
  refine lv_iconst (v := 0) hx hb dY_known_1 (by decide) ?_
  refine va_put (D := (dC, dI)) (ci := 1) (v := .int 0) (ty := .int) (C := RY) (T := TY) (N := 13) hx hb hts in_Y_known_Y tyY tyY_ok nmY hown hK hP hD hS 0 rfl rfl 0 (by decide) (hts (.fieldLink RY 35 "CausalGateModel" "thrown" "I") (by decide +kernel)) (fun _ h9 => h9) rfl (by decide +kernel) rfl rfl (Nat.le_of_ble_eq_true rfl) dY_known_2 (fun H locs hP hD hS => ?_)
  have hP : va_P (dC, dI) clS [(r0, .inr (1, [.int 0, .ref b0, .int (nI tn), .ref b1, .ref b2, .ref b3, .int (nI wn), .ref b4, .ref b5, .ref b6, .ref b7, .int (nI ko), .int (nI mw)])), (b0, .inl (cb 0, 8, .inl (fun z9 => nI (cl z9)))), (b1, .inl (cb 1, 2040, .inl (fun z9 => nI ((t z9).1 / 256)))), (b2, .inl (cb 2, 2040, .inl (fun z9 => nI ((t z9).1 % 256)))), (b3, .inl (cb 3, 2040, .inl (fun z9 => (t z9).2))), (b4, .inl (cb 4, 65, .inl (fun z9 => nI ((w z9).1 / 256)))), (b5, .inl (cb 5, 65, .inl (fun z9 => nI ((w z9).1 % 256)))), (b6, .inl (cb 6, 65, .inr (.inl (fun z9 => (w z9).2.1)))), (b7, .inl (cb 7, 65, .inl (fun z9 => (w z9).2.2)))] H := hP
  have hD : va_D A [(r0, .inr (1, [.int 0, .ref b0, .int (nI tn), .ref b1, .ref b2, .ref b3, .int (nI wn), .ref b4, .ref b5, .ref b6, .ref b7, .int (nI ko), .int (nI mw)])), (b0, .inl (cb 0, 8, .inl (fun z9 => nI (cl z9)))), (b1, .inl (cb 1, 2040, .inl (fun z9 => nI ((t z9).1 / 256)))), (b2, .inl (cb 2, 2040, .inl (fun z9 => nI ((t z9).1 % 256)))), (b3, .inl (cb 3, 2040, .inl (fun z9 => (t z9).2))), (b4, .inl (cb 4, 65, .inl (fun z9 => nI ((w z9).1 / 256)))), (b5, .inl (cb 5, 65, .inl (fun z9 => nI ((w z9).1 % 256)))), (b6, .inl (cb 6, 65, .inr (.inl (fun z9 => (w z9).2.1)))), (b7, .inl (cb 7, 65, .inl (fun z9 => (w z9).2.2)))] := hD
  refine lv_iload_n hx hb dY_known_5 rfl (lv_at hl 1 rfl) ?_
  refine lv_if_lt (tgt := 39) hx hb dY_known_6 (by decide) (fun c_6 => ?_) (fun c_6 => ?_)
  · have e9 : kwM cl w wn x y = false := by simp [kwM, isA, c_6]
    refine lv_iconst (v := 0) hx hb dY_known_39 (by decide) ?_
    exact mz_ret hx hb hr hlocks rfl (by rw [e9]; rfl) hAe hP hD hS dY_known_40
  · refine lv_iload_n hx hb dY_known_9 rfl (lv_at hl 1 rfl) ?_
    refine lv_bipush (v := 8) hx hb dY_known_10 (by decide) ?_
    refine lv_icmp_ge (tgt := 39) hx hb dY_known_12 (by decide) (fun c_12 => ?_) (fun c_12 => ?_)
    · have e9 : kwM cl w wn x y = false := by simp [kwM, isA, c_12]
      refine lv_iconst (v := 0) hx hb dY_known_39 (by decide) ?_
      exact mz_ret hx hb hr hlocks rfl (by rw [e9]; rfl) hAe hP hD hS dY_known_40
    · have c9 : isA x = true := by simp [isA, c_6, c_12]
      obtain ⟨a, ha, rfl⟩ := isA_nI c9
      refine lv_iload_n hx hb dY_known_15 rfl (lv_at hl 2 rfl) ?_
      refine lv_if_le (tgt := 39) hx hb dY_known_16 (by decide) (fun c_16 => ?_) (fun c_16 => ?_)
      · have e9 : kwM cl w wn (nI a) y = false := by simp [kwM, isS_lo c_16]
        refine lv_iconst (v := 0) hx hb dY_known_39 (by decide) ?_
        exact mz_ret hx hb hr hlocks rfl (by rw [e9]; rfl) hAe hP hD hS dY_known_40
      · refine lv_iload_n hx hb dY_known_19 rfl (lv_at hl 2 rfl) ?_
        refine lv_sipush (v := 256) hx hb dY_known_20 (by decide) ?_
        refine lv_icmp_ge (tgt := 39) hx hb dY_known_23 (by decide) (fun c_23 => ?_) (fun c_23 => ?_)
        · have e9 : kwM cl w wn (nI a) y = false := by simp [kwM, isS_hi c_23]
          refine lv_iconst (v := 0) hx hb dY_known_39 (by decide) ?_
          exact mz_ret hx hb hr hlocks rfl (by rw [e9]; rfl) hAe hP hD hS dY_known_40
        · have c8 : isS y = true := isS_in c_16 c_23
          obtain ⟨q, hq1, hq, rfl⟩ := isS_nI c8
          refine lv_aload_n hx hb dY_known_26 rfl (lv_at hl 0 rfl) ?_
          refine lv_iload_n hx hb dY_known_27 rfl (lv_at hl 1 rfl) ?_
          refine lv_iload_n hx hb dY_known_28 rfl (lv_at hl 2 rfl) ?_
          refine rd_i (W.runV (As := [.int (nI a), .int (nI q)]) (rest := []) ⟨hx, hb, hml, hown, hts⟩ (kY_isKnown l dC dI cb r0 b0 b1 b2 b3 b4 b5 b6 b7 0 cl t tn w wn ko mw hcl hwn hw a q (by omega) (by omega)) (cwV 2 hts gY_known_Y_isKnown rfl rfl rfl (by decide +kernel) ⟨Nat.le_of_ble_eq_true rfl, Nat.le_of_ble_eq_true rfl⟩) (pr_V (ci := 1) (q0 := 0) hK hP rfl rfl) rfl rfl hl.1 rfl (lv_room (Nat.le_of_ble_eq_true rfl)) dY_known_29 ⟨Nat.zero_le _, Nat.zero_le _⟩) ?_
          refine lv_if_eq (tgt := 39) hx hb dY_known_32 (by decide) (fun c_32 => ?_) (fun c_32 => ?_)
          · have e9 : kwM cl w wn (nI a) (nI q) = false := by simp [kwM, c9, c8, nI_clamp (show a < 2 ^ 31 by omega), nI_clamp (show q < 2 ^ 31 by omega), bI_0.mp c_32]
            refine lv_iconst (v := 0) hx hb dY_known_39 (by decide) ?_
            exact mz_ret hx hb hr hlocks rfl (by rw [e9]; rfl) hAe hP hD hS dY_known_40
          · have e9 : kwM cl w wn (nI a) (nI q) = true := by simp only [kwM, c9, c8, nI_clamp (show a < 2 ^ 31 by omega), nI_clamp (show q < 2 ^ 31 by omega)]; cases hq9 : knM cl w wn a q; exact absurd (by rw [hq9]; rfl) c_32; rfl
            refine lv_iconst (v := 1) hx hb dY_known_35 (by decide) ?_
            refine lv_goto (tgt := 40) hx hb dY_known_36 (by decide) ?_
            exact mz_ret hx hb hr hlocks rfl (by rw [e9]; rfl) hAe hP hD hS dY_known_40

set_option maxRecDepth 20000 in
theorem in_Y_clock_Y : ∀ w ∈ wsY0, w ∈ wsY_clock := by decide +kernel

set_option maxHeartbeats 4000000 in
set_option maxRecDepth 100000 in
theorem kY_clock (l : Launch) (dC : Nat → ClassId) (dI : Nat → Nat → Nat) (cb : Nat → ClassId) (r0 b0 b1 b2 b3 b4 b5 b6 b7 : Nat) (th : Int32) (cl : Nat → Nat) (t : TF) (tn : Nat) (w : WF) (wn : Nat) (ko mw : Nat) (sz : Nat)  : Met l yY_clock wsY_clock ({ frames := 0, cells := 0, slots := 0, locals := 0 }) (Pm [.ref r0] (dC, dI) clS [(cb 0, .int), (cb 1, .int), (cb 2, .int), (cb 3, .int), (cb 4, .int), (cb 5, .int), (cb 6, .long), (cb 7, .int)] [(r0, .inr (1, [.int th, .ref b0, .int (nI tn), .ref b1, .ref b2, .ref b3, .int (nI wn), .ref b4, .ref b5, .ref b6, .ref b7, .int (nI ko), .int (nI mw)])), (b0, .inl (cb 0, 8, .inl (fun z9 => nI (cl z9)))), (b1, .inl (cb 1, 2040, .inl (fun z9 => nI ((t z9).1 / 256)))), (b2, .inl (cb 2, 2040, .inl (fun z9 => nI ((t z9).1 % 256)))), (b3, .inl (cb 3, 2040, .inl (fun z9 => (t z9).2))), (b4, .inl (cb 4, 65, .inl (fun z9 => nI ((w z9).1 / 256)))), (b5, .inl (cb 5, 65, .inl (fun z9 => nI ((w z9).1 % 256)))), (b6, .inl (cb 6, 65, .inr (.inl (fun z9 => (w z9).2.1)))), (b7, .inl (cb 7, 65, .inl (fun z9 => (w z9).2.2)))] sz) (QmL (ckM cl 8 0) (dC, dI) clS [(r0, .inr (1, [.int th, .ref b0, .int (nI tn), .ref b1, .ref b2, .ref b3, .int (nI wn), .ref b4, .ref b5, .ref b6, .ref b7, .int (nI ko), .int (nI mw)])), (b0, .inl (cb 0, 8, .inl (fun z9 => nI (cl z9)))), (b1, .inl (cb 1, 2040, .inl (fun z9 => nI ((t z9).1 / 256)))), (b2, .inl (cb 2, 2040, .inl (fun z9 => nI ((t z9).1 % 256)))), (b3, .inl (cb 3, 2040, .inl (fun z9 => (t z9).2))), (b4, .inl (cb 4, 65, .inl (fun z9 => nI ((w z9).1 / 256)))), (b5, .inl (cb 5, 65, .inl (fun z9 => nI ((w z9).1 % 256)))), (b6, .inl (cb 6, 65, .inr (.inl (fun z9 => (w z9).2.1)))), (b7, .inl (cb 7, 65, .inl (fun z9 => (w z9).2.2)))] [(r0, .inr (1, [.int 0, .ref b0, .int (nI tn), .ref b1, .ref b2, .ref b3, .int (nI wn), .ref b4, .ref b5, .ref b6, .ref b7, .int (nI ko), .int (nI mw)])), (b0, .inl (cb 0, 8, .inl (fun z9 => nI (cl z9)))), (b1, .inl (cb 1, 2040, .inl (fun z9 => nI ((t z9).1 / 256)))), (b2, .inl (cb 2, 2040, .inl (fun z9 => nI ((t z9).1 % 256)))), (b3, .inl (cb 3, 2040, .inl (fun z9 => (t z9).2))), (b4, .inl (cb 4, 65, .inl (fun z9 => nI ((w z9).1 / 256)))), (b5, .inl (cb 5, 65, .inl (fun z9 => nI ((w z9).1 % 256)))), (b6, .inl (cb 6, 65, .inr (.inl (fun z9 => (w z9).2.1)))), (b7, .inl (cb 7, 65, .inl (fun z9 => (w z9).2.2)))] sz) 0 0 (va_A [(r0, .inr (1, [.int th, .ref b0, .int (nI tn), .ref b1, .ref b2, .ref b3, .int (nI wn), .ref b4, .ref b5, .ref b6, .ref b7, .int (nI ko), .int (nI mw)])), (b0, .inl (cb 0, 8, .inl (fun z9 => nI (cl z9)))), (b1, .inl (cb 1, 2040, .inl (fun z9 => nI ((t z9).1 / 256)))), (b2, .inl (cb 2, 2040, .inl (fun z9 => nI ((t z9).1 % 256)))), (b3, .inl (cb 3, 2040, .inl (fun z9 => (t z9).2))), (b4, .inl (cb 4, 65, .inl (fun z9 => nI ((w z9).1 / 256)))), (b5, .inl (cb 5, 65, .inl (fun z9 => nI ((w z9).1 % 256)))), (b6, .inl (cb 6, 65, .inr (.inl (fun z9 => (w z9).2.1)))), (b7, .inl (cb 7, 65, .inl (fun z9 => (w z9).2.2)))] sz) := by
  refine Met.ofW (cc := cY_clock) (maxL := 4) (ret := (some .long)) (by decide) rfl ?_
  intro p e s m args below meth c s₁ B hml hv
  obtain ⟨hargs, hsz, hP, hK, hD0⟩ := hv
  have hx := B.exec
  have hb := B.bytes
  have hr := B.returns
  have hts := atoms_spec (ws := wsY_clock) B.pre
  have hown : s.vm.findClass RY = some m.cls := findClass_of_methodNamed B.named
  have hlocks := B.notSynchronized
  subst hsz
  have hD := hD0.self (sz := s.heap.size)
  obtain ⟨A, hAe⟩ : ∃ A, A = va_A [(r0, .inr (1, [.int th, .ref b0, .int (nI tn), .ref b1, .ref b2, .ref b3, .int (nI wn), .ref b4, .ref b5, .ref b6, .ref b7, .int (nI ko), .int (nI mw)])), (b0, .inl (cb 0, 8, .inl (fun z9 => nI (cl z9)))), (b1, .inl (cb 1, 2040, .inl (fun z9 => nI ((t z9).1 / 256)))), (b2, .inl (cb 2, 2040, .inl (fun z9 => nI ((t z9).1 % 256)))), (b3, .inl (cb 3, 2040, .inl (fun z9 => (t z9).2))), (b4, .inl (cb 4, 65, .inl (fun z9 => nI ((w z9).1 / 256)))), (b5, .inl (cb 5, 65, .inl (fun z9 => nI ((w z9).1 % 256)))), (b6, .inl (cb 6, 65, .inr (.inl (fun z9 => (w z9).2.1)))), (b7, .inl (cb 7, 65, .inl (fun z9 => (w z9).2.2)))] s.heap.size := ⟨_, rfl⟩
  rw [← hAe] at hD ⊢
  have hA : ∀ q : Nat, s.heap.size ≤ q → A q := fun q h => by rw [hAe]; exact Or.inr h
  have hS : va_S A s.heap s.heap [] := va_S.rf
  have hP : va_P (dC, dI) clS [(r0, .inr (1, [.int th, .ref b0, .int (nI tn), .ref b1, .ref b2, .ref b3, .int (nI wn), .ref b4, .ref b5, .ref b6, .ref b7, .int (nI ko), .int (nI mw)])), (b0, .inl (cb 0, 8, .inl (fun z9 => nI (cl z9)))), (b1, .inl (cb 1, 2040, .inl (fun z9 => nI ((t z9).1 / 256)))), (b2, .inl (cb 2, 2040, .inl (fun z9 => nI ((t z9).1 % 256)))), (b3, .inl (cb 3, 2040, .inl (fun z9 => (t z9).2))), (b4, .inl (cb 4, 65, .inl (fun z9 => nI ((w z9).1 / 256)))), (b5, .inl (cb 5, 65, .inl (fun z9 => nI ((w z9).1 % 256)))), (b6, .inl (cb 6, 65, .inr (.inl (fun z9 => (w z9).2.1)))), (b7, .inl (cb 7, 65, .inl (fun z9 => (w z9).2.2)))] s.heap := hP
  have hl := lv_entry ([.ref r0]) (n := 4) (Nat.le_of_ble_eq_true rfl)
  have hE : entryFrame m args 4 = F0 m 0 ((lg_sl ([.ref r0]) ++ List.replicate (4 - (lg_sl ([.ref r0])).length) Slot.unset).toArray) [] := by rw [hargs]; exact lg_entry_eq m ([.ref r0]) 4
  rw [hE]
  generalize (lg_sl ([.ref r0]) ++ List.replicate (4 - (lg_sl ([.ref r0])).length) Slot.unset).toArray = ls at hl ⊢
  have hl : lv_has ls 4 [(0, .ref r0)] := hl
  refine lv_aload_n hx hb dY_clock_0 rfl (lv_at hl 0 rfl) ?_
  refine lv_iconst (v := 0) hx hb dY_clock_1 (by decide) ?_
  refine va_put (D := (dC, dI)) (ci := 1) (v := .int 0) (ty := .int) (C := RY) (T := TY) (N := 13) hx hb hts in_Y_clock_Y tyY tyY_ok nmY hown hK hP hD hS 0 rfl rfl 0 (by decide) (hts (.fieldLink RY 35 "CausalGateModel" "thrown" "I") (by decide +kernel)) (fun _ h9 => h9) rfl (by decide +kernel) rfl rfl (Nat.le_of_ble_eq_true rfl) dY_clock_2 (fun H locs hP hD hS => ?_)
  have hP : va_P (dC, dI) clS [(r0, .inr (1, [.int 0, .ref b0, .int (nI tn), .ref b1, .ref b2, .ref b3, .int (nI wn), .ref b4, .ref b5, .ref b6, .ref b7, .int (nI ko), .int (nI mw)])), (b0, .inl (cb 0, 8, .inl (fun z9 => nI (cl z9)))), (b1, .inl (cb 1, 2040, .inl (fun z9 => nI ((t z9).1 / 256)))), (b2, .inl (cb 2, 2040, .inl (fun z9 => nI ((t z9).1 % 256)))), (b3, .inl (cb 3, 2040, .inl (fun z9 => (t z9).2))), (b4, .inl (cb 4, 65, .inl (fun z9 => nI ((w z9).1 / 256)))), (b5, .inl (cb 5, 65, .inl (fun z9 => nI ((w z9).1 % 256)))), (b6, .inl (cb 6, 65, .inr (.inl (fun z9 => (w z9).2.1)))), (b7, .inl (cb 7, 65, .inl (fun z9 => (w z9).2.2)))] H := hP
  have hD : va_D A [(r0, .inr (1, [.int 0, .ref b0, .int (nI tn), .ref b1, .ref b2, .ref b3, .int (nI wn), .ref b4, .ref b5, .ref b6, .ref b7, .int (nI ko), .int (nI mw)])), (b0, .inl (cb 0, 8, .inl (fun z9 => nI (cl z9)))), (b1, .inl (cb 1, 2040, .inl (fun z9 => nI ((t z9).1 / 256)))), (b2, .inl (cb 2, 2040, .inl (fun z9 => nI ((t z9).1 % 256)))), (b3, .inl (cb 3, 2040, .inl (fun z9 => (t z9).2))), (b4, .inl (cb 4, 65, .inl (fun z9 => nI ((w z9).1 / 256)))), (b5, .inl (cb 5, 65, .inl (fun z9 => nI ((w z9).1 % 256)))), (b6, .inl (cb 6, 65, .inr (.inl (fun z9 => (w z9).2.1)))), (b7, .inl (cb 7, 65, .inl (fun z9 => (w z9).2.2)))] := hD
  refine lv_lconst (v := 0) hx hb dY_clock_5 (by decide) ?_
  refine lv_lstore_n (lv' := [(1, .long 0), (0, .ref r0)]) hx hb dY_clock_6 rfl hl (by decide) rfl (fun ls hl => ?_)
  refine lv_bipush (v := 7) hx hb dY_clock_7 (by decide) ?_
  refine tp_i (y := dN 8) (rfl) ?_
  refine lv_istore_n (lv' := [(3, .int (dN 8)), (1, .long 0), (0, .ref r0)]) hx hb dY_clock_9 rfl hl (by decide) rfl (fun ls hl => ?_)
  have loop : ∀ (n : Nat) (v : Int64), n ≤ 8 → ckM cl n v = ckM cl 8 0 → ∀ (H : Heap) (locs : List Loc), va_P (dC, dI) clS [(r0, .inr (1, [.int 0, .ref b0, .int (nI tn), .ref b1, .ref b2, .ref b3, .int (nI wn), .ref b4, .ref b5, .ref b6, .ref b7, .int (nI ko), .int (nI mw)])), (b0, .inl (cb 0, 8, .inl (fun z9 => nI (cl z9)))), (b1, .inl (cb 1, 2040, .inl (fun z9 => nI ((t z9).1 / 256)))), (b2, .inl (cb 2, 2040, .inl (fun z9 => nI ((t z9).1 % 256)))), (b3, .inl (cb 3, 2040, .inl (fun z9 => (t z9).2))), (b4, .inl (cb 4, 65, .inl (fun z9 => nI ((w z9).1 / 256)))), (b5, .inl (cb 5, 65, .inl (fun z9 => nI ((w z9).1 % 256)))), (b6, .inl (cb 6, 65, .inr (.inl (fun z9 => (w z9).2.1)))), (b7, .inl (cb 7, 65, .inl (fun z9 => (w z9).2.2)))] H → va_D A [(r0, .inr (1, [.int 0, .ref b0, .int (nI tn), .ref b1, .ref b2, .ref b3, .int (nI wn), .ref b4, .ref b5, .ref b6, .ref b7, .int (nI ko), .int (nI mw)])), (b0, .inl (cb 0, 8, .inl (fun z9 => nI (cl z9)))), (b1, .inl (cb 1, 2040, .inl (fun z9 => nI ((t z9).1 / 256)))), (b2, .inl (cb 2, 2040, .inl (fun z9 => nI ((t z9).1 % 256)))), (b3, .inl (cb 3, 2040, .inl (fun z9 => (t z9).2))), (b4, .inl (cb 4, 65, .inl (fun z9 => nI ((w z9).1 / 256)))), (b5, .inl (cb 5, 65, .inl (fun z9 => nI ((w z9).1 % 256)))), (b6, .inl (cb 6, 65, .inr (.inl (fun z9 => (w z9).2.1)))), (b7, .inl (cb 7, 65, .inl (fun z9 => (w z9).2.2)))] → va_S A s.heap H locs → ∀ ls : Array Slot, lv_has ls 4 [(0, .ref r0), (1, .long v), (3, .int (dN n))] → W p l e (headSpec wsY_clock ({ frames := 0, cells := 0, slots := 0, locals := 0 })).room s m args below meth c H locs 0 0 (MQ below (QmL (ckM cl 8 0) (dC, dI) clS [(r0, .inr (1, [.int th, .ref b0, .int (nI tn), .ref b1, .ref b2, .ref b3, .int (nI wn), .ref b4, .ref b5, .ref b6, .ref b7, .int (nI ko), .int (nI mw)])), (b0, .inl (cb 0, 8, .inl (fun z9 => nI (cl z9)))), (b1, .inl (cb 1, 2040, .inl (fun z9 => nI ((t z9).1 / 256)))), (b2, .inl (cb 2, 2040, .inl (fun z9 => nI ((t z9).1 % 256)))), (b3, .inl (cb 3, 2040, .inl (fun z9 => (t z9).2))), (b4, .inl (cb 4, 65, .inl (fun z9 => nI ((w z9).1 / 256)))), (b5, .inl (cb 5, 65, .inl (fun z9 => nI ((w z9).1 % 256)))), (b6, .inl (cb 6, 65, .inr (.inl (fun z9 => (w z9).2.1)))), (b7, .inl (cb 7, 65, .inl (fun z9 => (w z9).2.2)))] [(r0, .inr (1, [.int 0, .ref b0, .int (nI tn), .ref b1, .ref b2, .ref b3, .int (nI wn), .ref b4, .ref b5, .ref b6, .ref b7, .int (nI ko), .int (nI mw)])), (b0, .inl (cb 0, 8, .inl (fun z9 => nI (cl z9)))), (b1, .inl (cb 1, 2040, .inl (fun z9 => nI ((t z9).1 / 256)))), (b2, .inl (cb 2, 2040, .inl (fun z9 => nI ((t z9).1 % 256)))), (b3, .inl (cb 3, 2040, .inl (fun z9 => (t z9).2))), (b4, .inl (cb 4, 65, .inl (fun z9 => nI ((w z9).1 / 256)))), (b5, .inl (cb 5, 65, .inl (fun z9 => nI ((w z9).1 % 256)))), (b6, .inl (cb 6, 65, .inr (.inl (fun z9 => (w z9).2.1)))), (b7, .inl (cb 7, 65, .inl (fun z9 => (w z9).2.2)))] s.heap.size) args s 0 0 A) (F0 m 10 ls []) := by
    intro n
    induction n with
    | zero =>
      intro v hn hk9 H locs hP hD hS ls hl
      have hl : lv_has ls 4 [(0, .ref r0), (1, .long v), (3, .int (-1))] := hl
      refine lv_iload_n hx hb dY_clock_10 rfl (lv_at hl 2 rfl) ?_
      refine lv_if_lt (tgt := 33) hx hb dY_clock_11 (by decide) (fun c_11 => ?_) (fun c_11 => ?_)
      · refine lv_lload_n hx hb dY_clock_33 rfl (lv_at hl 1 rfl) ?_
        exact ml_ret hx hb hr hlocks (hk9) hAe hP hD hS dY_clock_34
      · exact absurd (by decide) c_11
    | succ n ih =>
      intro v hn hk9 H locs hP hD hS ls hl
      have hl : lv_has ls 4 [(0, .ref r0), (1, .long v), (3, .int (nI n))] := hl
      refine lv_iload_n hx hb dY_clock_10 rfl (lv_at hl 2 rfl) ?_
      refine lv_if_lt (tgt := 33) hx hb dY_clock_11 (by decide) (fun c_11 => ?_) (fun c_11 => ?_)
      · exact absurd c_11 (nI_pos (by omega))
      · refine lv_lload_n hx hb dY_clock_14 rfl (lv_at hl 1 rfl) ?_
        refine lv_bipush (v := 8) hx hb dY_clock_15 (by decide) ?_
        refine lv_lshl (v := v <<< ((8 : Int32).toInt64 &&& 63)) hx hb dY_clock_17 (rfl) ?_
        refine lv_aload_n hx hb dY_clock_18 rfl (lv_at hl 0 rfl) ?_
        refine va_get (D := (dC, dI)) (ci := 1) (v := .ref b0) (C := RY) (T := TY) (N := 13) hx hb hts in_Y_clock_Y hown hK hP 0 rfl rfl 1 (by decide) (hts (.fieldLink RY 7 "CausalGateModel" "clock" "[I") (by decide +kernel)) (fun _ h9 => h9) rfl dY_clock_19 ?_
        refine lv_iload_n hx hb dY_clock_22 rfl (lv_at hl 2 rfl) ?_
        refine va_iald hx hb hK hP 1 0 rfl rfl (vp_in_nI (by omega) (by decide)) dY_clock_23 ?_
        refine tp_i (y := nI (cl n)) (by rw [nI_clamp (by omega)]) ?_
        refine lv_i2l (v := (nI (cl n)).toInt64) hx hb dY_clock_24 (rfl) ?_
        refine lv_lor hx hb dY_clock_25 ?_
        refine lv_lstore_n (lv' := [(1, .long ((v <<< ((8 : Int32).toInt64 &&& 63)) ||| ((nI (cl n)).toInt64))), (0, .ref r0), (3, .int (nI n))]) hx hb dY_clock_26 rfl hl (by decide) rfl (fun ls hl => ?_)
        refine lv_iinc (v := (dN n)) (lv' := [(3, .int (dN n)), (1, .long ((v <<< ((8 : Int32).toInt64 &&& 63)) ||| ((nI (cl n)).toInt64))), (0, .ref r0)]) hx hb dY_clock_27 hl (k := 2) rfl (dN_dec n) (by decide) rfl (fun ls hl => ?_)
        refine lv_goto (tgt := 10) hx hb dY_clock_30 (by decide) ?_
        exact ih _ (by omega) (by rw [← hk9]; rfl) _ _ hP hD hS ls (lv_sub hl [2, 1, 0] rfl)
  exact loop 8 0 (Nat.le_refl _) rfl _ _ hP hD hS ls (lv_sub hl [2, 1, 0] rfl)

set_option maxRecDepth 20000 in
theorem in_Y_look_Y : ∀ w ∈ wsY0, w ∈ wsY_look := by decide +kernel

set_option maxHeartbeats 4000000 in
set_option maxRecDepth 100000 in
theorem kY_look (l : Launch) (dC : Nat → ClassId) (dI : Nat → Nat → Nat) (cb : Nat → ClassId) (r0 b0 b1 b2 b3 b4 b5 b6 b7 : Nat) (th : Int32) (cl : Nat → Nat) (t : TF) (tn : Nat) (w : WF) (wn : Nat) (ko mw : Nat) (sz : Nat) (x : Int32) : Met l yY_look wsY_look ({ frames := 0, cells := 0, slots := 0, locals := 0 }) (Pm [.ref r0, .int x] (dC, dI) clS [(cb 0, .int), (cb 1, .int), (cb 2, .int), (cb 3, .int), (cb 4, .int), (cb 5, .int), (cb 6, .long), (cb 7, .int)] [(r0, .inr (1, [.int th, .ref b0, .int (nI tn), .ref b1, .ref b2, .ref b3, .int (nI wn), .ref b4, .ref b5, .ref b6, .ref b7, .int (nI ko), .int (nI mw)])), (b0, .inl (cb 0, 8, .inl (fun z9 => nI (cl z9)))), (b1, .inl (cb 1, 2040, .inl (fun z9 => nI ((t z9).1 / 256)))), (b2, .inl (cb 2, 2040, .inl (fun z9 => nI ((t z9).1 % 256)))), (b3, .inl (cb 3, 2040, .inl (fun z9 => (t z9).2))), (b4, .inl (cb 4, 65, .inl (fun z9 => nI ((w z9).1 / 256)))), (b5, .inl (cb 5, 65, .inl (fun z9 => nI ((w z9).1 % 256)))), (b6, .inl (cb 6, 65, .inr (.inl (fun z9 => (w z9).2.1)))), (b7, .inl (cb 7, 65, .inl (fun z9 => (w z9).2.2)))] sz) (QmI (lok tn wn ko mw x) (dC, dI) clS [(r0, .inr (1, [.int th, .ref b0, .int (nI tn), .ref b1, .ref b2, .ref b3, .int (nI wn), .ref b4, .ref b5, .ref b6, .ref b7, .int (nI ko), .int (nI mw)])), (b0, .inl (cb 0, 8, .inl (fun z9 => nI (cl z9)))), (b1, .inl (cb 1, 2040, .inl (fun z9 => nI ((t z9).1 / 256)))), (b2, .inl (cb 2, 2040, .inl (fun z9 => nI ((t z9).1 % 256)))), (b3, .inl (cb 3, 2040, .inl (fun z9 => (t z9).2))), (b4, .inl (cb 4, 65, .inl (fun z9 => nI ((w z9).1 / 256)))), (b5, .inl (cb 5, 65, .inl (fun z9 => nI ((w z9).1 % 256)))), (b6, .inl (cb 6, 65, .inr (.inl (fun z9 => (w z9).2.1)))), (b7, .inl (cb 7, 65, .inl (fun z9 => (w z9).2.2)))] [(r0, .inr (1, [.int 0, .ref b0, .int (nI tn), .ref b1, .ref b2, .ref b3, .int (nI wn), .ref b4, .ref b5, .ref b6, .ref b7, .int (nI ko), .int (nI mw)])), (b0, .inl (cb 0, 8, .inl (fun z9 => nI (cl z9)))), (b1, .inl (cb 1, 2040, .inl (fun z9 => nI ((t z9).1 / 256)))), (b2, .inl (cb 2, 2040, .inl (fun z9 => nI ((t z9).1 % 256)))), (b3, .inl (cb 3, 2040, .inl (fun z9 => (t z9).2))), (b4, .inl (cb 4, 65, .inl (fun z9 => nI ((w z9).1 / 256)))), (b5, .inl (cb 5, 65, .inl (fun z9 => nI ((w z9).1 % 256)))), (b6, .inl (cb 6, 65, .inr (.inl (fun z9 => (w z9).2.1)))), (b7, .inl (cb 7, 65, .inl (fun z9 => (w z9).2.2)))] sz) 0 0 (va_A [(r0, .inr (1, [.int th, .ref b0, .int (nI tn), .ref b1, .ref b2, .ref b3, .int (nI wn), .ref b4, .ref b5, .ref b6, .ref b7, .int (nI ko), .int (nI mw)])), (b0, .inl (cb 0, 8, .inl (fun z9 => nI (cl z9)))), (b1, .inl (cb 1, 2040, .inl (fun z9 => nI ((t z9).1 / 256)))), (b2, .inl (cb 2, 2040, .inl (fun z9 => nI ((t z9).1 % 256)))), (b3, .inl (cb 3, 2040, .inl (fun z9 => (t z9).2))), (b4, .inl (cb 4, 65, .inl (fun z9 => nI ((w z9).1 / 256)))), (b5, .inl (cb 5, 65, .inl (fun z9 => nI ((w z9).1 % 256)))), (b6, .inl (cb 6, 65, .inr (.inl (fun z9 => (w z9).2.1)))), (b7, .inl (cb 7, 65, .inl (fun z9 => (w z9).2.2)))] sz) := by
  refine Met.ofW (cc := cY_look) (maxL := 2) (ret := (some .int)) (by decide) rfl ?_
  intro p e s m args below meth c s₁ B hml hv
  obtain ⟨hargs, hsz, hP, hK, hD0⟩ := hv
  have hx := B.exec
  have hb := B.bytes
  have hr := B.returns
  have hts := atoms_spec (ws := wsY_look) B.pre
  have hown : s.vm.findClass RY = some m.cls := findClass_of_methodNamed B.named
  have hlocks := B.notSynchronized
  subst hsz
  have hD := hD0.self (sz := s.heap.size)
  obtain ⟨A, hAe⟩ : ∃ A, A = va_A [(r0, .inr (1, [.int th, .ref b0, .int (nI tn), .ref b1, .ref b2, .ref b3, .int (nI wn), .ref b4, .ref b5, .ref b6, .ref b7, .int (nI ko), .int (nI mw)])), (b0, .inl (cb 0, 8, .inl (fun z9 => nI (cl z9)))), (b1, .inl (cb 1, 2040, .inl (fun z9 => nI ((t z9).1 / 256)))), (b2, .inl (cb 2, 2040, .inl (fun z9 => nI ((t z9).1 % 256)))), (b3, .inl (cb 3, 2040, .inl (fun z9 => (t z9).2))), (b4, .inl (cb 4, 65, .inl (fun z9 => nI ((w z9).1 / 256)))), (b5, .inl (cb 5, 65, .inl (fun z9 => nI ((w z9).1 % 256)))), (b6, .inl (cb 6, 65, .inr (.inl (fun z9 => (w z9).2.1)))), (b7, .inl (cb 7, 65, .inl (fun z9 => (w z9).2.2)))] s.heap.size := ⟨_, rfl⟩
  rw [← hAe] at hD ⊢
  have hA : ∀ q : Nat, s.heap.size ≤ q → A q := fun q h => by rw [hAe]; exact Or.inr h
  have hS : va_S A s.heap s.heap [] := va_S.rf
  have hP : va_P (dC, dI) clS [(r0, .inr (1, [.int th, .ref b0, .int (nI tn), .ref b1, .ref b2, .ref b3, .int (nI wn), .ref b4, .ref b5, .ref b6, .ref b7, .int (nI ko), .int (nI mw)])), (b0, .inl (cb 0, 8, .inl (fun z9 => nI (cl z9)))), (b1, .inl (cb 1, 2040, .inl (fun z9 => nI ((t z9).1 / 256)))), (b2, .inl (cb 2, 2040, .inl (fun z9 => nI ((t z9).1 % 256)))), (b3, .inl (cb 3, 2040, .inl (fun z9 => (t z9).2))), (b4, .inl (cb 4, 65, .inl (fun z9 => nI ((w z9).1 / 256)))), (b5, .inl (cb 5, 65, .inl (fun z9 => nI ((w z9).1 % 256)))), (b6, .inl (cb 6, 65, .inr (.inl (fun z9 => (w z9).2.1)))), (b7, .inl (cb 7, 65, .inl (fun z9 => (w z9).2.2)))] s.heap := hP
  have hl := lv_entry ([.ref r0, .int x]) (n := 2) (Nat.le_of_ble_eq_true rfl)
  have hE : entryFrame m args 2 = F0 m 0 ((lg_sl ([.ref r0, .int x]) ++ List.replicate (2 - (lg_sl ([.ref r0, .int x])).length) Slot.unset).toArray) [] := by rw [hargs]; exact lg_entry_eq m ([.ref r0, .int x]) 2
  rw [hE]
  generalize (lg_sl ([.ref r0, .int x]) ++ List.replicate (2 - (lg_sl ([.ref r0, .int x])).length) Slot.unset).toArray = ls at hl ⊢
  have hl : lv_has ls 2 [(0, .ref r0), (1, .int x)] := hl
  refine lv_aload_n hx hb dY_look_0 rfl (lv_at hl 0 rfl) ?_
  refine lv_iconst (v := 0) hx hb dY_look_1 (by decide) ?_
  refine va_put (D := (dC, dI)) (ci := 1) (v := .int 0) (ty := .int) (C := RY) (T := TY) (N := 13) hx hb hts in_Y_look_Y tyY tyY_ok nmY hown hK hP hD hS 0 rfl rfl 0 (by decide) (hts (.fieldLink RY 35 "CausalGateModel" "thrown" "I") (by decide +kernel)) (fun _ h9 => h9) rfl (by decide +kernel) rfl rfl (Nat.le_of_ble_eq_true rfl) dY_look_2 (fun H locs hP hD hS => ?_)
  have hP : va_P (dC, dI) clS [(r0, .inr (1, [.int 0, .ref b0, .int (nI tn), .ref b1, .ref b2, .ref b3, .int (nI wn), .ref b4, .ref b5, .ref b6, .ref b7, .int (nI ko), .int (nI mw)])), (b0, .inl (cb 0, 8, .inl (fun z9 => nI (cl z9)))), (b1, .inl (cb 1, 2040, .inl (fun z9 => nI ((t z9).1 / 256)))), (b2, .inl (cb 2, 2040, .inl (fun z9 => nI ((t z9).1 % 256)))), (b3, .inl (cb 3, 2040, .inl (fun z9 => (t z9).2))), (b4, .inl (cb 4, 65, .inl (fun z9 => nI ((w z9).1 / 256)))), (b5, .inl (cb 5, 65, .inl (fun z9 => nI ((w z9).1 % 256)))), (b6, .inl (cb 6, 65, .inr (.inl (fun z9 => (w z9).2.1)))), (b7, .inl (cb 7, 65, .inl (fun z9 => (w z9).2.2)))] H := hP
  have hD : va_D A [(r0, .inr (1, [.int 0, .ref b0, .int (nI tn), .ref b1, .ref b2, .ref b3, .int (nI wn), .ref b4, .ref b5, .ref b6, .ref b7, .int (nI ko), .int (nI mw)])), (b0, .inl (cb 0, 8, .inl (fun z9 => nI (cl z9)))), (b1, .inl (cb 1, 2040, .inl (fun z9 => nI ((t z9).1 / 256)))), (b2, .inl (cb 2, 2040, .inl (fun z9 => nI ((t z9).1 % 256)))), (b3, .inl (cb 3, 2040, .inl (fun z9 => (t z9).2))), (b4, .inl (cb 4, 65, .inl (fun z9 => nI ((w z9).1 / 256)))), (b5, .inl (cb 5, 65, .inl (fun z9 => nI ((w z9).1 % 256)))), (b6, .inl (cb 6, 65, .inr (.inl (fun z9 => (w z9).2.1)))), (b7, .inl (cb 7, 65, .inl (fun z9 => (w z9).2.2)))] := hD
  refine lv_iload_n hx hb dY_look_5 rfl (lv_at hl 1 rfl) ?_
  refine lv_if_ne (tgt := 16) hx hb dY_look_6 (by decide) (fun c_6 => ?_) (fun c_6 => ?_)
  · refine lv_iload_n hx hb dY_look_16 rfl (lv_at hl 1 rfl) ?_
    refine lv_iconst (v := 1) hx hb dY_look_17 (by decide) ?_
    refine lv_icmp_ne (tgt := 28) hx hb dY_look_18 (by decide) (fun c_18 => ?_) (fun c_18 => ?_)
    · refine lv_iload_n hx hb dY_look_28 rfl (lv_at hl 1 rfl) ?_
      refine lv_iconst (v := 2) hx hb dY_look_29 (by decide) ?_
      refine lv_icmp_ne (tgt := 40) hx hb dY_look_30 (by decide) (fun c_30 => ?_) (fun c_30 => ?_)
      · refine lv_iload_n hx hb dY_look_40 rfl (lv_at hl 1 rfl) ?_
        refine lv_iconst (v := 3) hx hb dY_look_41 (by decide) ?_
        refine lv_icmp_ne (tgt := 52) hx hb dY_look_42 (by decide) (fun c_42 => ?_) (fun c_42 => ?_)
        · refine lv_iconst (v := -1) hx hb dY_look_52 (by decide) ?_
          exact mi_ret hx hb hr hlocks (by simp [lok, *]) hAe hP hD hS dY_look_53
        · refine lv_aload_n hx hb dY_look_45 rfl (lv_at hl 0 rfl) ?_
          refine va_get (D := (dC, dI)) (ci := 1) (v := .int (nI mw)) (C := RY) (T := TY) (N := 13) hx hb hts in_Y_look_Y hown hK hP 0 rfl rfl 12 (by decide) (hts (.fieldLink RY 62 "CausalGateModel" "most" "I") (by decide +kernel)) (fun _ h9 => h9) rfl dY_look_46 ?_
          refine lv_goto (tgt := 53) hx hb dY_look_49 (by decide) ?_
          exact mi_ret hx hb hr hlocks (by simp [lok, *]) hAe hP hD hS dY_look_53
      · refine lv_aload_n hx hb dY_look_33 rfl (lv_at hl 0 rfl) ?_
        refine va_get (D := (dC, dI)) (ci := 1) (v := .int (nI ko)) (C := RY) (T := TY) (N := 13) hx hb hts in_Y_look_Y hown hK hP 0 rfl rfl 11 (by decide) (hts (.fieldLink RY 59 "CausalGateModel" "knownOffers" "I") (by decide +kernel)) (fun _ h9 => h9) rfl dY_look_34 ?_
        refine lv_goto (tgt := 53) hx hb dY_look_37 (by decide) ?_
        exact mi_ret hx hb hr hlocks (by simp [lok, *]) hAe hP hD hS dY_look_53
    · refine lv_aload_n hx hb dY_look_21 rfl (lv_at hl 0 rfl) ?_
      refine va_get (D := (dC, dI)) (ci := 1) (v := .int (nI wn)) (C := RY) (T := TY) (N := 13) hx hb hts in_Y_look_Y hown hK hP 0 rfl rfl 6 (by decide) (hts (.fieldLink RY 49 "CausalGateModel" "waiting" "I") (by decide +kernel)) (fun _ h9 => h9) rfl dY_look_22 ?_
      refine lv_goto (tgt := 53) hx hb dY_look_25 (by decide) ?_
      exact mi_ret hx hb hr hlocks (by simp [lok, *]) hAe hP hD hS dY_look_53
  · refine lv_aload_n hx hb dY_look_9 rfl (lv_at hl 0 rfl) ?_
    refine va_get (D := (dC, dI)) (ci := 1) (v := .int (nI tn)) (C := RY) (T := TY) (N := 13) hx hb hts in_Y_look_Y hown hK hP 0 rfl rfl 2 (by decide) (hts (.fieldLink RY 52 "CausalGateModel" "through" "I") (by decide +kernel)) (fun _ h9 => h9) rfl dY_look_10 ?_
    refine lv_goto (tgt := 53) hx hb dY_look_13 (by decide) ?_
    exact mi_ret hx hb hr hlocks (by simp [lok, *]) hAe hP hD hS dY_look_53

set_option maxRecDepth 20000 in
theorem in_Y_ahead_Y : ∀ w ∈ wsY0, w ∈ wsY_ahead := by decide +kernel

set_option maxHeartbeats 4000000 in
set_option maxRecDepth 100000 in
theorem kY_ahead (l : Launch) (dC : Nat → ClassId) (dI : Nat → Nat → Nat) (cb : Nat → ClassId) (r0 b0 b1 b2 b3 b4 b5 b6 b7 : Nat) (th : Int32) (cl : Nat → Nat) (t : TF) (tn : Nat) (w : WF) (wn : Nat) (ko mw : Nat) (sz : Nat) (htn : tn ≤ 2040) (ht : ∀ j, j < tn → (t j).1 < 2048) (ck : Int64) : Met l yY_ahead wsY_ahead ({ frames := 2, cells := 0, slots := 0, locals := 45 }) (Pm [.ref r0, .long ck] (dC, dI) clS [(cb 0, .int), (cb 1, .int), (cb 2, .int), (cb 3, .int), (cb 4, .int), (cb 5, .int), (cb 6, .long), (cb 7, .int)] [(r0, .inr (1, [.int th, .ref b0, .int (nI tn), .ref b1, .ref b2, .ref b3, .int (nI wn), .ref b4, .ref b5, .ref b6, .ref b7, .int (nI ko), .int (nI mw)])), (b0, .inl (cb 0, 8, .inl (fun z9 => nI (cl z9)))), (b1, .inl (cb 1, 2040, .inl (fun z9 => nI ((t z9).1 / 256)))), (b2, .inl (cb 2, 2040, .inl (fun z9 => nI ((t z9).1 % 256)))), (b3, .inl (cb 3, 2040, .inl (fun z9 => (t z9).2))), (b4, .inl (cb 4, 65, .inl (fun z9 => nI ((w z9).1 / 256)))), (b5, .inl (cb 5, 65, .inl (fun z9 => nI ((w z9).1 % 256)))), (b6, .inl (cb 6, 65, .inr (.inl (fun z9 => (w z9).2.1)))), (b7, .inl (cb 7, 65, .inl (fun z9 => (w z9).2.2)))] sz) (QmI (nI (ahM t ck tn 0 0)) (dC, dI) clS [(r0, .inr (1, [.int th, .ref b0, .int (nI tn), .ref b1, .ref b2, .ref b3, .int (nI wn), .ref b4, .ref b5, .ref b6, .ref b7, .int (nI ko), .int (nI mw)])), (b0, .inl (cb 0, 8, .inl (fun z9 => nI (cl z9)))), (b1, .inl (cb 1, 2040, .inl (fun z9 => nI ((t z9).1 / 256)))), (b2, .inl (cb 2, 2040, .inl (fun z9 => nI ((t z9).1 % 256)))), (b3, .inl (cb 3, 2040, .inl (fun z9 => (t z9).2))), (b4, .inl (cb 4, 65, .inl (fun z9 => nI ((w z9).1 / 256)))), (b5, .inl (cb 5, 65, .inl (fun z9 => nI ((w z9).1 % 256)))), (b6, .inl (cb 6, 65, .inr (.inl (fun z9 => (w z9).2.1)))), (b7, .inl (cb 7, 65, .inl (fun z9 => (w z9).2.2)))] [(r0, .inr (1, [.int 0, .ref b0, .int (nI tn), .ref b1, .ref b2, .ref b3, .int (nI wn), .ref b4, .ref b5, .ref b6, .ref b7, .int (nI ko), .int (nI mw)])), (b0, .inl (cb 0, 8, .inl (fun z9 => nI (cl z9)))), (b1, .inl (cb 1, 2040, .inl (fun z9 => nI ((t z9).1 / 256)))), (b2, .inl (cb 2, 2040, .inl (fun z9 => nI ((t z9).1 % 256)))), (b3, .inl (cb 3, 2040, .inl (fun z9 => (t z9).2))), (b4, .inl (cb 4, 65, .inl (fun z9 => nI ((w z9).1 / 256)))), (b5, .inl (cb 5, 65, .inl (fun z9 => nI ((w z9).1 % 256)))), (b6, .inl (cb 6, 65, .inr (.inl (fun z9 => (w z9).2.1)))), (b7, .inl (cb 7, 65, .inl (fun z9 => (w z9).2.2)))] sz) 0 0 (va_A [(r0, .inr (1, [.int th, .ref b0, .int (nI tn), .ref b1, .ref b2, .ref b3, .int (nI wn), .ref b4, .ref b5, .ref b6, .ref b7, .int (nI ko), .int (nI mw)])), (b0, .inl (cb 0, 8, .inl (fun z9 => nI (cl z9)))), (b1, .inl (cb 1, 2040, .inl (fun z9 => nI ((t z9).1 / 256)))), (b2, .inl (cb 2, 2040, .inl (fun z9 => nI ((t z9).1 % 256)))), (b3, .inl (cb 3, 2040, .inl (fun z9 => (t z9).2))), (b4, .inl (cb 4, 65, .inl (fun z9 => nI ((w z9).1 / 256)))), (b5, .inl (cb 5, 65, .inl (fun z9 => nI ((w z9).1 % 256)))), (b6, .inl (cb 6, 65, .inr (.inl (fun z9 => (w z9).2.1)))), (b7, .inl (cb 7, 65, .inl (fun z9 => (w z9).2.2)))] sz) := by
  refine Met.ofW (cc := cY_ahead) (maxL := 5) (ret := (some .int)) (by decide) rfl ?_
  intro p e s m args below meth c s₁ B hml hv
  obtain ⟨hargs, hsz, hP, hK, hD0⟩ := hv
  have hx := B.exec
  have hb := B.bytes
  have hr := B.returns
  have hts := atoms_spec (ws := wsY_ahead) B.pre
  have hown : s.vm.findClass RY = some m.cls := findClass_of_methodNamed B.named
  have hlocks := B.notSynchronized
  subst hsz
  have hD := hD0.self (sz := s.heap.size)
  obtain ⟨A, hAe⟩ : ∃ A, A = va_A [(r0, .inr (1, [.int th, .ref b0, .int (nI tn), .ref b1, .ref b2, .ref b3, .int (nI wn), .ref b4, .ref b5, .ref b6, .ref b7, .int (nI ko), .int (nI mw)])), (b0, .inl (cb 0, 8, .inl (fun z9 => nI (cl z9)))), (b1, .inl (cb 1, 2040, .inl (fun z9 => nI ((t z9).1 / 256)))), (b2, .inl (cb 2, 2040, .inl (fun z9 => nI ((t z9).1 % 256)))), (b3, .inl (cb 3, 2040, .inl (fun z9 => (t z9).2))), (b4, .inl (cb 4, 65, .inl (fun z9 => nI ((w z9).1 / 256)))), (b5, .inl (cb 5, 65, .inl (fun z9 => nI ((w z9).1 % 256)))), (b6, .inl (cb 6, 65, .inr (.inl (fun z9 => (w z9).2.1)))), (b7, .inl (cb 7, 65, .inl (fun z9 => (w z9).2.2)))] s.heap.size := ⟨_, rfl⟩
  rw [← hAe] at hD ⊢
  have hA : ∀ q : Nat, s.heap.size ≤ q → A q := fun q h => by rw [hAe]; exact Or.inr h
  have hS : va_S A s.heap s.heap [] := va_S.rf
  have hP : va_P (dC, dI) clS [(r0, .inr (1, [.int th, .ref b0, .int (nI tn), .ref b1, .ref b2, .ref b3, .int (nI wn), .ref b4, .ref b5, .ref b6, .ref b7, .int (nI ko), .int (nI mw)])), (b0, .inl (cb 0, 8, .inl (fun z9 => nI (cl z9)))), (b1, .inl (cb 1, 2040, .inl (fun z9 => nI ((t z9).1 / 256)))), (b2, .inl (cb 2, 2040, .inl (fun z9 => nI ((t z9).1 % 256)))), (b3, .inl (cb 3, 2040, .inl (fun z9 => (t z9).2))), (b4, .inl (cb 4, 65, .inl (fun z9 => nI ((w z9).1 / 256)))), (b5, .inl (cb 5, 65, .inl (fun z9 => nI ((w z9).1 % 256)))), (b6, .inl (cb 6, 65, .inr (.inl (fun z9 => (w z9).2.1)))), (b7, .inl (cb 7, 65, .inl (fun z9 => (w z9).2.2)))] s.heap := hP
  have hl := lv_entry ([.ref r0, .long ck]) (n := 5) (Nat.le_of_ble_eq_true rfl)
  have hE : entryFrame m args 5 = F0 m 0 ((lg_sl ([.ref r0, .long ck]) ++ List.replicate (5 - (lg_sl ([.ref r0, .long ck])).length) Slot.unset).toArray) [] := by rw [hargs]; exact lg_entry_eq m ([.ref r0, .long ck]) 5
  rw [hE]
  generalize (lg_sl ([.ref r0, .long ck]) ++ List.replicate (5 - (lg_sl ([.ref r0, .long ck])).length) Slot.unset).toArray = ls at hl ⊢
  have hl : lv_has ls 5 [(0, .ref r0), (1, .long ck)] := hl
  refine lv_aload_n hx hb dY_ahead_0 rfl (lv_at hl 0 rfl) ?_
  refine lv_iconst (v := 0) hx hb dY_ahead_1 (by decide) ?_
  refine va_put (D := (dC, dI)) (ci := 1) (v := .int 0) (ty := .int) (C := RY) (T := TY) (N := 13) hx hb hts in_Y_ahead_Y tyY tyY_ok nmY hown hK hP hD hS 0 rfl rfl 0 (by decide) (hts (.fieldLink RY 35 "CausalGateModel" "thrown" "I") (by decide +kernel)) (fun _ h9 => h9) rfl (by decide +kernel) rfl rfl (Nat.le_of_ble_eq_true rfl) dY_ahead_2 (fun H locs hP hD hS => ?_)
  have hP : va_P (dC, dI) clS [(r0, .inr (1, [.int 0, .ref b0, .int (nI tn), .ref b1, .ref b2, .ref b3, .int (nI wn), .ref b4, .ref b5, .ref b6, .ref b7, .int (nI ko), .int (nI mw)])), (b0, .inl (cb 0, 8, .inl (fun z9 => nI (cl z9)))), (b1, .inl (cb 1, 2040, .inl (fun z9 => nI ((t z9).1 / 256)))), (b2, .inl (cb 2, 2040, .inl (fun z9 => nI ((t z9).1 % 256)))), (b3, .inl (cb 3, 2040, .inl (fun z9 => (t z9).2))), (b4, .inl (cb 4, 65, .inl (fun z9 => nI ((w z9).1 / 256)))), (b5, .inl (cb 5, 65, .inl (fun z9 => nI ((w z9).1 % 256)))), (b6, .inl (cb 6, 65, .inr (.inl (fun z9 => (w z9).2.1)))), (b7, .inl (cb 7, 65, .inl (fun z9 => (w z9).2.2)))] H := hP
  have hD : va_D A [(r0, .inr (1, [.int 0, .ref b0, .int (nI tn), .ref b1, .ref b2, .ref b3, .int (nI wn), .ref b4, .ref b5, .ref b6, .ref b7, .int (nI ko), .int (nI mw)])), (b0, .inl (cb 0, 8, .inl (fun z9 => nI (cl z9)))), (b1, .inl (cb 1, 2040, .inl (fun z9 => nI ((t z9).1 / 256)))), (b2, .inl (cb 2, 2040, .inl (fun z9 => nI ((t z9).1 % 256)))), (b3, .inl (cb 3, 2040, .inl (fun z9 => (t z9).2))), (b4, .inl (cb 4, 65, .inl (fun z9 => nI ((w z9).1 / 256)))), (b5, .inl (cb 5, 65, .inl (fun z9 => nI ((w z9).1 % 256)))), (b6, .inl (cb 6, 65, .inr (.inl (fun z9 => (w z9).2.1)))), (b7, .inl (cb 7, 65, .inl (fun z9 => (w z9).2.2)))] := hD
  refine lv_iconst (v := 0) hx hb dY_ahead_5 (by decide) ?_
  refine tp_i (y := nI 0) (nI_0.symm) ?_
  refine lv_istore_n (lv' := [(3, .int (nI 0)), (0, .ref r0), (1, .long ck)]) hx hb dY_ahead_6 rfl hl (by decide) rfl (fun ls hl => ?_)
  refine lv_iconst (v := 0) hx hb dY_ahead_7 (by decide) ?_
  refine tp_i (y := nI 0) (nI_0.symm) ?_
  refine lv_istore (lv' := [(4, .int (nI 0)), (3, .int (nI 0)), (0, .ref r0), (1, .long ck)]) hx hb dY_ahead_8 hl (by decide) rfl (fun ls hl => ?_)
  have loop : ∀ (n : Nat) (j x : Nat), j + n = tn → ahM t ck n j x = ahM t ck tn 0 0 → ∀ (H : Heap) (locs : List Loc), va_P (dC, dI) clS [(r0, .inr (1, [.int 0, .ref b0, .int (nI tn), .ref b1, .ref b2, .ref b3, .int (nI wn), .ref b4, .ref b5, .ref b6, .ref b7, .int (nI ko), .int (nI mw)])), (b0, .inl (cb 0, 8, .inl (fun z9 => nI (cl z9)))), (b1, .inl (cb 1, 2040, .inl (fun z9 => nI ((t z9).1 / 256)))), (b2, .inl (cb 2, 2040, .inl (fun z9 => nI ((t z9).1 % 256)))), (b3, .inl (cb 3, 2040, .inl (fun z9 => (t z9).2))), (b4, .inl (cb 4, 65, .inl (fun z9 => nI ((w z9).1 / 256)))), (b5, .inl (cb 5, 65, .inl (fun z9 => nI ((w z9).1 % 256)))), (b6, .inl (cb 6, 65, .inr (.inl (fun z9 => (w z9).2.1)))), (b7, .inl (cb 7, 65, .inl (fun z9 => (w z9).2.2)))] H → va_D A [(r0, .inr (1, [.int 0, .ref b0, .int (nI tn), .ref b1, .ref b2, .ref b3, .int (nI wn), .ref b4, .ref b5, .ref b6, .ref b7, .int (nI ko), .int (nI mw)])), (b0, .inl (cb 0, 8, .inl (fun z9 => nI (cl z9)))), (b1, .inl (cb 1, 2040, .inl (fun z9 => nI ((t z9).1 / 256)))), (b2, .inl (cb 2, 2040, .inl (fun z9 => nI ((t z9).1 % 256)))), (b3, .inl (cb 3, 2040, .inl (fun z9 => (t z9).2))), (b4, .inl (cb 4, 65, .inl (fun z9 => nI ((w z9).1 / 256)))), (b5, .inl (cb 5, 65, .inl (fun z9 => nI ((w z9).1 % 256)))), (b6, .inl (cb 6, 65, .inr (.inl (fun z9 => (w z9).2.1)))), (b7, .inl (cb 7, 65, .inl (fun z9 => (w z9).2.2)))] → va_S A s.heap H locs → ∀ ls : Array Slot, lv_has ls 5 [(0, .ref r0), (1, .long ck), (3, .int (nI x)), (4, .int (nI j))] → W p l e (headSpec wsY_ahead ({ frames := 2, cells := 0, slots := 0, locals := 45 })).room s m args below meth c H locs 0 0 (MQ below (QmI (nI (ahM t ck tn 0 0)) (dC, dI) clS [(r0, .inr (1, [.int th, .ref b0, .int (nI tn), .ref b1, .ref b2, .ref b3, .int (nI wn), .ref b4, .ref b5, .ref b6, .ref b7, .int (nI ko), .int (nI mw)])), (b0, .inl (cb 0, 8, .inl (fun z9 => nI (cl z9)))), (b1, .inl (cb 1, 2040, .inl (fun z9 => nI ((t z9).1 / 256)))), (b2, .inl (cb 2, 2040, .inl (fun z9 => nI ((t z9).1 % 256)))), (b3, .inl (cb 3, 2040, .inl (fun z9 => (t z9).2))), (b4, .inl (cb 4, 65, .inl (fun z9 => nI ((w z9).1 / 256)))), (b5, .inl (cb 5, 65, .inl (fun z9 => nI ((w z9).1 % 256)))), (b6, .inl (cb 6, 65, .inr (.inl (fun z9 => (w z9).2.1)))), (b7, .inl (cb 7, 65, .inl (fun z9 => (w z9).2.2)))] [(r0, .inr (1, [.int 0, .ref b0, .int (nI tn), .ref b1, .ref b2, .ref b3, .int (nI wn), .ref b4, .ref b5, .ref b6, .ref b7, .int (nI ko), .int (nI mw)])), (b0, .inl (cb 0, 8, .inl (fun z9 => nI (cl z9)))), (b1, .inl (cb 1, 2040, .inl (fun z9 => nI ((t z9).1 / 256)))), (b2, .inl (cb 2, 2040, .inl (fun z9 => nI ((t z9).1 % 256)))), (b3, .inl (cb 3, 2040, .inl (fun z9 => (t z9).2))), (b4, .inl (cb 4, 65, .inl (fun z9 => nI ((w z9).1 / 256)))), (b5, .inl (cb 5, 65, .inl (fun z9 => nI ((w z9).1 % 256)))), (b6, .inl (cb 6, 65, .inr (.inl (fun z9 => (w z9).2.1)))), (b7, .inl (cb 7, 65, .inl (fun z9 => (w z9).2.2)))] s.heap.size) args s 0 0 A) (F0 m 10 ls []) := by
    intro n
    induction n with
    | zero =>
      intro j x hj hk9 H locs hP hD hS ls hl
      refine lv_iload hx hb dY_ahead_10 (lv_at hl 3 rfl) ?_
      refine lv_aload_n hx hb dY_ahead_12 rfl (lv_at hl 0 rfl) ?_
      refine va_get (D := (dC, dI)) (ci := 1) (v := .int (nI tn)) (C := RY) (T := TY) (N := 13) hx hb hts in_Y_ahead_Y hown hK hP 0 rfl rfl 2 (by decide) (hts (.fieldLink RY 52 "CausalGateModel" "through" "I") (by decide +kernel)) (fun _ h9 => h9) rfl dY_ahead_13 ?_
      refine lv_icmp_ge (tgt := 43) hx hb dY_ahead_16 (by decide) (fun c_16 => ?_) (fun c_16 => ?_)
      · refine lv_iload_n hx hb dY_ahead_43 rfl (lv_at hl 2 rfl) ?_
        exact mi_ret hx hb hr hlocks (by rw [← hk9]; rfl) hAe hP hD hS dY_ahead_44
      · exact absurd (nI_le (by omega) (by omega)) c_16
    | succ n ih =>
      intro j x hj hk9 H locs hP hD hS ls hl
      refine lv_iload hx hb dY_ahead_10 (lv_at hl 3 rfl) ?_
      refine lv_aload_n hx hb dY_ahead_12 rfl (lv_at hl 0 rfl) ?_
      refine va_get (D := (dC, dI)) (ci := 1) (v := .int (nI tn)) (C := RY) (T := TY) (N := 13) hx hb hts in_Y_ahead_Y hown hK hP 0 rfl rfl 2 (by decide) (hts (.fieldLink RY 52 "CausalGateModel" "through" "I") (by decide +kernel)) (fun _ h9 => h9) rfl dY_ahead_13 ?_
      refine lv_icmp_ge (tgt := 43) hx hb dY_ahead_16 (by decide) (fun c_16 => ?_) (fun c_16 => ?_)
      · exact absurd ((nI_leI (by omega) (by omega)).mp c_16) (by omega)
      · refine lv_iload_n hx hb dY_ahead_19 rfl (lv_at hl 2 rfl) ?_
        refine lv_aload_n hx hb dY_ahead_20 rfl (lv_at hl 0 rfl) ?_
        refine lv_lload_n hx hb dY_ahead_21 rfl (lv_at hl 1 rfl) ?_
        refine lv_iload hx hb dY_ahead_22 (lv_at hl 3 rfl) ?_
        refine rd_i (W.runV (As := [.long ck, .int (nI j)]) (rest := [.int (nI x)]) ⟨hx, hb, hml, hown, hts⟩ (kY_lacks l dC dI cb r0 b0 b1 b2 b3 b4 b5 b6 b7 0 cl t tn w wn ko mw htn ht ck j (by omega)) (cwV 2 hts gY_ahead_Y_lacks rfl rfl rfl (by decide +kernel) ⟨Nat.le_of_ble_eq_true rfl, Nat.le_of_ble_eq_true rfl⟩) (pr_V (ci := 1) (q0 := 0) hK hP rfl rfl) rfl rfl hl.1 rfl (lv_room (Nat.le_of_ble_eq_true rfl)) dY_ahead_24 ⟨Nat.zero_le _, Nat.zero_le _⟩) ?_
        refine lv_if_eq (tgt := 34) hx hb dY_ahead_27 (by decide) (fun c_27 => ?_) (fun c_27 => ?_)
        · have c7 : ¬ lcM t ck j = true := by rw [bI_0.mp c_27]; decide
          refine lv_iconst (v := 0) hx hb dY_ahead_34 (by decide) ?_
          refine tp_i (y := nI 0) (nI_0.symm) ?_
          refine lv_iadd hx hb dY_ahead_35 ?_
          refine tp_i (y := nI (x + if lcM t ck j = true then 1 else 0)) (by rw [if_neg c7]; exact nI_add _ _) ?_
          refine lv_istore_n (lv' := [(3, .int (nI (x + if lcM t ck j = true then 1 else 0))), (0, .ref r0), (1, .long ck), (4, .int (nI j))]) hx hb dY_ahead_36 rfl hl (by decide) rfl (fun ls hl => ?_)
          refine lv_iinc (v := (nI (j + 1))) (lv' := [(4, .int (nI (j + 1))), (3, .int (nI (x + if lcM t ck j = true then 1 else 0))), (0, .ref r0), (1, .long ck)]) hx hb dY_ahead_37 hl (k := 3) rfl (nI_1 j) (by decide) rfl (fun ls hl => ?_)
          refine lv_goto (tgt := 10) hx hb dY_ahead_40 (by decide) ?_
          exact ih (j + 1) _ (by omega) (by rw [← hk9]; rfl) _ _ hP hD hS ls (lv_sub hl [2, 3, 1, 0] rfl)
        · have c7 : lcM t ck j = true := by cases hq9 : lcM t ck j; exact absurd (by rw [hq9]; rfl) c_27; rfl
          refine lv_iconst (v := 1) hx hb dY_ahead_30 (by decide) ?_
          refine tp_i (y := nI 1) (rfl) ?_
          refine lv_goto (tgt := 35) hx hb dY_ahead_31 (by decide) ?_
          refine lv_iadd hx hb dY_ahead_35 ?_
          refine tp_i (y := nI (x + if lcM t ck j = true then 1 else 0)) (by rw [if_pos c7]; exact nI_add _ _) ?_
          refine lv_istore_n (lv' := [(3, .int (nI (x + if lcM t ck j = true then 1 else 0))), (0, .ref r0), (1, .long ck), (4, .int (nI j))]) hx hb dY_ahead_36 rfl hl (by decide) rfl (fun ls hl => ?_)
          refine lv_iinc (v := (nI (j + 1))) (lv' := [(4, .int (nI (j + 1))), (3, .int (nI (x + if lcM t ck j = true then 1 else 0))), (0, .ref r0), (1, .long ck)]) hx hb dY_ahead_37 hl (k := 3) rfl (nI_1 j) (by decide) rfl (fun ls hl => ?_)
          refine lv_goto (tgt := 10) hx hb dY_ahead_40 (by decide) ?_
          exact ih (j + 1) _ (by omega) (by rw [← hk9]; rfl) _ _ hP hD hS ls (lv_sub hl [2, 3, 1, 0] rfl)
  exact loop tn 0 0 (by omega) rfl _ _ hP hD hS ls (lv_sub hl [2, 3, 1, 0] rfl)

set_option maxRecDepth 20000 in
theorem in_Y_next_Y : ∀ w ∈ wsY0, w ∈ wsY_next := by decide +kernel

set_option maxHeartbeats 4000000 in
set_option maxRecDepth 100000 in
theorem kY_next (l : Launch) (dC : Nat → ClassId) (dI : Nat → Nat → Nat) (cb : Nat → ClassId) (r0 b0 b1 b2 b3 b4 b5 b6 b7 : Nat) (th : Int32) (cl : Nat → Nat) (t : TF) (tn : Nat) (w : WF) (wn : Nat) (ko mw : Nat) (sz : Nat) (htn : tn ≤ 2040) (ht : ∀ j, j < tn → (t j).1 < 2048) (ck : Int64) (y : Int32) : Met l yY_next wsY_next ({ frames := 2, cells := 0, slots := 0, locals := 45 }) (Pm [.ref r0, .long ck, .int y] (dC, dI) clS [(cb 0, .int), (cb 1, .int), (cb 2, .int), (cb 3, .int), (cb 4, .int), (cb 5, .int), (cb 6, .long), (cb 7, .int)] [(r0, .inr (1, [.int th, .ref b0, .int (nI tn), .ref b1, .ref b2, .ref b3, .int (nI wn), .ref b4, .ref b5, .ref b6, .ref b7, .int (nI ko), .int (nI mw)])), (b0, .inl (cb 0, 8, .inl (fun z9 => nI (cl z9)))), (b1, .inl (cb 1, 2040, .inl (fun z9 => nI ((t z9).1 / 256)))), (b2, .inl (cb 2, 2040, .inl (fun z9 => nI ((t z9).1 % 256)))), (b3, .inl (cb 3, 2040, .inl (fun z9 => (t z9).2))), (b4, .inl (cb 4, 65, .inl (fun z9 => nI ((w z9).1 / 256)))), (b5, .inl (cb 5, 65, .inl (fun z9 => nI ((w z9).1 % 256)))), (b6, .inl (cb 6, 65, .inr (.inl (fun z9 => (w z9).2.1)))), (b7, .inl (cb 7, 65, .inl (fun z9 => (w z9).2.2)))] sz) (QmI (oI (nxM t ck y tn 0)) (dC, dI) clS [(r0, .inr (1, [.int th, .ref b0, .int (nI tn), .ref b1, .ref b2, .ref b3, .int (nI wn), .ref b4, .ref b5, .ref b6, .ref b7, .int (nI ko), .int (nI mw)])), (b0, .inl (cb 0, 8, .inl (fun z9 => nI (cl z9)))), (b1, .inl (cb 1, 2040, .inl (fun z9 => nI ((t z9).1 / 256)))), (b2, .inl (cb 2, 2040, .inl (fun z9 => nI ((t z9).1 % 256)))), (b3, .inl (cb 3, 2040, .inl (fun z9 => (t z9).2))), (b4, .inl (cb 4, 65, .inl (fun z9 => nI ((w z9).1 / 256)))), (b5, .inl (cb 5, 65, .inl (fun z9 => nI ((w z9).1 % 256)))), (b6, .inl (cb 6, 65, .inr (.inl (fun z9 => (w z9).2.1)))), (b7, .inl (cb 7, 65, .inl (fun z9 => (w z9).2.2)))] [(r0, .inr (1, [.int 0, .ref b0, .int (nI tn), .ref b1, .ref b2, .ref b3, .int (nI wn), .ref b4, .ref b5, .ref b6, .ref b7, .int (nI ko), .int (nI mw)])), (b0, .inl (cb 0, 8, .inl (fun z9 => nI (cl z9)))), (b1, .inl (cb 1, 2040, .inl (fun z9 => nI ((t z9).1 / 256)))), (b2, .inl (cb 2, 2040, .inl (fun z9 => nI ((t z9).1 % 256)))), (b3, .inl (cb 3, 2040, .inl (fun z9 => (t z9).2))), (b4, .inl (cb 4, 65, .inl (fun z9 => nI ((w z9).1 / 256)))), (b5, .inl (cb 5, 65, .inl (fun z9 => nI ((w z9).1 % 256)))), (b6, .inl (cb 6, 65, .inr (.inl (fun z9 => (w z9).2.1)))), (b7, .inl (cb 7, 65, .inl (fun z9 => (w z9).2.2)))] sz) 0 0 (va_A [(r0, .inr (1, [.int th, .ref b0, .int (nI tn), .ref b1, .ref b2, .ref b3, .int (nI wn), .ref b4, .ref b5, .ref b6, .ref b7, .int (nI ko), .int (nI mw)])), (b0, .inl (cb 0, 8, .inl (fun z9 => nI (cl z9)))), (b1, .inl (cb 1, 2040, .inl (fun z9 => nI ((t z9).1 / 256)))), (b2, .inl (cb 2, 2040, .inl (fun z9 => nI ((t z9).1 % 256)))), (b3, .inl (cb 3, 2040, .inl (fun z9 => (t z9).2))), (b4, .inl (cb 4, 65, .inl (fun z9 => nI ((w z9).1 / 256)))), (b5, .inl (cb 5, 65, .inl (fun z9 => nI ((w z9).1 % 256)))), (b6, .inl (cb 6, 65, .inr (.inl (fun z9 => (w z9).2.1)))), (b7, .inl (cb 7, 65, .inl (fun z9 => (w z9).2.2)))] sz) := by
  refine Met.ofW (cc := cY_next) (maxL := 5) (ret := (some .int)) (by decide) rfl ?_
  intro p e s m args below meth c s₁ B hml hv
  obtain ⟨hargs, hsz, hP, hK, hD0⟩ := hv
  have hx := B.exec
  have hb := B.bytes
  have hr := B.returns
  have hts := atoms_spec (ws := wsY_next) B.pre
  have hown : s.vm.findClass RY = some m.cls := findClass_of_methodNamed B.named
  have hlocks := B.notSynchronized
  subst hsz
  have hD := hD0.self (sz := s.heap.size)
  obtain ⟨A, hAe⟩ : ∃ A, A = va_A [(r0, .inr (1, [.int th, .ref b0, .int (nI tn), .ref b1, .ref b2, .ref b3, .int (nI wn), .ref b4, .ref b5, .ref b6, .ref b7, .int (nI ko), .int (nI mw)])), (b0, .inl (cb 0, 8, .inl (fun z9 => nI (cl z9)))), (b1, .inl (cb 1, 2040, .inl (fun z9 => nI ((t z9).1 / 256)))), (b2, .inl (cb 2, 2040, .inl (fun z9 => nI ((t z9).1 % 256)))), (b3, .inl (cb 3, 2040, .inl (fun z9 => (t z9).2))), (b4, .inl (cb 4, 65, .inl (fun z9 => nI ((w z9).1 / 256)))), (b5, .inl (cb 5, 65, .inl (fun z9 => nI ((w z9).1 % 256)))), (b6, .inl (cb 6, 65, .inr (.inl (fun z9 => (w z9).2.1)))), (b7, .inl (cb 7, 65, .inl (fun z9 => (w z9).2.2)))] s.heap.size := ⟨_, rfl⟩
  rw [← hAe] at hD ⊢
  have hA : ∀ q : Nat, s.heap.size ≤ q → A q := fun q h => by rw [hAe]; exact Or.inr h
  have hS : va_S A s.heap s.heap [] := va_S.rf
  have hP : va_P (dC, dI) clS [(r0, .inr (1, [.int th, .ref b0, .int (nI tn), .ref b1, .ref b2, .ref b3, .int (nI wn), .ref b4, .ref b5, .ref b6, .ref b7, .int (nI ko), .int (nI mw)])), (b0, .inl (cb 0, 8, .inl (fun z9 => nI (cl z9)))), (b1, .inl (cb 1, 2040, .inl (fun z9 => nI ((t z9).1 / 256)))), (b2, .inl (cb 2, 2040, .inl (fun z9 => nI ((t z9).1 % 256)))), (b3, .inl (cb 3, 2040, .inl (fun z9 => (t z9).2))), (b4, .inl (cb 4, 65, .inl (fun z9 => nI ((w z9).1 / 256)))), (b5, .inl (cb 5, 65, .inl (fun z9 => nI ((w z9).1 % 256)))), (b6, .inl (cb 6, 65, .inr (.inl (fun z9 => (w z9).2.1)))), (b7, .inl (cb 7, 65, .inl (fun z9 => (w z9).2.2)))] s.heap := hP
  have hl := lv_entry ([.ref r0, .long ck, .int y]) (n := 5) (Nat.le_of_ble_eq_true rfl)
  have hE : entryFrame m args 5 = F0 m 0 ((lg_sl ([.ref r0, .long ck, .int y]) ++ List.replicate (5 - (lg_sl ([.ref r0, .long ck, .int y])).length) Slot.unset).toArray) [] := by rw [hargs]; exact lg_entry_eq m ([.ref r0, .long ck, .int y]) 5
  rw [hE]
  generalize (lg_sl ([.ref r0, .long ck, .int y]) ++ List.replicate (5 - (lg_sl ([.ref r0, .long ck, .int y])).length) Slot.unset).toArray = ls at hl ⊢
  have hl : lv_has ls 5 [(0, .ref r0), (1, .long ck), (3, .int y)] := hl
  refine lv_aload_n hx hb dY_next_0 rfl (lv_at hl 0 rfl) ?_
  refine lv_iconst (v := 0) hx hb dY_next_1 (by decide) ?_
  refine va_put (D := (dC, dI)) (ci := 1) (v := .int 0) (ty := .int) (C := RY) (T := TY) (N := 13) hx hb hts in_Y_next_Y tyY tyY_ok nmY hown hK hP hD hS 0 rfl rfl 0 (by decide) (hts (.fieldLink RY 35 "CausalGateModel" "thrown" "I") (by decide +kernel)) (fun _ h9 => h9) rfl (by decide +kernel) rfl rfl (Nat.le_of_ble_eq_true rfl) dY_next_2 (fun H locs hP hD hS => ?_)
  have hP : va_P (dC, dI) clS [(r0, .inr (1, [.int 0, .ref b0, .int (nI tn), .ref b1, .ref b2, .ref b3, .int (nI wn), .ref b4, .ref b5, .ref b6, .ref b7, .int (nI ko), .int (nI mw)])), (b0, .inl (cb 0, 8, .inl (fun z9 => nI (cl z9)))), (b1, .inl (cb 1, 2040, .inl (fun z9 => nI ((t z9).1 / 256)))), (b2, .inl (cb 2, 2040, .inl (fun z9 => nI ((t z9).1 % 256)))), (b3, .inl (cb 3, 2040, .inl (fun z9 => (t z9).2))), (b4, .inl (cb 4, 65, .inl (fun z9 => nI ((w z9).1 / 256)))), (b5, .inl (cb 5, 65, .inl (fun z9 => nI ((w z9).1 % 256)))), (b6, .inl (cb 6, 65, .inr (.inl (fun z9 => (w z9).2.1)))), (b7, .inl (cb 7, 65, .inl (fun z9 => (w z9).2.2)))] H := hP
  have hD : va_D A [(r0, .inr (1, [.int 0, .ref b0, .int (nI tn), .ref b1, .ref b2, .ref b3, .int (nI wn), .ref b4, .ref b5, .ref b6, .ref b7, .int (nI ko), .int (nI mw)])), (b0, .inl (cb 0, 8, .inl (fun z9 => nI (cl z9)))), (b1, .inl (cb 1, 2040, .inl (fun z9 => nI ((t z9).1 / 256)))), (b2, .inl (cb 2, 2040, .inl (fun z9 => nI ((t z9).1 % 256)))), (b3, .inl (cb 3, 2040, .inl (fun z9 => (t z9).2))), (b4, .inl (cb 4, 65, .inl (fun z9 => nI ((w z9).1 / 256)))), (b5, .inl (cb 5, 65, .inl (fun z9 => nI ((w z9).1 % 256)))), (b6, .inl (cb 6, 65, .inr (.inl (fun z9 => (w z9).2.1)))), (b7, .inl (cb 7, 65, .inl (fun z9 => (w z9).2.2)))] := hD
  refine lv_iconst (v := 0) hx hb dY_next_5 (by decide) ?_
  refine tp_i (y := nI 0) (nI_0.symm) ?_
  refine lv_istore (lv' := [(4, .int (nI 0)), (0, .ref r0), (1, .long ck), (3, .int y)]) hx hb dY_next_6 hl (by decide) rfl (fun ls hl => ?_)
  have loop : ∀ (n : Nat) (j : Nat), j + n = tn → nxM t ck y n j = nxM t ck y tn 0 → ∀ (H : Heap) (locs : List Loc), va_P (dC, dI) clS [(r0, .inr (1, [.int 0, .ref b0, .int (nI tn), .ref b1, .ref b2, .ref b3, .int (nI wn), .ref b4, .ref b5, .ref b6, .ref b7, .int (nI ko), .int (nI mw)])), (b0, .inl (cb 0, 8, .inl (fun z9 => nI (cl z9)))), (b1, .inl (cb 1, 2040, .inl (fun z9 => nI ((t z9).1 / 256)))), (b2, .inl (cb 2, 2040, .inl (fun z9 => nI ((t z9).1 % 256)))), (b3, .inl (cb 3, 2040, .inl (fun z9 => (t z9).2))), (b4, .inl (cb 4, 65, .inl (fun z9 => nI ((w z9).1 / 256)))), (b5, .inl (cb 5, 65, .inl (fun z9 => nI ((w z9).1 % 256)))), (b6, .inl (cb 6, 65, .inr (.inl (fun z9 => (w z9).2.1)))), (b7, .inl (cb 7, 65, .inl (fun z9 => (w z9).2.2)))] H → va_D A [(r0, .inr (1, [.int 0, .ref b0, .int (nI tn), .ref b1, .ref b2, .ref b3, .int (nI wn), .ref b4, .ref b5, .ref b6, .ref b7, .int (nI ko), .int (nI mw)])), (b0, .inl (cb 0, 8, .inl (fun z9 => nI (cl z9)))), (b1, .inl (cb 1, 2040, .inl (fun z9 => nI ((t z9).1 / 256)))), (b2, .inl (cb 2, 2040, .inl (fun z9 => nI ((t z9).1 % 256)))), (b3, .inl (cb 3, 2040, .inl (fun z9 => (t z9).2))), (b4, .inl (cb 4, 65, .inl (fun z9 => nI ((w z9).1 / 256)))), (b5, .inl (cb 5, 65, .inl (fun z9 => nI ((w z9).1 % 256)))), (b6, .inl (cb 6, 65, .inr (.inl (fun z9 => (w z9).2.1)))), (b7, .inl (cb 7, 65, .inl (fun z9 => (w z9).2.2)))] → va_S A s.heap H locs → ∀ ls : Array Slot, lv_has ls 5 [(0, .ref r0), (1, .long ck), (3, .int y), (4, .int (nI j))] → W p l e (headSpec wsY_next ({ frames := 2, cells := 0, slots := 0, locals := 45 })).room s m args below meth c H locs 0 0 (MQ below (QmI (oI (nxM t ck y tn 0)) (dC, dI) clS [(r0, .inr (1, [.int th, .ref b0, .int (nI tn), .ref b1, .ref b2, .ref b3, .int (nI wn), .ref b4, .ref b5, .ref b6, .ref b7, .int (nI ko), .int (nI mw)])), (b0, .inl (cb 0, 8, .inl (fun z9 => nI (cl z9)))), (b1, .inl (cb 1, 2040, .inl (fun z9 => nI ((t z9).1 / 256)))), (b2, .inl (cb 2, 2040, .inl (fun z9 => nI ((t z9).1 % 256)))), (b3, .inl (cb 3, 2040, .inl (fun z9 => (t z9).2))), (b4, .inl (cb 4, 65, .inl (fun z9 => nI ((w z9).1 / 256)))), (b5, .inl (cb 5, 65, .inl (fun z9 => nI ((w z9).1 % 256)))), (b6, .inl (cb 6, 65, .inr (.inl (fun z9 => (w z9).2.1)))), (b7, .inl (cb 7, 65, .inl (fun z9 => (w z9).2.2)))] [(r0, .inr (1, [.int 0, .ref b0, .int (nI tn), .ref b1, .ref b2, .ref b3, .int (nI wn), .ref b4, .ref b5, .ref b6, .ref b7, .int (nI ko), .int (nI mw)])), (b0, .inl (cb 0, 8, .inl (fun z9 => nI (cl z9)))), (b1, .inl (cb 1, 2040, .inl (fun z9 => nI ((t z9).1 / 256)))), (b2, .inl (cb 2, 2040, .inl (fun z9 => nI ((t z9).1 % 256)))), (b3, .inl (cb 3, 2040, .inl (fun z9 => (t z9).2))), (b4, .inl (cb 4, 65, .inl (fun z9 => nI ((w z9).1 / 256)))), (b5, .inl (cb 5, 65, .inl (fun z9 => nI ((w z9).1 % 256)))), (b6, .inl (cb 6, 65, .inr (.inl (fun z9 => (w z9).2.1)))), (b7, .inl (cb 7, 65, .inl (fun z9 => (w z9).2.2)))] s.heap.size) args s 0 0 A) (F0 m 8 ls []) := by
    intro n
    induction n with
    | zero =>
      intro j hj hk9 H locs hP hD hS ls hl
      refine lv_iload hx hb dY_next_8 (lv_at hl 3 rfl) ?_
      refine lv_aload_n hx hb dY_next_10 rfl (lv_at hl 0 rfl) ?_
      refine va_get (D := (dC, dI)) (ci := 1) (v := .int (nI tn)) (C := RY) (T := TY) (N := 13) hx hb hts in_Y_next_Y hown hK hP 0 rfl rfl 2 (by decide) (hts (.fieldLink RY 52 "CausalGateModel" "through" "I") (by decide +kernel)) (fun _ h9 => h9) rfl dY_next_11 ?_
      refine lv_icmp_ge (tgt := 42) hx hb dY_next_14 (by decide) (fun c_14 => ?_) (fun c_14 => ?_)
      · refine lv_iconst (v := -1) hx hb dY_next_42 (by decide) ?_
        exact mi_ret hx hb hr hlocks (by rw [← hk9]; rfl) hAe hP hD hS dY_next_43
      · exact absurd (nI_le (by omega) (by omega)) c_14
    | succ n ih =>
      intro j hj hk9 H locs hP hD hS ls hl
      refine lv_iload hx hb dY_next_8 (lv_at hl 3 rfl) ?_
      refine lv_aload_n hx hb dY_next_10 rfl (lv_at hl 0 rfl) ?_
      refine va_get (D := (dC, dI)) (ci := 1) (v := .int (nI tn)) (C := RY) (T := TY) (N := 13) hx hb hts in_Y_next_Y hown hK hP 0 rfl rfl 2 (by decide) (hts (.fieldLink RY 52 "CausalGateModel" "through" "I") (by decide +kernel)) (fun _ h9 => h9) rfl dY_next_11 ?_
      refine lv_icmp_ge (tgt := 42) hx hb dY_next_14 (by decide) (fun c_14 => ?_) (fun c_14 => ?_)
      · exact absurd ((nI_leI (by omega) (by omega)).mp c_14) (by omega)
      · refine lv_iload hx hb dY_next_17 (lv_at hl 3 rfl) ?_
        refine lv_iload_n hx hb dY_next_19 rfl (lv_at hl 2 rfl) ?_
        refine lv_icmp_le (tgt := 36) hx hb dY_next_20 (by decide) (fun c_20 => ?_) (fun c_20 => ?_)
        · have c7 : ¬ (y < nI j ∧ lcM t ck j = true) := fun q => absurd c_20 (Int32.not_le.mpr q.1)
          refine lv_iinc (v := (nI (j + 1))) (lv' := [(4, .int (nI (j + 1))), (0, .ref r0), (1, .long ck), (3, .int y)]) hx hb dY_next_36 hl (k := 3) rfl (nI_1 j) (by decide) rfl (fun ls hl => ?_)
          refine lv_goto (tgt := 8) hx hb dY_next_39 (by decide) ?_
          exact ih (j + 1) (by omega) (by rw [← hk9]; simp only [nxM]; rw [if_neg c7]) _ _ hP hD hS ls (lv_sub hl [1, 2, 3, 0] rfl)
        · have c8 : y < nI j := Int32.not_le.mp c_20
          refine lv_aload_n hx hb dY_next_23 rfl (lv_at hl 0 rfl) ?_
          refine lv_lload_n hx hb dY_next_24 rfl (lv_at hl 1 rfl) ?_
          refine lv_iload hx hb dY_next_25 (lv_at hl 3 rfl) ?_
          refine rd_i (W.runV (As := [.long ck, .int (nI j)]) (rest := []) ⟨hx, hb, hml, hown, hts⟩ (kY_lacks l dC dI cb r0 b0 b1 b2 b3 b4 b5 b6 b7 0 cl t tn w wn ko mw htn ht ck j (by omega)) (cwV 2 hts gY_next_Y_lacks rfl rfl rfl (by decide +kernel) ⟨Nat.le_of_ble_eq_true rfl, Nat.le_of_ble_eq_true rfl⟩) (pr_V (ci := 1) (q0 := 0) hK hP rfl rfl) rfl rfl hl.1 rfl (lv_room (Nat.le_of_ble_eq_true rfl)) dY_next_27 ⟨Nat.zero_le _, Nat.zero_le _⟩) ?_
          refine lv_if_eq (tgt := 36) hx hb dY_next_30 (by decide) (fun c_30 => ?_) (fun c_30 => ?_)
          · have c7 : ¬ (y < nI j ∧ lcM t ck j = true) := fun q => absurd q.2 (by rw [bI_0.mp c_30]; decide)
            refine lv_iinc (v := (nI (j + 1))) (lv' := [(4, .int (nI (j + 1))), (0, .ref r0), (1, .long ck), (3, .int y)]) hx hb dY_next_36 hl (k := 3) rfl (nI_1 j) (by decide) rfl (fun ls hl => ?_)
            refine lv_goto (tgt := 8) hx hb dY_next_39 (by decide) ?_
            exact ih (j + 1) (by omega) (by rw [← hk9]; simp only [nxM]; rw [if_neg c7]) _ _ hP hD hS ls (lv_sub hl [1, 2, 3, 0] rfl)
          · have c7 : y < nI j ∧ lcM t ck j = true := ⟨c8, by cases hq9 : lcM t ck j; exact absurd (by rw [hq9]; rfl) c_30; rfl⟩
            refine lv_iload hx hb dY_next_33 (lv_at hl 3 rfl) ?_
            exact mi_ret hx hb hr hlocks (by rw [← hk9]; simp only [nxM]; rw [if_pos c7]; rfl) hAe hP hD hS dY_next_35
  exact loop tn 0 (by omega) rfl _ _ hP hD hS ls (lv_sub hl [1, 2, 3, 0] rfl)

set_option maxRecDepth 20000 in
theorem in_Y_compare_Y : ∀ w ∈ wsY0, w ∈ wsY_compare := by decide +kernel

set_option maxHeartbeats 4000000 in
set_option maxRecDepth 100000 in
theorem kY_compare (l : Launch) (dC : Nat → ClassId) (dI : Nat → Nat → Nat) (cb : Nat → ClassId) (r0 b0 b1 b2 b3 b4 b5 b6 b7 : Nat) (th : Int32) (cl : Nat → Nat) (t : TF) (tn : Nat) (w : WF) (wn : Nat) (ko mw : Nat) (sz : Nat) (hcl : ∀ a, a < 8 → cl a < 256) (ck : Int64) : Met l yY_compare wsY_compare ({ frames := 1, cells := 0, slots := 0, locals := 22 }) (Pm [.ref r0, .long ck] (dC, dI) clS [(cb 0, .int), (cb 1, .int), (cb 2, .int), (cb 3, .int), (cb 4, .int), (cb 5, .int), (cb 6, .long), (cb 7, .int)] [(r0, .inr (1, [.int th, .ref b0, .int (nI tn), .ref b1, .ref b2, .ref b3, .int (nI wn), .ref b4, .ref b5, .ref b6, .ref b7, .int (nI ko), .int (nI mw)])), (b0, .inl (cb 0, 8, .inl (fun z9 => nI (cl z9)))), (b1, .inl (cb 1, 2040, .inl (fun z9 => nI ((t z9).1 / 256)))), (b2, .inl (cb 2, 2040, .inl (fun z9 => nI ((t z9).1 % 256)))), (b3, .inl (cb 3, 2040, .inl (fun z9 => (t z9).2))), (b4, .inl (cb 4, 65, .inl (fun z9 => nI ((w z9).1 / 256)))), (b5, .inl (cb 5, 65, .inl (fun z9 => nI ((w z9).1 % 256)))), (b6, .inl (cb 6, 65, .inr (.inl (fun z9 => (w z9).2.1)))), (b7, .inl (cb 7, 65, .inl (fun z9 => (w z9).2.2)))] sz) (QmI (cmQ (cmM cl ck 8 0 false false)) (dC, dI) clS [(r0, .inr (1, [.int th, .ref b0, .int (nI tn), .ref b1, .ref b2, .ref b3, .int (nI wn), .ref b4, .ref b5, .ref b6, .ref b7, .int (nI ko), .int (nI mw)])), (b0, .inl (cb 0, 8, .inl (fun z9 => nI (cl z9)))), (b1, .inl (cb 1, 2040, .inl (fun z9 => nI ((t z9).1 / 256)))), (b2, .inl (cb 2, 2040, .inl (fun z9 => nI ((t z9).1 % 256)))), (b3, .inl (cb 3, 2040, .inl (fun z9 => (t z9).2))), (b4, .inl (cb 4, 65, .inl (fun z9 => nI ((w z9).1 / 256)))), (b5, .inl (cb 5, 65, .inl (fun z9 => nI ((w z9).1 % 256)))), (b6, .inl (cb 6, 65, .inr (.inl (fun z9 => (w z9).2.1)))), (b7, .inl (cb 7, 65, .inl (fun z9 => (w z9).2.2)))] [(r0, .inr (1, [.int 0, .ref b0, .int (nI tn), .ref b1, .ref b2, .ref b3, .int (nI wn), .ref b4, .ref b5, .ref b6, .ref b7, .int (nI ko), .int (nI mw)])), (b0, .inl (cb 0, 8, .inl (fun z9 => nI (cl z9)))), (b1, .inl (cb 1, 2040, .inl (fun z9 => nI ((t z9).1 / 256)))), (b2, .inl (cb 2, 2040, .inl (fun z9 => nI ((t z9).1 % 256)))), (b3, .inl (cb 3, 2040, .inl (fun z9 => (t z9).2))), (b4, .inl (cb 4, 65, .inl (fun z9 => nI ((w z9).1 / 256)))), (b5, .inl (cb 5, 65, .inl (fun z9 => nI ((w z9).1 % 256)))), (b6, .inl (cb 6, 65, .inr (.inl (fun z9 => (w z9).2.1)))), (b7, .inl (cb 7, 65, .inl (fun z9 => (w z9).2.2)))] sz) 0 0 (va_A [(r0, .inr (1, [.int th, .ref b0, .int (nI tn), .ref b1, .ref b2, .ref b3, .int (nI wn), .ref b4, .ref b5, .ref b6, .ref b7, .int (nI ko), .int (nI mw)])), (b0, .inl (cb 0, 8, .inl (fun z9 => nI (cl z9)))), (b1, .inl (cb 1, 2040, .inl (fun z9 => nI ((t z9).1 / 256)))), (b2, .inl (cb 2, 2040, .inl (fun z9 => nI ((t z9).1 % 256)))), (b3, .inl (cb 3, 2040, .inl (fun z9 => (t z9).2))), (b4, .inl (cb 4, 65, .inl (fun z9 => nI ((w z9).1 / 256)))), (b5, .inl (cb 5, 65, .inl (fun z9 => nI ((w z9).1 % 256)))), (b6, .inl (cb 6, 65, .inr (.inl (fun z9 => (w z9).2.1)))), (b7, .inl (cb 7, 65, .inl (fun z9 => (w z9).2.2)))] sz) := by
  refine Met.ofW (cc := cY_compare) (maxL := 6) (ret := (some .int)) (by decide) rfl ?_
  intro p e s m args below meth c s₁ B hml hv
  obtain ⟨hargs, hsz, hP, hK, hD0⟩ := hv
  have hx := B.exec
  have hb := B.bytes
  have hr := B.returns
  have hts := atoms_spec (ws := wsY_compare) B.pre
  have hown : s.vm.findClass RY = some m.cls := findClass_of_methodNamed B.named
  have hlocks := B.notSynchronized
  subst hsz
  have hD := hD0.self (sz := s.heap.size)
  obtain ⟨A, hAe⟩ : ∃ A, A = va_A [(r0, .inr (1, [.int th, .ref b0, .int (nI tn), .ref b1, .ref b2, .ref b3, .int (nI wn), .ref b4, .ref b5, .ref b6, .ref b7, .int (nI ko), .int (nI mw)])), (b0, .inl (cb 0, 8, .inl (fun z9 => nI (cl z9)))), (b1, .inl (cb 1, 2040, .inl (fun z9 => nI ((t z9).1 / 256)))), (b2, .inl (cb 2, 2040, .inl (fun z9 => nI ((t z9).1 % 256)))), (b3, .inl (cb 3, 2040, .inl (fun z9 => (t z9).2))), (b4, .inl (cb 4, 65, .inl (fun z9 => nI ((w z9).1 / 256)))), (b5, .inl (cb 5, 65, .inl (fun z9 => nI ((w z9).1 % 256)))), (b6, .inl (cb 6, 65, .inr (.inl (fun z9 => (w z9).2.1)))), (b7, .inl (cb 7, 65, .inl (fun z9 => (w z9).2.2)))] s.heap.size := ⟨_, rfl⟩
  rw [← hAe] at hD ⊢
  have hA : ∀ q : Nat, s.heap.size ≤ q → A q := fun q h => by rw [hAe]; exact Or.inr h
  have hS : va_S A s.heap s.heap [] := va_S.rf
  have hP : va_P (dC, dI) clS [(r0, .inr (1, [.int th, .ref b0, .int (nI tn), .ref b1, .ref b2, .ref b3, .int (nI wn), .ref b4, .ref b5, .ref b6, .ref b7, .int (nI ko), .int (nI mw)])), (b0, .inl (cb 0, 8, .inl (fun z9 => nI (cl z9)))), (b1, .inl (cb 1, 2040, .inl (fun z9 => nI ((t z9).1 / 256)))), (b2, .inl (cb 2, 2040, .inl (fun z9 => nI ((t z9).1 % 256)))), (b3, .inl (cb 3, 2040, .inl (fun z9 => (t z9).2))), (b4, .inl (cb 4, 65, .inl (fun z9 => nI ((w z9).1 / 256)))), (b5, .inl (cb 5, 65, .inl (fun z9 => nI ((w z9).1 % 256)))), (b6, .inl (cb 6, 65, .inr (.inl (fun z9 => (w z9).2.1)))), (b7, .inl (cb 7, 65, .inl (fun z9 => (w z9).2.2)))] s.heap := hP
  have hl := lv_entry ([.ref r0, .long ck]) (n := 6) (Nat.le_of_ble_eq_true rfl)
  have hE : entryFrame m args 6 = F0 m 0 ((lg_sl ([.ref r0, .long ck]) ++ List.replicate (6 - (lg_sl ([.ref r0, .long ck])).length) Slot.unset).toArray) [] := by rw [hargs]; exact lg_entry_eq m ([.ref r0, .long ck]) 6
  rw [hE]
  generalize (lg_sl ([.ref r0, .long ck]) ++ List.replicate (6 - (lg_sl ([.ref r0, .long ck])).length) Slot.unset).toArray = ls at hl ⊢
  have hl : lv_has ls 6 [(0, .ref r0), (1, .long ck)] := hl
  refine lv_aload_n hx hb dY_compare_0 rfl (lv_at hl 0 rfl) ?_
  refine lv_iconst (v := 0) hx hb dY_compare_1 (by decide) ?_
  refine va_put (D := (dC, dI)) (ci := 1) (v := .int 0) (ty := .int) (C := RY) (T := TY) (N := 13) hx hb hts in_Y_compare_Y tyY tyY_ok nmY hown hK hP hD hS 0 rfl rfl 0 (by decide) (hts (.fieldLink RY 35 "CausalGateModel" "thrown" "I") (by decide +kernel)) (fun _ h9 => h9) rfl (by decide +kernel) rfl rfl (Nat.le_of_ble_eq_true rfl) dY_compare_2 (fun H locs hP hD hS => ?_)
  have hP : va_P (dC, dI) clS [(r0, .inr (1, [.int 0, .ref b0, .int (nI tn), .ref b1, .ref b2, .ref b3, .int (nI wn), .ref b4, .ref b5, .ref b6, .ref b7, .int (nI ko), .int (nI mw)])), (b0, .inl (cb 0, 8, .inl (fun z9 => nI (cl z9)))), (b1, .inl (cb 1, 2040, .inl (fun z9 => nI ((t z9).1 / 256)))), (b2, .inl (cb 2, 2040, .inl (fun z9 => nI ((t z9).1 % 256)))), (b3, .inl (cb 3, 2040, .inl (fun z9 => (t z9).2))), (b4, .inl (cb 4, 65, .inl (fun z9 => nI ((w z9).1 / 256)))), (b5, .inl (cb 5, 65, .inl (fun z9 => nI ((w z9).1 % 256)))), (b6, .inl (cb 6, 65, .inr (.inl (fun z9 => (w z9).2.1)))), (b7, .inl (cb 7, 65, .inl (fun z9 => (w z9).2.2)))] H := hP
  have hD : va_D A [(r0, .inr (1, [.int 0, .ref b0, .int (nI tn), .ref b1, .ref b2, .ref b3, .int (nI wn), .ref b4, .ref b5, .ref b6, .ref b7, .int (nI ko), .int (nI mw)])), (b0, .inl (cb 0, 8, .inl (fun z9 => nI (cl z9)))), (b1, .inl (cb 1, 2040, .inl (fun z9 => nI ((t z9).1 / 256)))), (b2, .inl (cb 2, 2040, .inl (fun z9 => nI ((t z9).1 % 256)))), (b3, .inl (cb 3, 2040, .inl (fun z9 => (t z9).2))), (b4, .inl (cb 4, 65, .inl (fun z9 => nI ((w z9).1 / 256)))), (b5, .inl (cb 5, 65, .inl (fun z9 => nI ((w z9).1 % 256)))), (b6, .inl (cb 6, 65, .inr (.inl (fun z9 => (w z9).2.1)))), (b7, .inl (cb 7, 65, .inl (fun z9 => (w z9).2.2)))] := hD
  refine lv_iconst (v := 0) hx hb dY_compare_5 (by decide) ?_
  refine tp_i (y := bI false) (rfl) ?_
  refine lv_istore_n (lv' := [(3, .int (bI false)), (0, .ref r0), (1, .long ck)]) hx hb dY_compare_6 rfl hl (by decide) rfl (fun ls hl => ?_)
  refine lv_iconst (v := 0) hx hb dY_compare_7 (by decide) ?_
  refine tp_i (y := bI false) (rfl) ?_
  refine lv_istore (lv' := [(4, .int (bI false)), (3, .int (bI false)), (0, .ref r0), (1, .long ck)]) hx hb dY_compare_8 hl (by decide) rfl (fun ls hl => ?_)
  refine lv_iconst (v := 0) hx hb dY_compare_10 (by decide) ?_
  refine tp_i (y := nI 0) (nI_0.symm) ?_
  refine lv_istore (lv' := [(5, .int (nI 0)), (4, .int (bI false)), (3, .int (bI false)), (0, .ref r0), (1, .long ck)]) hx hb dY_compare_11 hl (by decide) rfl (fun ls hl => ?_)
  have loop : ∀ (n : Nat) (a : Nat) (x9 y9 : Bool), a + n = 8 → cmM cl ck n a x9 y9 = cmM cl ck 8 0 false false → ∀ (H : Heap) (locs : List Loc), va_P (dC, dI) clS [(r0, .inr (1, [.int 0, .ref b0, .int (nI tn), .ref b1, .ref b2, .ref b3, .int (nI wn), .ref b4, .ref b5, .ref b6, .ref b7, .int (nI ko), .int (nI mw)])), (b0, .inl (cb 0, 8, .inl (fun z9 => nI (cl z9)))), (b1, .inl (cb 1, 2040, .inl (fun z9 => nI ((t z9).1 / 256)))), (b2, .inl (cb 2, 2040, .inl (fun z9 => nI ((t z9).1 % 256)))), (b3, .inl (cb 3, 2040, .inl (fun z9 => (t z9).2))), (b4, .inl (cb 4, 65, .inl (fun z9 => nI ((w z9).1 / 256)))), (b5, .inl (cb 5, 65, .inl (fun z9 => nI ((w z9).1 % 256)))), (b6, .inl (cb 6, 65, .inr (.inl (fun z9 => (w z9).2.1)))), (b7, .inl (cb 7, 65, .inl (fun z9 => (w z9).2.2)))] H → va_D A [(r0, .inr (1, [.int 0, .ref b0, .int (nI tn), .ref b1, .ref b2, .ref b3, .int (nI wn), .ref b4, .ref b5, .ref b6, .ref b7, .int (nI ko), .int (nI mw)])), (b0, .inl (cb 0, 8, .inl (fun z9 => nI (cl z9)))), (b1, .inl (cb 1, 2040, .inl (fun z9 => nI ((t z9).1 / 256)))), (b2, .inl (cb 2, 2040, .inl (fun z9 => nI ((t z9).1 % 256)))), (b3, .inl (cb 3, 2040, .inl (fun z9 => (t z9).2))), (b4, .inl (cb 4, 65, .inl (fun z9 => nI ((w z9).1 / 256)))), (b5, .inl (cb 5, 65, .inl (fun z9 => nI ((w z9).1 % 256)))), (b6, .inl (cb 6, 65, .inr (.inl (fun z9 => (w z9).2.1)))), (b7, .inl (cb 7, 65, .inl (fun z9 => (w z9).2.2)))] → va_S A s.heap H locs → ∀ ls : Array Slot, lv_has ls 6 [(0, .ref r0), (1, .long ck), (3, .int (bI x9)), (4, .int (bI y9)), (5, .int (nI a))] → W p l e (headSpec wsY_compare ({ frames := 1, cells := 0, slots := 0, locals := 22 })).room s m args below meth c H locs 0 0 (MQ below (QmI (cmQ (cmM cl ck 8 0 false false)) (dC, dI) clS [(r0, .inr (1, [.int th, .ref b0, .int (nI tn), .ref b1, .ref b2, .ref b3, .int (nI wn), .ref b4, .ref b5, .ref b6, .ref b7, .int (nI ko), .int (nI mw)])), (b0, .inl (cb 0, 8, .inl (fun z9 => nI (cl z9)))), (b1, .inl (cb 1, 2040, .inl (fun z9 => nI ((t z9).1 / 256)))), (b2, .inl (cb 2, 2040, .inl (fun z9 => nI ((t z9).1 % 256)))), (b3, .inl (cb 3, 2040, .inl (fun z9 => (t z9).2))), (b4, .inl (cb 4, 65, .inl (fun z9 => nI ((w z9).1 / 256)))), (b5, .inl (cb 5, 65, .inl (fun z9 => nI ((w z9).1 % 256)))), (b6, .inl (cb 6, 65, .inr (.inl (fun z9 => (w z9).2.1)))), (b7, .inl (cb 7, 65, .inl (fun z9 => (w z9).2.2)))] [(r0, .inr (1, [.int 0, .ref b0, .int (nI tn), .ref b1, .ref b2, .ref b3, .int (nI wn), .ref b4, .ref b5, .ref b6, .ref b7, .int (nI ko), .int (nI mw)])), (b0, .inl (cb 0, 8, .inl (fun z9 => nI (cl z9)))), (b1, .inl (cb 1, 2040, .inl (fun z9 => nI ((t z9).1 / 256)))), (b2, .inl (cb 2, 2040, .inl (fun z9 => nI ((t z9).1 % 256)))), (b3, .inl (cb 3, 2040, .inl (fun z9 => (t z9).2))), (b4, .inl (cb 4, 65, .inl (fun z9 => nI ((w z9).1 / 256)))), (b5, .inl (cb 5, 65, .inl (fun z9 => nI ((w z9).1 % 256)))), (b6, .inl (cb 6, 65, .inr (.inl (fun z9 => (w z9).2.1)))), (b7, .inl (cb 7, 65, .inl (fun z9 => (w z9).2.2)))] s.heap.size) args s 0 0 A) (F0 m 13 ls []) := by
    intro n
    induction n with
    | zero =>
      intro a x9 y9 ha hk9 H locs hP hD hS ls hl
      refine lv_iload hx hb dY_compare_13 (lv_at hl 4 rfl) ?_
      refine lv_bipush (v := 8) hx hb dY_compare_15 (by decide) ?_
      refine tp_i (y := nI 8) (rfl) ?_
      refine lv_icmp_ge (tgt := 80) hx hb dY_compare_17 (by decide) (fun c_17 => ?_) (fun c_17 => ?_)
      · refine lv_iload_n hx hb dY_compare_80 rfl (lv_at hl 2 rfl) ?_
        refine lv_if_eq (tgt := 97) hx hb dY_compare_81 (by decide) (fun c_81 => ?_) (fun c_81 => ?_)
        · have hx9 : x9 = false := bI_0.mp c_81
          refine lv_iload hx hb dY_compare_97 (lv_at hl 3 rfl) ?_
          refine lv_if_eq (tgt := 106) hx hb dY_compare_99 (by decide) (fun c_99 => ?_) (fun c_99 => ?_)
          · have hy9 : y9 = false := bI_0.mp c_99
            refine lv_iconst (v := 0) hx hb dY_compare_106 (by decide) ?_
            exact mi_ret hx hb hr hlocks (by rw [← hk9, hx9, hy9]; rfl) hAe hP hD hS dY_compare_107
          · have hy9 : y9 = true := by cases y9; exact absurd rfl c_99; rfl
            refine lv_iconst (v := 1) hx hb dY_compare_102 (by decide) ?_
            refine lv_goto (tgt := 107) hx hb dY_compare_103 (by decide) ?_
            exact mi_ret hx hb hr hlocks (by rw [← hk9, hx9, hy9]; rfl) hAe hP hD hS dY_compare_107
        · have hx9 : x9 = true := by cases x9; exact absurd rfl c_81; rfl
          refine lv_iload hx hb dY_compare_84 (lv_at hl 3 rfl) ?_
          refine lv_if_eq (tgt := 93) hx hb dY_compare_86 (by decide) (fun c_86 => ?_) (fun c_86 => ?_)
          · have hy9 : y9 = false := bI_0.mp c_86
            refine lv_iconst (v := 2) hx hb dY_compare_93 (by decide) ?_
            refine lv_goto (tgt := 107) hx hb dY_compare_94 (by decide) ?_
            exact mi_ret hx hb hr hlocks (by rw [← hk9, hx9, hy9]; rfl) hAe hP hD hS dY_compare_107
          · have hy9 : y9 = true := by cases y9; exact absurd rfl c_86; rfl
            refine lv_iconst (v := 3) hx hb dY_compare_89 (by decide) ?_
            refine lv_goto (tgt := 107) hx hb dY_compare_90 (by decide) ?_
            exact mi_ret hx hb hr hlocks (by rw [← hk9, hx9, hy9]; rfl) hAe hP hD hS dY_compare_107
      · exact absurd (nI_le (by omega) (by omega)) c_17
    | succ n ih =>
      intro a x9 y9 ha hk9 H locs hP hD hS ls hl
      refine lv_iload hx hb dY_compare_13 (lv_at hl 4 rfl) ?_
      refine lv_bipush (v := 8) hx hb dY_compare_15 (by decide) ?_
      refine tp_i (y := nI 8) (rfl) ?_
      refine lv_icmp_ge (tgt := 80) hx hb dY_compare_17 (by decide) (fun c_17 => ?_) (fun c_17 => ?_)
      · exact absurd ((nI_leI (by omega) (by omega)).mp c_17) (by omega)
      · refine lv_iload_n hx hb dY_compare_20 rfl (lv_at hl 2 rfl) ?_
        refine lv_if_ne (tgt := 40) hx hb dY_compare_21 (by decide) (fun c_21 => ?_) (fun c_21 => ?_)
        · have hx9 : x9 = true := by cases x9; exact absurd rfl c_21; rfl
          have e8 : (x9 || decide (cl a < by_ ck a)) = true := by simp [hx9]
          refine lv_iconst (v := 1) hx hb dY_compare_40 (by decide) ?_
          refine tp_i (y := bI (x9 || decide (cl a < by_ ck a))) (by rw [e8]; rfl) ?_
          refine lv_goto (tgt := 45) hx hb dY_compare_41 (by decide) ?_
          refine lv_istore_n (lv' := [(3, .int (bI (x9 || decide (cl a < by_ ck a)))), (0, .ref r0), (1, .long ck), (4, .int (bI y9)), (5, .int (nI a))]) hx hb dY_compare_45 rfl hl (by decide) rfl (fun ls hl => ?_)
          refine lv_iload hx hb dY_compare_46 (lv_at hl 3 rfl) ?_
          refine lv_if_ne (tgt := 67) hx hb dY_compare_48 (by decide) (fun c_48 => ?_) (fun c_48 => ?_)
          · have hy9 : y9 = true := by cases y9; exact absurd rfl c_48; rfl
            have e7 : (y9 || decide (by_ ck a < cl a)) = true := by simp [hy9]
            refine lv_iconst (v := 1) hx hb dY_compare_67 (by decide) ?_
            refine tp_i (y := bI (y9 || decide (by_ ck a < cl a))) (by rw [e7]; rfl) ?_
            refine lv_goto (tgt := 72) hx hb dY_compare_68 (by decide) ?_
            refine lv_istore (lv' := [(4, .int (bI (y9 || decide (by_ ck a < cl a)))), (3, .int (bI (x9 || decide (cl a < by_ ck a)))), (0, .ref r0), (1, .long ck), (5, .int (nI a))]) hx hb dY_compare_72 hl (by decide) rfl (fun ls hl => ?_)
            refine lv_iinc (v := (nI (a + 1))) (lv' := [(5, .int (nI (a + 1))), (4, .int (bI (y9 || decide (by_ ck a < cl a)))), (3, .int (bI (x9 || decide (cl a < by_ ck a)))), (0, .ref r0), (1, .long ck)]) hx hb dY_compare_74 hl (k := 4) rfl (nI_1 a) (by decide) rfl (fun ls hl => ?_)
            refine lv_goto (tgt := 13) hx hb dY_compare_77 (by decide) ?_
            exact ih (a + 1) (x9 || decide (cl a < by_ ck a)) (y9 || decide (by_ ck a < cl a)) (by omega) (by rw [← hk9]; rfl) _ _ hP hD hS ls (lv_sub hl [3, 4, 2, 1, 0] rfl)
          · have hy9 : y9 = false := bI_0.mp c_48
            refine lv_aload_n hx hb dY_compare_51 rfl (lv_at hl 1 rfl) ?_
            refine va_get (D := (dC, dI)) (ci := 1) (v := .ref b0) (C := RY) (T := TY) (N := 13) hx hb hts in_Y_compare_Y hown hK hP 0 rfl rfl 1 (by decide) (hts (.fieldLink RY 7 "CausalGateModel" "clock" "[I") (by decide +kernel)) (fun _ h9 => h9) rfl dY_compare_52 ?_
            refine lv_iload hx hb dY_compare_55 (lv_at hl 4 rfl) ?_
            refine va_iald hx hb hK hP 1 0 rfl rfl (vp_in_nI (by omega) (by decide)) dY_compare_57 ?_
            refine tp_i (y := nI (cl a)) (by rw [nI_clamp (by omega)]) ?_
            refine lv_lload_n hx hb dY_compare_58 rfl (lv_at hl 2 rfl) ?_
            refine lv_iload hx hb dY_compare_59 (lv_at hl 4 rfl) ?_
            refine rd_i (W.runS (As := [.long ck, .int (nI a)]) (rest := [.int (nI (cl a))]) ⟨hx, hb, hml, hown, hts⟩ (kY_part l ck a (by omega)) (va_cwS 2 hts gY_compare_Y_part rfl rfl rfl (by decide +kernel) ⟨Nat.le_of_ble_eq_true rfl, Nat.le_of_ble_eq_true rfl⟩) preEq rfl rfl hl.1 rfl (lv_room (Nat.le_of_ble_eq_true rfl)) dY_compare_61 ⟨Nat.zero_le _, Nat.zero_le _⟩) ?_
            refine lv_icmp_le (tgt := 71) hx hb dY_compare_64 (by decide) (fun c_64 => ?_) (fun c_64 => ?_)
            · have e7 : (y9 || decide (by_ ck a < cl a)) = false := by simp [hy9]; exact (nI_leI (by have := hcl a (by omega); have := by_lt ck a; omega) (by have := hcl a (by omega); have := by_lt ck a; omega)).mp c_64
              refine lv_iconst (v := 0) hx hb dY_compare_71 (by decide) ?_
              refine tp_i (y := bI (y9 || decide (by_ ck a < cl a))) (by rw [e7]; rfl) ?_
              refine lv_istore (lv' := [(4, .int (bI (y9 || decide (by_ ck a < cl a)))), (3, .int (bI (x9 || decide (cl a < by_ ck a)))), (0, .ref r0), (1, .long ck), (5, .int (nI a))]) hx hb dY_compare_72 hl (by decide) rfl (fun ls hl => ?_)
              refine lv_iinc (v := (nI (a + 1))) (lv' := [(5, .int (nI (a + 1))), (4, .int (bI (y9 || decide (by_ ck a < cl a)))), (3, .int (bI (x9 || decide (cl a < by_ ck a)))), (0, .ref r0), (1, .long ck)]) hx hb dY_compare_74 hl (k := 4) rfl (nI_1 a) (by decide) rfl (fun ls hl => ?_)
              refine lv_goto (tgt := 13) hx hb dY_compare_77 (by decide) ?_
              exact ih (a + 1) (x9 || decide (cl a < by_ ck a)) (y9 || decide (by_ ck a < cl a)) (by omega) (by rw [← hk9]; rfl) _ _ hP hD hS ls (lv_sub hl [3, 4, 2, 1, 0] rfl)
            · have e7 : (y9 || decide (by_ ck a < cl a)) = true := by simp [hy9]; exact Nat.lt_of_not_le fun q => c_64 (nI_le q (by have := hcl a (by omega); have := by_lt ck a; omega))
              refine lv_iconst (v := 1) hx hb dY_compare_67 (by decide) ?_
              refine tp_i (y := bI (y9 || decide (by_ ck a < cl a))) (by rw [e7]; rfl) ?_
              refine lv_goto (tgt := 72) hx hb dY_compare_68 (by decide) ?_
              refine lv_istore (lv' := [(4, .int (bI (y9 || decide (by_ ck a < cl a)))), (3, .int (bI (x9 || decide (cl a < by_ ck a)))), (0, .ref r0), (1, .long ck), (5, .int (nI a))]) hx hb dY_compare_72 hl (by decide) rfl (fun ls hl => ?_)
              refine lv_iinc (v := (nI (a + 1))) (lv' := [(5, .int (nI (a + 1))), (4, .int (bI (y9 || decide (by_ ck a < cl a)))), (3, .int (bI (x9 || decide (cl a < by_ ck a)))), (0, .ref r0), (1, .long ck)]) hx hb dY_compare_74 hl (k := 4) rfl (nI_1 a) (by decide) rfl (fun ls hl => ?_)
              refine lv_goto (tgt := 13) hx hb dY_compare_77 (by decide) ?_
              exact ih (a + 1) (x9 || decide (cl a < by_ ck a)) (y9 || decide (by_ ck a < cl a)) (by omega) (by rw [← hk9]; rfl) _ _ hP hD hS ls (lv_sub hl [3, 4, 2, 1, 0] rfl)
        · have hx9 : x9 = false := bI_0.mp c_21
          refine lv_aload_n hx hb dY_compare_24 rfl (lv_at hl 0 rfl) ?_
          refine va_get (D := (dC, dI)) (ci := 1) (v := .ref b0) (C := RY) (T := TY) (N := 13) hx hb hts in_Y_compare_Y hown hK hP 0 rfl rfl 1 (by decide) (hts (.fieldLink RY 7 "CausalGateModel" "clock" "[I") (by decide +kernel)) (fun _ h9 => h9) rfl dY_compare_25 ?_
          refine lv_iload hx hb dY_compare_28 (lv_at hl 4 rfl) ?_
          refine va_iald hx hb hK hP 1 0 rfl rfl (vp_in_nI (by omega) (by decide)) dY_compare_30 ?_
          refine tp_i (y := nI (cl a)) (by rw [nI_clamp (by omega)]) ?_
          refine lv_lload_n hx hb dY_compare_31 rfl (lv_at hl 1 rfl) ?_
          refine lv_iload hx hb dY_compare_32 (lv_at hl 4 rfl) ?_
          refine rd_i (W.runS (As := [.long ck, .int (nI a)]) (rest := [.int (nI (cl a))]) ⟨hx, hb, hml, hown, hts⟩ (kY_part l ck a (by omega)) (va_cwS 2 hts gY_compare_Y_part rfl rfl rfl (by decide +kernel) ⟨Nat.le_of_ble_eq_true rfl, Nat.le_of_ble_eq_true rfl⟩) preEq rfl rfl hl.1 rfl (lv_room (Nat.le_of_ble_eq_true rfl)) dY_compare_34 ⟨Nat.zero_le _, Nat.zero_le _⟩) ?_
          refine lv_icmp_ge (tgt := 44) hx hb dY_compare_37 (by decide) (fun c_37 => ?_) (fun c_37 => ?_)
          · have e8 : (x9 || decide (cl a < by_ ck a)) = false := by simp [hx9]; exact (nI_leI (by have := hcl a (by omega); have := by_lt ck a; omega) (by have := hcl a (by omega); have := by_lt ck a; omega)).mp c_37
            refine lv_iconst (v := 0) hx hb dY_compare_44 (by decide) ?_
            refine tp_i (y := bI (x9 || decide (cl a < by_ ck a))) (by rw [e8]; rfl) ?_
            refine lv_istore_n (lv' := [(3, .int (bI (x9 || decide (cl a < by_ ck a)))), (0, .ref r0), (1, .long ck), (4, .int (bI y9)), (5, .int (nI a))]) hx hb dY_compare_45 rfl hl (by decide) rfl (fun ls hl => ?_)
            refine lv_iload hx hb dY_compare_46 (lv_at hl 3 rfl) ?_
            refine lv_if_ne (tgt := 67) hx hb dY_compare_48 (by decide) (fun c_48 => ?_) (fun c_48 => ?_)
            · have hy9 : y9 = true := by cases y9; exact absurd rfl c_48; rfl
              have e7 : (y9 || decide (by_ ck a < cl a)) = true := by simp [hy9]
              refine lv_iconst (v := 1) hx hb dY_compare_67 (by decide) ?_
              refine tp_i (y := bI (y9 || decide (by_ ck a < cl a))) (by rw [e7]; rfl) ?_
              refine lv_goto (tgt := 72) hx hb dY_compare_68 (by decide) ?_
              refine lv_istore (lv' := [(4, .int (bI (y9 || decide (by_ ck a < cl a)))), (3, .int (bI (x9 || decide (cl a < by_ ck a)))), (0, .ref r0), (1, .long ck), (5, .int (nI a))]) hx hb dY_compare_72 hl (by decide) rfl (fun ls hl => ?_)
              refine lv_iinc (v := (nI (a + 1))) (lv' := [(5, .int (nI (a + 1))), (4, .int (bI (y9 || decide (by_ ck a < cl a)))), (3, .int (bI (x9 || decide (cl a < by_ ck a)))), (0, .ref r0), (1, .long ck)]) hx hb dY_compare_74 hl (k := 4) rfl (nI_1 a) (by decide) rfl (fun ls hl => ?_)
              refine lv_goto (tgt := 13) hx hb dY_compare_77 (by decide) ?_
              exact ih (a + 1) (x9 || decide (cl a < by_ ck a)) (y9 || decide (by_ ck a < cl a)) (by omega) (by rw [← hk9]; rfl) _ _ hP hD hS ls (lv_sub hl [3, 4, 2, 1, 0] rfl)
            · have hy9 : y9 = false := bI_0.mp c_48
              refine lv_aload_n hx hb dY_compare_51 rfl (lv_at hl 1 rfl) ?_
              refine va_get (D := (dC, dI)) (ci := 1) (v := .ref b0) (C := RY) (T := TY) (N := 13) hx hb hts in_Y_compare_Y hown hK hP 0 rfl rfl 1 (by decide) (hts (.fieldLink RY 7 "CausalGateModel" "clock" "[I") (by decide +kernel)) (fun _ h9 => h9) rfl dY_compare_52 ?_
              refine lv_iload hx hb dY_compare_55 (lv_at hl 4 rfl) ?_
              refine va_iald hx hb hK hP 1 0 rfl rfl (vp_in_nI (by omega) (by decide)) dY_compare_57 ?_
              refine tp_i (y := nI (cl a)) (by rw [nI_clamp (by omega)]) ?_
              refine lv_lload_n hx hb dY_compare_58 rfl (lv_at hl 2 rfl) ?_
              refine lv_iload hx hb dY_compare_59 (lv_at hl 4 rfl) ?_
              refine rd_i (W.runS (As := [.long ck, .int (nI a)]) (rest := [.int (nI (cl a))]) ⟨hx, hb, hml, hown, hts⟩ (kY_part l ck a (by omega)) (va_cwS 2 hts gY_compare_Y_part rfl rfl rfl (by decide +kernel) ⟨Nat.le_of_ble_eq_true rfl, Nat.le_of_ble_eq_true rfl⟩) preEq rfl rfl hl.1 rfl (lv_room (Nat.le_of_ble_eq_true rfl)) dY_compare_61 ⟨Nat.zero_le _, Nat.zero_le _⟩) ?_
              refine lv_icmp_le (tgt := 71) hx hb dY_compare_64 (by decide) (fun c_64 => ?_) (fun c_64 => ?_)
              · have e7 : (y9 || decide (by_ ck a < cl a)) = false := by simp [hy9]; exact (nI_leI (by have := hcl a (by omega); have := by_lt ck a; omega) (by have := hcl a (by omega); have := by_lt ck a; omega)).mp c_64
                refine lv_iconst (v := 0) hx hb dY_compare_71 (by decide) ?_
                refine tp_i (y := bI (y9 || decide (by_ ck a < cl a))) (by rw [e7]; rfl) ?_
                refine lv_istore (lv' := [(4, .int (bI (y9 || decide (by_ ck a < cl a)))), (3, .int (bI (x9 || decide (cl a < by_ ck a)))), (0, .ref r0), (1, .long ck), (5, .int (nI a))]) hx hb dY_compare_72 hl (by decide) rfl (fun ls hl => ?_)
                refine lv_iinc (v := (nI (a + 1))) (lv' := [(5, .int (nI (a + 1))), (4, .int (bI (y9 || decide (by_ ck a < cl a)))), (3, .int (bI (x9 || decide (cl a < by_ ck a)))), (0, .ref r0), (1, .long ck)]) hx hb dY_compare_74 hl (k := 4) rfl (nI_1 a) (by decide) rfl (fun ls hl => ?_)
                refine lv_goto (tgt := 13) hx hb dY_compare_77 (by decide) ?_
                exact ih (a + 1) (x9 || decide (cl a < by_ ck a)) (y9 || decide (by_ ck a < cl a)) (by omega) (by rw [← hk9]; rfl) _ _ hP hD hS ls (lv_sub hl [3, 4, 2, 1, 0] rfl)
              · have e7 : (y9 || decide (by_ ck a < cl a)) = true := by simp [hy9]; exact Nat.lt_of_not_le fun q => c_64 (nI_le q (by have := hcl a (by omega); have := by_lt ck a; omega))
                refine lv_iconst (v := 1) hx hb dY_compare_67 (by decide) ?_
                refine tp_i (y := bI (y9 || decide (by_ ck a < cl a))) (by rw [e7]; rfl) ?_
                refine lv_goto (tgt := 72) hx hb dY_compare_68 (by decide) ?_
                refine lv_istore (lv' := [(4, .int (bI (y9 || decide (by_ ck a < cl a)))), (3, .int (bI (x9 || decide (cl a < by_ ck a)))), (0, .ref r0), (1, .long ck), (5, .int (nI a))]) hx hb dY_compare_72 hl (by decide) rfl (fun ls hl => ?_)
                refine lv_iinc (v := (nI (a + 1))) (lv' := [(5, .int (nI (a + 1))), (4, .int (bI (y9 || decide (by_ ck a < cl a)))), (3, .int (bI (x9 || decide (cl a < by_ ck a)))), (0, .ref r0), (1, .long ck)]) hx hb dY_compare_74 hl (k := 4) rfl (nI_1 a) (by decide) rfl (fun ls hl => ?_)
                refine lv_goto (tgt := 13) hx hb dY_compare_77 (by decide) ?_
                exact ih (a + 1) (x9 || decide (cl a < by_ ck a)) (y9 || decide (by_ ck a < cl a)) (by omega) (by rw [← hk9]; rfl) _ _ hP hD hS ls (lv_sub hl [3, 4, 2, 1, 0] rfl)
          · have e8 : (x9 || decide (cl a < by_ ck a)) = true := by simp [hx9]; exact Nat.lt_of_not_le fun q => c_37 (nI_le q (by have := hcl a (by omega); have := by_lt ck a; omega))
            refine lv_iconst (v := 1) hx hb dY_compare_40 (by decide) ?_
            refine tp_i (y := bI (x9 || decide (cl a < by_ ck a))) (by rw [e8]; rfl) ?_
            refine lv_goto (tgt := 45) hx hb dY_compare_41 (by decide) ?_
            refine lv_istore_n (lv' := [(3, .int (bI (x9 || decide (cl a < by_ ck a)))), (0, .ref r0), (1, .long ck), (4, .int (bI y9)), (5, .int (nI a))]) hx hb dY_compare_45 rfl hl (by decide) rfl (fun ls hl => ?_)
            refine lv_iload hx hb dY_compare_46 (lv_at hl 3 rfl) ?_
            refine lv_if_ne (tgt := 67) hx hb dY_compare_48 (by decide) (fun c_48 => ?_) (fun c_48 => ?_)
            · have hy9 : y9 = true := by cases y9; exact absurd rfl c_48; rfl
              have e7 : (y9 || decide (by_ ck a < cl a)) = true := by simp [hy9]
              refine lv_iconst (v := 1) hx hb dY_compare_67 (by decide) ?_
              refine tp_i (y := bI (y9 || decide (by_ ck a < cl a))) (by rw [e7]; rfl) ?_
              refine lv_goto (tgt := 72) hx hb dY_compare_68 (by decide) ?_
              refine lv_istore (lv' := [(4, .int (bI (y9 || decide (by_ ck a < cl a)))), (3, .int (bI (x9 || decide (cl a < by_ ck a)))), (0, .ref r0), (1, .long ck), (5, .int (nI a))]) hx hb dY_compare_72 hl (by decide) rfl (fun ls hl => ?_)
              refine lv_iinc (v := (nI (a + 1))) (lv' := [(5, .int (nI (a + 1))), (4, .int (bI (y9 || decide (by_ ck a < cl a)))), (3, .int (bI (x9 || decide (cl a < by_ ck a)))), (0, .ref r0), (1, .long ck)]) hx hb dY_compare_74 hl (k := 4) rfl (nI_1 a) (by decide) rfl (fun ls hl => ?_)
              refine lv_goto (tgt := 13) hx hb dY_compare_77 (by decide) ?_
              exact ih (a + 1) (x9 || decide (cl a < by_ ck a)) (y9 || decide (by_ ck a < cl a)) (by omega) (by rw [← hk9]; rfl) _ _ hP hD hS ls (lv_sub hl [3, 4, 2, 1, 0] rfl)
            · have hy9 : y9 = false := bI_0.mp c_48
              refine lv_aload_n hx hb dY_compare_51 rfl (lv_at hl 1 rfl) ?_
              refine va_get (D := (dC, dI)) (ci := 1) (v := .ref b0) (C := RY) (T := TY) (N := 13) hx hb hts in_Y_compare_Y hown hK hP 0 rfl rfl 1 (by decide) (hts (.fieldLink RY 7 "CausalGateModel" "clock" "[I") (by decide +kernel)) (fun _ h9 => h9) rfl dY_compare_52 ?_
              refine lv_iload hx hb dY_compare_55 (lv_at hl 4 rfl) ?_
              refine va_iald hx hb hK hP 1 0 rfl rfl (vp_in_nI (by omega) (by decide)) dY_compare_57 ?_
              refine tp_i (y := nI (cl a)) (by rw [nI_clamp (by omega)]) ?_
              refine lv_lload_n hx hb dY_compare_58 rfl (lv_at hl 2 rfl) ?_
              refine lv_iload hx hb dY_compare_59 (lv_at hl 4 rfl) ?_
              refine rd_i (W.runS (As := [.long ck, .int (nI a)]) (rest := [.int (nI (cl a))]) ⟨hx, hb, hml, hown, hts⟩ (kY_part l ck a (by omega)) (va_cwS 2 hts gY_compare_Y_part rfl rfl rfl (by decide +kernel) ⟨Nat.le_of_ble_eq_true rfl, Nat.le_of_ble_eq_true rfl⟩) preEq rfl rfl hl.1 rfl (lv_room (Nat.le_of_ble_eq_true rfl)) dY_compare_61 ⟨Nat.zero_le _, Nat.zero_le _⟩) ?_
              refine lv_icmp_le (tgt := 71) hx hb dY_compare_64 (by decide) (fun c_64 => ?_) (fun c_64 => ?_)
              · have e7 : (y9 || decide (by_ ck a < cl a)) = false := by simp [hy9]; exact (nI_leI (by have := hcl a (by omega); have := by_lt ck a; omega) (by have := hcl a (by omega); have := by_lt ck a; omega)).mp c_64
                refine lv_iconst (v := 0) hx hb dY_compare_71 (by decide) ?_
                refine tp_i (y := bI (y9 || decide (by_ ck a < cl a))) (by rw [e7]; rfl) ?_
                refine lv_istore (lv' := [(4, .int (bI (y9 || decide (by_ ck a < cl a)))), (3, .int (bI (x9 || decide (cl a < by_ ck a)))), (0, .ref r0), (1, .long ck), (5, .int (nI a))]) hx hb dY_compare_72 hl (by decide) rfl (fun ls hl => ?_)
                refine lv_iinc (v := (nI (a + 1))) (lv' := [(5, .int (nI (a + 1))), (4, .int (bI (y9 || decide (by_ ck a < cl a)))), (3, .int (bI (x9 || decide (cl a < by_ ck a)))), (0, .ref r0), (1, .long ck)]) hx hb dY_compare_74 hl (k := 4) rfl (nI_1 a) (by decide) rfl (fun ls hl => ?_)
                refine lv_goto (tgt := 13) hx hb dY_compare_77 (by decide) ?_
                exact ih (a + 1) (x9 || decide (cl a < by_ ck a)) (y9 || decide (by_ ck a < cl a)) (by omega) (by rw [← hk9]; rfl) _ _ hP hD hS ls (lv_sub hl [3, 4, 2, 1, 0] rfl)
              · have e7 : (y9 || decide (by_ ck a < cl a)) = true := by simp [hy9]; exact Nat.lt_of_not_le fun q => c_64 (nI_le q (by have := hcl a (by omega); have := by_lt ck a; omega))
                refine lv_iconst (v := 1) hx hb dY_compare_67 (by decide) ?_
                refine tp_i (y := bI (y9 || decide (by_ ck a < cl a))) (by rw [e7]; rfl) ?_
                refine lv_goto (tgt := 72) hx hb dY_compare_68 (by decide) ?_
                refine lv_istore (lv' := [(4, .int (bI (y9 || decide (by_ ck a < cl a)))), (3, .int (bI (x9 || decide (cl a < by_ ck a)))), (0, .ref r0), (1, .long ck), (5, .int (nI a))]) hx hb dY_compare_72 hl (by decide) rfl (fun ls hl => ?_)
                refine lv_iinc (v := (nI (a + 1))) (lv' := [(5, .int (nI (a + 1))), (4, .int (bI (y9 || decide (by_ ck a < cl a)))), (3, .int (bI (x9 || decide (cl a < by_ ck a)))), (0, .ref r0), (1, .long ck)]) hx hb dY_compare_74 hl (k := 4) rfl (nI_1 a) (by decide) rfl (fun ls hl => ?_)
                refine lv_goto (tgt := 13) hx hb dY_compare_77 (by decide) ?_
                exact ih (a + 1) (x9 || decide (cl a < by_ ck a)) (y9 || decide (by_ ck a < cl a)) (by omega) (by rw [← hk9]; rfl) _ _ hP hD hS ls (lv_sub hl [3, 4, 2, 1, 0] rfl)
  exact loop 8 0 false false (by omega) rfl _ _ hP hD hS ls (lv_sub hl [3, 4, 2, 1, 0] rfl)

set_option maxRecDepth 20000 in
theorem in_Y_forget_Y : ∀ w ∈ wsY0, w ∈ wsY_forget := by decide +kernel

set_option maxHeartbeats 4000000 in
set_option maxRecDepth 100000 in
theorem kY_forget (l : Launch) (dC : Nat → ClassId) (dI : Nat → Nat → Nat) (cb : Nat → ClassId) (r0 b0 b1 b2 b3 b4 b5 b6 b7 : Nat) (th : Int32) (cl : Nat → Nat) (t : TF) (tn : Nat) (w : WF) (wn : Nat) (ko mw : Nat) (sz : Nat) (hwn : wn ≤ 65) (hw : ∀ j, j < wn → (w j).1 < 2048) (x : Int32) : Met l yY_forget wsY_forget ({ frames := 1, cells := 0, slots := 0, locals := 22 }) (Pm [.ref r0, .int x] (dC, dI) clS [(cb 0, .int), (cb 1, .int), (cb 2, .int), (cb 3, .int), (cb 4, .int), (cb 5, .int), (cb 6, .long), (cb 7, .int)] [(r0, .inr (1, [.int th, .ref b0, .int (nI tn), .ref b1, .ref b2, .ref b3, .int (nI wn), .ref b4, .ref b5, .ref b6, .ref b7, .int (nI ko), .int (nI mw)])), (b0, .inl (cb 0, 8, .inl (fun z9 => nI (cl z9)))), (b1, .inl (cb 1, 2040, .inl (fun z9 => nI ((t z9).1 / 256)))), (b2, .inl (cb 2, 2040, .inl (fun z9 => nI ((t z9).1 % 256)))), (b3, .inl (cb 3, 2040, .inl (fun z9 => (t z9).2))), (b4, .inl (cb 4, 65, .inl (fun z9 => nI ((w z9).1 / 256)))), (b5, .inl (cb 5, 65, .inl (fun z9 => nI ((w z9).1 % 256)))), (b6, .inl (cb 6, 65, .inr (.inl (fun z9 => (w z9).2.1)))), (b7, .inl (cb 7, 65, .inl (fun z9 => (w z9).2.2)))] sz) (QmI (nI (fgM x wn wn 0 w).2.2) (dC, dI) clS [(r0, .inr (1, [.int th, .ref b0, .int (nI tn), .ref b1, .ref b2, .ref b3, .int (nI wn), .ref b4, .ref b5, .ref b6, .ref b7, .int (nI ko), .int (nI mw)])), (b0, .inl (cb 0, 8, .inl (fun z9 => nI (cl z9)))), (b1, .inl (cb 1, 2040, .inl (fun z9 => nI ((t z9).1 / 256)))), (b2, .inl (cb 2, 2040, .inl (fun z9 => nI ((t z9).1 % 256)))), (b3, .inl (cb 3, 2040, .inl (fun z9 => (t z9).2))), (b4, .inl (cb 4, 65, .inl (fun z9 => nI ((w z9).1 / 256)))), (b5, .inl (cb 5, 65, .inl (fun z9 => nI ((w z9).1 % 256)))), (b6, .inl (cb 6, 65, .inr (.inl (fun z9 => (w z9).2.1)))), (b7, .inl (cb 7, 65, .inl (fun z9 => (w z9).2.2)))] [(r0, .inr (1, [.int 0, .ref b0, .int (nI tn), .ref b1, .ref b2, .ref b3, .int (nI ((fgM x wn wn 0 w).2.1)), .ref b4, .ref b5, .ref b6, .ref b7, .int (nI ko), .int (nI mw)])), (b0, .inl (cb 0, 8, .inl (fun z9 => nI (cl z9)))), (b1, .inl (cb 1, 2040, .inl (fun z9 => nI ((t z9).1 / 256)))), (b2, .inl (cb 2, 2040, .inl (fun z9 => nI ((t z9).1 % 256)))), (b3, .inl (cb 3, 2040, .inl (fun z9 => (t z9).2))), (b4, .inl (cb 4, 65, .inl (fun z9 => nI ((((fgM x wn wn 0 w).1) z9).1 / 256)))), (b5, .inl (cb 5, 65, .inl (fun z9 => nI ((((fgM x wn wn 0 w).1) z9).1 % 256)))), (b6, .inl (cb 6, 65, .inr (.inl (fun z9 => (((fgM x wn wn 0 w).1) z9).2.1)))), (b7, .inl (cb 7, 65, .inl (fun z9 => (((fgM x wn wn 0 w).1) z9).2.2)))] sz) 0 0 (va_A [(r0, .inr (1, [.int th, .ref b0, .int (nI tn), .ref b1, .ref b2, .ref b3, .int (nI wn), .ref b4, .ref b5, .ref b6, .ref b7, .int (nI ko), .int (nI mw)])), (b0, .inl (cb 0, 8, .inl (fun z9 => nI (cl z9)))), (b1, .inl (cb 1, 2040, .inl (fun z9 => nI ((t z9).1 / 256)))), (b2, .inl (cb 2, 2040, .inl (fun z9 => nI ((t z9).1 % 256)))), (b3, .inl (cb 3, 2040, .inl (fun z9 => (t z9).2))), (b4, .inl (cb 4, 65, .inl (fun z9 => nI ((w z9).1 / 256)))), (b5, .inl (cb 5, 65, .inl (fun z9 => nI ((w z9).1 % 256)))), (b6, .inl (cb 6, 65, .inr (.inl (fun z9 => (w z9).2.1)))), (b7, .inl (cb 7, 65, .inl (fun z9 => (w z9).2.2)))] sz) := by
  refine Met.ofW (cc := cY_forget) (maxL := 4) (ret := (some .int)) (by decide) rfl ?_
  intro p e s m args below meth c s₁ B hml hv
  obtain ⟨hargs, hsz, hP, hK, hD0⟩ := hv
  have hx := B.exec
  have hb := B.bytes
  have hr := B.returns
  have hts := atoms_spec (ws := wsY_forget) B.pre
  have hown : s.vm.findClass RY = some m.cls := findClass_of_methodNamed B.named
  have hlocks := B.notSynchronized
  subst hsz
  have hD := hD0.self (sz := s.heap.size)
  obtain ⟨A, hAe⟩ : ∃ A, A = va_A [(r0, .inr (1, [.int th, .ref b0, .int (nI tn), .ref b1, .ref b2, .ref b3, .int (nI wn), .ref b4, .ref b5, .ref b6, .ref b7, .int (nI ko), .int (nI mw)])), (b0, .inl (cb 0, 8, .inl (fun z9 => nI (cl z9)))), (b1, .inl (cb 1, 2040, .inl (fun z9 => nI ((t z9).1 / 256)))), (b2, .inl (cb 2, 2040, .inl (fun z9 => nI ((t z9).1 % 256)))), (b3, .inl (cb 3, 2040, .inl (fun z9 => (t z9).2))), (b4, .inl (cb 4, 65, .inl (fun z9 => nI ((w z9).1 / 256)))), (b5, .inl (cb 5, 65, .inl (fun z9 => nI ((w z9).1 % 256)))), (b6, .inl (cb 6, 65, .inr (.inl (fun z9 => (w z9).2.1)))), (b7, .inl (cb 7, 65, .inl (fun z9 => (w z9).2.2)))] s.heap.size := ⟨_, rfl⟩
  rw [← hAe] at hD ⊢
  have hA : ∀ q : Nat, s.heap.size ≤ q → A q := fun q h => by rw [hAe]; exact Or.inr h
  have hS : va_S A s.heap s.heap [] := va_S.rf
  have hP : va_P (dC, dI) clS [(r0, .inr (1, [.int th, .ref b0, .int (nI tn), .ref b1, .ref b2, .ref b3, .int (nI wn), .ref b4, .ref b5, .ref b6, .ref b7, .int (nI ko), .int (nI mw)])), (b0, .inl (cb 0, 8, .inl (fun z9 => nI (cl z9)))), (b1, .inl (cb 1, 2040, .inl (fun z9 => nI ((t z9).1 / 256)))), (b2, .inl (cb 2, 2040, .inl (fun z9 => nI ((t z9).1 % 256)))), (b3, .inl (cb 3, 2040, .inl (fun z9 => (t z9).2))), (b4, .inl (cb 4, 65, .inl (fun z9 => nI ((w z9).1 / 256)))), (b5, .inl (cb 5, 65, .inl (fun z9 => nI ((w z9).1 % 256)))), (b6, .inl (cb 6, 65, .inr (.inl (fun z9 => (w z9).2.1)))), (b7, .inl (cb 7, 65, .inl (fun z9 => (w z9).2.2)))] s.heap := hP
  have hl := lv_entry ([.ref r0, .int x]) (n := 4) (Nat.le_of_ble_eq_true rfl)
  have hE : entryFrame m args 4 = F0 m 0 ((lg_sl ([.ref r0, .int x]) ++ List.replicate (4 - (lg_sl ([.ref r0, .int x])).length) Slot.unset).toArray) [] := by rw [hargs]; exact lg_entry_eq m ([.ref r0, .int x]) 4
  rw [hE]
  generalize (lg_sl ([.ref r0, .int x]) ++ List.replicate (4 - (lg_sl ([.ref r0, .int x])).length) Slot.unset).toArray = ls at hl ⊢
  have hl : lv_has ls 4 [(0, .ref r0), (1, .int x)] := hl
  refine lv_aload_n hx hb dY_forget_0 rfl (lv_at hl 0 rfl) ?_
  refine lv_iconst (v := 0) hx hb dY_forget_1 (by decide) ?_
  refine va_put (D := (dC, dI)) (ci := 1) (v := .int 0) (ty := .int) (C := RY) (T := TY) (N := 13) hx hb hts in_Y_forget_Y tyY tyY_ok nmY hown hK hP hD hS 0 rfl rfl 0 (by decide) (hts (.fieldLink RY 35 "CausalGateModel" "thrown" "I") (by decide +kernel)) (fun _ h9 => h9) rfl (by decide +kernel) rfl rfl (Nat.le_of_ble_eq_true rfl) dY_forget_2 (fun H locs hP hD hS => ?_)
  have hP : va_P (dC, dI) clS [(r0, .inr (1, [.int 0, .ref b0, .int (nI tn), .ref b1, .ref b2, .ref b3, .int (nI wn), .ref b4, .ref b5, .ref b6, .ref b7, .int (nI ko), .int (nI mw)])), (b0, .inl (cb 0, 8, .inl (fun z9 => nI (cl z9)))), (b1, .inl (cb 1, 2040, .inl (fun z9 => nI ((t z9).1 / 256)))), (b2, .inl (cb 2, 2040, .inl (fun z9 => nI ((t z9).1 % 256)))), (b3, .inl (cb 3, 2040, .inl (fun z9 => (t z9).2))), (b4, .inl (cb 4, 65, .inl (fun z9 => nI ((w z9).1 / 256)))), (b5, .inl (cb 5, 65, .inl (fun z9 => nI ((w z9).1 % 256)))), (b6, .inl (cb 6, 65, .inr (.inl (fun z9 => (w z9).2.1)))), (b7, .inl (cb 7, 65, .inl (fun z9 => (w z9).2.2)))] H := hP
  have hD : va_D A [(r0, .inr (1, [.int 0, .ref b0, .int (nI tn), .ref b1, .ref b2, .ref b3, .int (nI wn), .ref b4, .ref b5, .ref b6, .ref b7, .int (nI ko), .int (nI mw)])), (b0, .inl (cb 0, 8, .inl (fun z9 => nI (cl z9)))), (b1, .inl (cb 1, 2040, .inl (fun z9 => nI ((t z9).1 / 256)))), (b2, .inl (cb 2, 2040, .inl (fun z9 => nI ((t z9).1 % 256)))), (b3, .inl (cb 3, 2040, .inl (fun z9 => (t z9).2))), (b4, .inl (cb 4, 65, .inl (fun z9 => nI ((w z9).1 / 256)))), (b5, .inl (cb 5, 65, .inl (fun z9 => nI ((w z9).1 % 256)))), (b6, .inl (cb 6, 65, .inr (.inl (fun z9 => (w z9).2.1)))), (b7, .inl (cb 7, 65, .inl (fun z9 => (w z9).2.2)))] := hD
  refine lv_iconst (v := 0) hx hb dY_forget_5 (by decide) ?_
  refine tp_i (y := nI 0) (nI_0.symm) ?_
  refine lv_istore_n (lv' := [(2, .int (nI 0)), (0, .ref r0), (1, .int x)]) hx hb dY_forget_6 rfl hl (by decide) rfl (fun ls hl => ?_)
  refine lv_aload_n hx hb dY_forget_7 rfl (lv_at hl 1 rfl) ?_
  refine va_get (D := (dC, dI)) (ci := 1) (v := .int (nI wn)) (C := RY) (T := TY) (N := 13) hx hb hts in_Y_forget_Y hown hK hP 0 rfl rfl 6 (by decide) (hts (.fieldLink RY 49 "CausalGateModel" "waiting" "I") (by decide +kernel)) (fun _ h9 => h9) rfl dY_forget_8 ?_
  refine lv_iconst (v := 1) hx hb dY_forget_11 (by decide) ?_
  refine lv_isub hx hb dY_forget_12 ?_
  refine tp_i (y := dN wn) (dN_sub wn) ?_
  refine lv_istore_n (lv' := [(3, .int (dN wn)), (2, .int (nI 0)), (0, .ref r0), (1, .int x)]) hx hb dY_forget_13 rfl hl (by decide) rfl (fun ls hl => ?_)
  have loop : ∀ (n : Nat) (vn y : Nat) (v : WF), n ≤ vn → vn ≤ 65 → (∀ j, j < vn → (v j).1 < 2048) → fgM x n vn y v = fgM x wn wn 0 w → ∀ (H : Heap) (locs : List Loc), va_P (dC, dI) clS [(r0, .inr (1, [.int 0, .ref b0, .int (nI tn), .ref b1, .ref b2, .ref b3, .int (nI vn), .ref b4, .ref b5, .ref b6, .ref b7, .int (nI ko), .int (nI mw)])), (b0, .inl (cb 0, 8, .inl (fun z9 => nI (cl z9)))), (b1, .inl (cb 1, 2040, .inl (fun z9 => nI ((t z9).1 / 256)))), (b2, .inl (cb 2, 2040, .inl (fun z9 => nI ((t z9).1 % 256)))), (b3, .inl (cb 3, 2040, .inl (fun z9 => (t z9).2))), (b4, .inl (cb 4, 65, .inl (fun z9 => nI ((v z9).1 / 256)))), (b5, .inl (cb 5, 65, .inl (fun z9 => nI ((v z9).1 % 256)))), (b6, .inl (cb 6, 65, .inr (.inl (fun z9 => (v z9).2.1)))), (b7, .inl (cb 7, 65, .inl (fun z9 => (v z9).2.2)))] H → va_D A [(r0, .inr (1, [.int 0, .ref b0, .int (nI tn), .ref b1, .ref b2, .ref b3, .int (nI vn), .ref b4, .ref b5, .ref b6, .ref b7, .int (nI ko), .int (nI mw)])), (b0, .inl (cb 0, 8, .inl (fun z9 => nI (cl z9)))), (b1, .inl (cb 1, 2040, .inl (fun z9 => nI ((t z9).1 / 256)))), (b2, .inl (cb 2, 2040, .inl (fun z9 => nI ((t z9).1 % 256)))), (b3, .inl (cb 3, 2040, .inl (fun z9 => (t z9).2))), (b4, .inl (cb 4, 65, .inl (fun z9 => nI ((v z9).1 / 256)))), (b5, .inl (cb 5, 65, .inl (fun z9 => nI ((v z9).1 % 256)))), (b6, .inl (cb 6, 65, .inr (.inl (fun z9 => (v z9).2.1)))), (b7, .inl (cb 7, 65, .inl (fun z9 => (v z9).2.2)))] → va_S A s.heap H locs → ∀ ls : Array Slot, lv_has ls 4 [(0, .ref r0), (1, .int x), (2, .int (nI y)), (3, .int (dN n))] → W p l e (headSpec wsY_forget ({ frames := 1, cells := 0, slots := 0, locals := 22 })).room s m args below meth c H locs 0 0 (MQ below (QmI (nI (fgM x wn wn 0 w).2.2) (dC, dI) clS [(r0, .inr (1, [.int th, .ref b0, .int (nI tn), .ref b1, .ref b2, .ref b3, .int (nI wn), .ref b4, .ref b5, .ref b6, .ref b7, .int (nI ko), .int (nI mw)])), (b0, .inl (cb 0, 8, .inl (fun z9 => nI (cl z9)))), (b1, .inl (cb 1, 2040, .inl (fun z9 => nI ((t z9).1 / 256)))), (b2, .inl (cb 2, 2040, .inl (fun z9 => nI ((t z9).1 % 256)))), (b3, .inl (cb 3, 2040, .inl (fun z9 => (t z9).2))), (b4, .inl (cb 4, 65, .inl (fun z9 => nI ((w z9).1 / 256)))), (b5, .inl (cb 5, 65, .inl (fun z9 => nI ((w z9).1 % 256)))), (b6, .inl (cb 6, 65, .inr (.inl (fun z9 => (w z9).2.1)))), (b7, .inl (cb 7, 65, .inl (fun z9 => (w z9).2.2)))] [(r0, .inr (1, [.int 0, .ref b0, .int (nI tn), .ref b1, .ref b2, .ref b3, .int (nI ((fgM x wn wn 0 w).2.1)), .ref b4, .ref b5, .ref b6, .ref b7, .int (nI ko), .int (nI mw)])), (b0, .inl (cb 0, 8, .inl (fun z9 => nI (cl z9)))), (b1, .inl (cb 1, 2040, .inl (fun z9 => nI ((t z9).1 / 256)))), (b2, .inl (cb 2, 2040, .inl (fun z9 => nI ((t z9).1 % 256)))), (b3, .inl (cb 3, 2040, .inl (fun z9 => (t z9).2))), (b4, .inl (cb 4, 65, .inl (fun z9 => nI ((((fgM x wn wn 0 w).1) z9).1 / 256)))), (b5, .inl (cb 5, 65, .inl (fun z9 => nI ((((fgM x wn wn 0 w).1) z9).1 % 256)))), (b6, .inl (cb 6, 65, .inr (.inl (fun z9 => (((fgM x wn wn 0 w).1) z9).2.1)))), (b7, .inl (cb 7, 65, .inl (fun z9 => (((fgM x wn wn 0 w).1) z9).2.2)))] s.heap.size) args s 0 0 A) (F0 m 14 ls []) := by
    intro n
    induction n with
    | zero =>
      intro vn y v hn hvn hv hk9 H locs hP hD hS ls hl
      have hl : lv_has ls 4 [(0, .ref r0), (1, .int x), (2, .int (nI y)), (3, .int (-1))] := hl
      refine lv_iload_n hx hb dY_forget_14 rfl (lv_at hl 3 rfl) ?_
      refine lv_if_lt (tgt := 42) hx hb dY_forget_15 (by decide) (fun c_15 => ?_) (fun c_15 => ?_)
      · refine lv_iload_n hx hb dY_forget_42 rfl (lv_at hl 2 rfl) ?_
        have hk8 : fgM x wn wn 0 w = (v, vn, y) := hk9.symm
        rw [hk8]
        exact mi_ret hx hb hr hlocks (rfl) hAe hP hD hS dY_forget_43
      · exact absurd (by decide) c_15
    | succ n ih =>
      intro vn y v hn hvn hv hk9 H locs hP hD hS ls hl
      have hl : lv_has ls 4 [(0, .ref r0), (1, .int x), (2, .int (nI y)), (3, .int (nI n))] := hl
      refine lv_iload_n hx hb dY_forget_14 rfl (lv_at hl 3 rfl) ?_
      refine lv_if_lt (tgt := 42) hx hb dY_forget_15 (by decide) (fun c_15 => ?_) (fun c_15 => ?_)
      · exact absurd c_15 (nI_pos (by omega))
      · refine lv_aload_n hx hb dY_forget_18 rfl (lv_at hl 0 rfl) ?_
        refine va_get (D := (dC, dI)) (ci := 1) (v := .ref b4) (C := RY) (T := TY) (N := 13) hx hb hts in_Y_forget_Y hown hK hP 0 rfl rfl 7 (by decide) (hts (.fieldLink RY 22 "CausalGateModel" "wActors" "[I") (by decide +kernel)) (fun _ h9 => h9) rfl dY_forget_19 ?_
        refine lv_iload_n hx hb dY_forget_22 rfl (lv_at hl 3 rfl) ?_
        refine va_iald hx hb hK hP 5 4 rfl rfl (vp_in_nI (by omega) (by decide)) dY_forget_23 ?_
        refine tp_i (y := nI ((v n).1 / 256)) (by rw [nI_clamp (by omega)]) ?_
        have hvj := hv n (by omega)
        refine lv_iload_n hx hb dY_forget_24 rfl (lv_at hl 1 rfl) ?_
        refine lv_icmp_ne (tgt := 36) hx hb dY_forget_25 (by decide) (fun c_25 => ?_) (fun c_25 => ?_)
        · refine lv_iinc (v := (dN n)) (lv' := [(3, .int (dN n)), (0, .ref r0), (1, .int x), (2, .int (nI y))]) hx hb dY_forget_36 hl (k := 3) rfl (dN_dec n) (by decide) rfl (fun ls hl => ?_)
          refine lv_goto (tgt := 14) hx hb dY_forget_39 (by decide) ?_
          exact ih vn y v (by omega) (by omega) hv (by rw [← hk9]; simp only [fgM]; rw [if_neg c_25]) _ _ hP hD hS ls (lv_sub hl [1, 2, 3, 0] rfl)
        · refine lv_aload_n hx hb dY_forget_28 rfl (lv_at hl 0 rfl) ?_
          refine lv_iload_n hx hb dY_forget_29 rfl (lv_at hl 3 rfl) ?_
          refine mt_v (wc := [(r0, .inr (1, [.int 0, .ref b0, .int (nI tn), .ref b1, .ref b2, .ref b3, .int (nI vn), .ref b4, .ref b5, .ref b6, .ref b7, .int (nI ko), .int (nI mw)])), (b0, .inl (cb 0, 8, .inl (fun z9 => nI (cl z9)))), (b1, .inl (cb 1, 2040, .inl (fun z9 => nI ((t z9).1 / 256)))), (b2, .inl (cb 2, 2040, .inl (fun z9 => nI ((t z9).1 % 256)))), (b3, .inl (cb 3, 2040, .inl (fun z9 => (t z9).2))), (b4, .inl (cb 4, 65, .inl (fun z9 => nI ((v z9).1 / 256)))), (b5, .inl (cb 5, 65, .inl (fun z9 => nI ((v z9).1 % 256)))), (b6, .inl (cb 6, 65, .inr (.inl (fun z9 => (v z9).2.1)))), (b7, .inl (cb 7, 65, .inl (fun z9 => (v z9).2.2)))]) (wr := []) (w1 := [(r0, .inr (1, [.int 0, .ref b0, .int (nI tn), .ref b1, .ref b2, .ref b3, .int (nI (vn - 1)), .ref b4, .ref b5, .ref b6, .ref b7, .int (nI ko), .int (nI mw)])), (b0, .inl (cb 0, 8, .inl (fun z9 => nI (cl z9)))), (b1, .inl (cb 1, 2040, .inl (fun z9 => nI ((t z9).1 / 256)))), (b2, .inl (cb 2, 2040, .inl (fun z9 => nI ((t z9).1 % 256)))), (b3, .inl (cb 3, 2040, .inl (fun z9 => (t z9).2))), (b4, .inl (cb 4, 65, .inl (fun z9 => nI (((rmS (vn - (n + 1)) (n + 1) v) z9).1 / 256)))), (b5, .inl (cb 5, 65, .inl (fun z9 => nI (((rmS (vn - (n + 1)) (n + 1) v) z9).1 % 256)))), (b6, .inl (cb 6, 65, .inr (.inl (fun z9 => ((rmS (vn - (n + 1)) (n + 1) v) z9).2.1)))), (b7, .inl (cb 7, 65, .inl (fun z9 => ((rmS (vn - (n + 1)) (n + 1) v) z9).2.2)))]) [0, 1, 2, 3, 4, 5, 6, 7, 8] [] hP hD hS hA rfl rfl (by decide) (by decide) (va_runV (mc := 0) (ms := 0) (As := [.int (nI n)]) (rest := []) ⟨hx, hb, hml, hown, hts⟩ (kY_drop l dC dI cb r0 b0 b1 b2 b3 b4 b5 b6 b7 0 cl t tn v vn ko mw _ n (by omega) (by omega)) (cwV 1 hts gY_forget_Y_drop rfl rfl rfl (by decide +kernel) ⟨Nat.le_of_ble_eq_true rfl, Nat.le_of_ble_eq_true rfl⟩) (pm_V (ci := 1) (q0 := 0) hK (hP.sub (ws' := [(r0, .inr (1, [.int 0, .ref b0, .int (nI tn), .ref b1, .ref b2, .ref b3, .int (nI vn), .ref b4, .ref b5, .ref b6, .ref b7, .int (nI ko), .int (nI mw)])), (b0, .inl (cb 0, 8, .inl (fun z9 => nI (cl z9)))), (b1, .inl (cb 1, 2040, .inl (fun z9 => nI ((t z9).1 / 256)))), (b2, .inl (cb 2, 2040, .inl (fun z9 => nI ((t z9).1 % 256)))), (b3, .inl (cb 3, 2040, .inl (fun z9 => (t z9).2))), (b4, .inl (cb 4, 65, .inl (fun z9 => nI ((v z9).1 / 256)))), (b5, .inl (cb 5, 65, .inl (fun z9 => nI ((v z9).1 % 256)))), (b6, .inl (cb 6, 65, .inr (.inl (fun z9 => (v z9).2.1)))), (b7, .inl (cb 7, 65, .inl (fun z9 => (v z9).2.2)))]) [0, 1, 2, 3, 4, 5, 6, 7, 8] rfl) (hD.sub (ws' := [(r0, .inr (1, [.int 0, .ref b0, .int (nI tn), .ref b1, .ref b2, .ref b3, .int (nI vn), .ref b4, .ref b5, .ref b6, .ref b7, .int (nI ko), .int (nI mw)])), (b0, .inl (cb 0, 8, .inl (fun z9 => nI (cl z9)))), (b1, .inl (cb 1, 2040, .inl (fun z9 => nI ((t z9).1 / 256)))), (b2, .inl (cb 2, 2040, .inl (fun z9 => nI ((t z9).1 % 256)))), (b3, .inl (cb 3, 2040, .inl (fun z9 => (t z9).2))), (b4, .inl (cb 4, 65, .inl (fun z9 => nI ((v z9).1 / 256)))), (b5, .inl (cb 5, 65, .inl (fun z9 => nI ((v z9).1 % 256)))), (b6, .inl (cb 6, 65, .inr (.inl (fun z9 => (v z9).2.1)))), (b7, .inl (cb 7, 65, .inl (fun z9 => (v z9).2.2)))]) [0, 1, 2, 3, 4, 5, 6, 7, 8] (by decide) rfl) rfl rfl) rfl rfl hl.1 rfl (lv_room (Nat.le_of_ble_eq_true rfl)) dY_forget_30 ⟨Nat.zero_le _, Nat.zero_le _⟩) (fun H locs hP hD hS => ?_)
          have hP : va_P (dC, dI) clS [(r0, .inr (1, [.int 0, .ref b0, .int (nI tn), .ref b1, .ref b2, .ref b3, .int (nI (vn - 1)), .ref b4, .ref b5, .ref b6, .ref b7, .int (nI ko), .int (nI mw)])), (b0, .inl (cb 0, 8, .inl (fun z9 => nI (cl z9)))), (b1, .inl (cb 1, 2040, .inl (fun z9 => nI ((t z9).1 / 256)))), (b2, .inl (cb 2, 2040, .inl (fun z9 => nI ((t z9).1 % 256)))), (b3, .inl (cb 3, 2040, .inl (fun z9 => (t z9).2))), (b4, .inl (cb 4, 65, .inl (fun z9 => nI (((rmS (vn - (n + 1)) (n + 1) v) z9).1 / 256)))), (b5, .inl (cb 5, 65, .inl (fun z9 => nI (((rmS (vn - (n + 1)) (n + 1) v) z9).1 % 256)))), (b6, .inl (cb 6, 65, .inr (.inl (fun z9 => ((rmS (vn - (n + 1)) (n + 1) v) z9).2.1)))), (b7, .inl (cb 7, 65, .inl (fun z9 => ((rmS (vn - (n + 1)) (n + 1) v) z9).2.2)))] H := hP
          have hD : va_D A [(r0, .inr (1, [.int 0, .ref b0, .int (nI tn), .ref b1, .ref b2, .ref b3, .int (nI (vn - 1)), .ref b4, .ref b5, .ref b6, .ref b7, .int (nI ko), .int (nI mw)])), (b0, .inl (cb 0, 8, .inl (fun z9 => nI (cl z9)))), (b1, .inl (cb 1, 2040, .inl (fun z9 => nI ((t z9).1 / 256)))), (b2, .inl (cb 2, 2040, .inl (fun z9 => nI ((t z9).1 % 256)))), (b3, .inl (cb 3, 2040, .inl (fun z9 => (t z9).2))), (b4, .inl (cb 4, 65, .inl (fun z9 => nI (((rmS (vn - (n + 1)) (n + 1) v) z9).1 / 256)))), (b5, .inl (cb 5, 65, .inl (fun z9 => nI (((rmS (vn - (n + 1)) (n + 1) v) z9).1 % 256)))), (b6, .inl (cb 6, 65, .inr (.inl (fun z9 => ((rmS (vn - (n + 1)) (n + 1) v) z9).2.1)))), (b7, .inl (cb 7, 65, .inl (fun z9 => ((rmS (vn - (n + 1)) (n + 1) v) z9).2.2)))] := hD
          refine lv_iinc (v := (nI (y + 1))) (lv' := [(2, .int (nI (y + 1))), (0, .ref r0), (1, .int x), (3, .int (nI n))]) hx hb dY_forget_33 hl (k := 2) rfl (nI_1 y) (by decide) rfl (fun ls hl => ?_)
          refine lv_iinc (v := (dN n)) (lv' := [(3, .int (dN n)), (2, .int (nI (y + 1))), (0, .ref r0), (1, .int x)]) hx hb dY_forget_36 hl (k := 3) rfl (dN_dec n) (by decide) rfl (fun ls hl => ?_)
          refine lv_goto (tgt := 14) hx hb dY_forget_39 (by decide) ?_
          exact ih (vn - 1) (y + 1) (rmS (vn - (n + 1)) (n + 1) v) (by omega) (by omega) (rmS_keys hv (by omega)) (by rw [← hk9]; simp only [fgM]; rw [if_pos c_25]) _ _ hP hD hS ls (lv_sub hl [2, 3, 1, 0] rfl)
  exact loop wn wn 0 w (Nat.le_refl _) hwn hw rfl _ _ hP hD hS ls (lv_sub hl [2, 3, 1, 0] rfl)
