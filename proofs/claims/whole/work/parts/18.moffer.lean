set_option maxRecDepth 20000 in
theorem in_Y_offer_Y : ∀ w ∈ wsY0, w ∈ wsY_offer := by decide +kernel

set_option maxHeartbeats 4000000 in
set_option maxRecDepth 100000 in
theorem kY_offer_bad (l : Launch) (dC : Nat → ClassId) (dI : Nat → Nat → Nat) (cb : Nat → ClassId) (r0 b0 b1 b2 b3 b4 b5 b6 b7 : Nat) (th : Int32) (cl : Nat → Nat) (t : TF) (tn : Nat) (w : WF) (wn : Nat) (ko mw : Nat) (sz : Nat) (x y : Int32) (ck : Int64) (lb : Int32) (hbad : (isA x && isS y) = false) : Met l yY_offer wsY_offer ({ frames := 4, cells := 0, slots := 0, locals := 93 }) (Pm [.ref r0, .int x, .int y, .long ck, .int lb] (dC, dI) clS [(cb 0, .int), (cb 1, .int), (cb 2, .int), (cb 3, .int), (cb 4, .int), (cb 5, .int), (cb 6, .long), (cb 7, .int)] [(r0, .inr (1, [.int th, .ref b0, .int (nI tn), .ref b1, .ref b2, .ref b3, .int (nI wn), .ref b4, .ref b5, .ref b6, .ref b7, .int (nI ko), .int (nI mw)])), (b0, .inl (cb 0, 8, .inl (fun z9 => nI (cl z9)))), (b1, .inl (cb 1, 2040, .inl (fun z9 => nI ((t z9).1 / 256)))), (b2, .inl (cb 2, 2040, .inl (fun z9 => nI ((t z9).1 % 256)))), (b3, .inl (cb 3, 2040, .inl (fun z9 => (t z9).2))), (b4, .inl (cb 4, 65, .inl (fun z9 => nI ((w z9).1 / 256)))), (b5, .inl (cb 5, 65, .inl (fun z9 => nI ((w z9).1 % 256)))), (b6, .inl (cb 6, 65, .inr (.inl (fun z9 => (w z9).2.1)))), (b7, .inl (cb 7, 65, .inl (fun z9 => (w z9).2.2)))] sz) (QmI 0 (dC, dI) clS [(r0, .inr (1, [.int th, .ref b0, .int (nI tn), .ref b1, .ref b2, .ref b3, .int (nI wn), .ref b4, .ref b5, .ref b6, .ref b7, .int (nI ko), .int (nI mw)])), (b0, .inl (cb 0, 8, .inl (fun z9 => nI (cl z9)))), (b1, .inl (cb 1, 2040, .inl (fun z9 => nI ((t z9).1 / 256)))), (b2, .inl (cb 2, 2040, .inl (fun z9 => nI ((t z9).1 % 256)))), (b3, .inl (cb 3, 2040, .inl (fun z9 => (t z9).2))), (b4, .inl (cb 4, 65, .inl (fun z9 => nI ((w z9).1 / 256)))), (b5, .inl (cb 5, 65, .inl (fun z9 => nI ((w z9).1 % 256)))), (b6, .inl (cb 6, 65, .inr (.inl (fun z9 => (w z9).2.1)))), (b7, .inl (cb 7, 65, .inl (fun z9 => (w z9).2.2)))] [(r0, .inr (1, [.int 1, .ref b0, .int (nI tn), .ref b1, .ref b2, .ref b3, .int (nI wn), .ref b4, .ref b5, .ref b6, .ref b7, .int (nI ko), .int (nI mw)])), (b0, .inl (cb 0, 8, .inl (fun z9 => nI (cl z9)))), (b1, .inl (cb 1, 2040, .inl (fun z9 => nI ((t z9).1 / 256)))), (b2, .inl (cb 2, 2040, .inl (fun z9 => nI ((t z9).1 % 256)))), (b3, .inl (cb 3, 2040, .inl (fun z9 => (t z9).2))), (b4, .inl (cb 4, 65, .inl (fun z9 => nI ((w z9).1 / 256)))), (b5, .inl (cb 5, 65, .inl (fun z9 => nI ((w z9).1 % 256)))), (b6, .inl (cb 6, 65, .inr (.inl (fun z9 => (w z9).2.1)))), (b7, .inl (cb 7, 65, .inl (fun z9 => (w z9).2.2)))] sz) 0 0 (va_A [(r0, .inr (1, [.int th, .ref b0, .int (nI tn), .ref b1, .ref b2, .ref b3, .int (nI wn), .ref b4, .ref b5, .ref b6, .ref b7, .int (nI ko), .int (nI mw)])), (b0, .inl (cb 0, 8, .inl (fun z9 => nI (cl z9)))), (b1, .inl (cb 1, 2040, .inl (fun z9 => nI ((t z9).1 / 256)))), (b2, .inl (cb 2, 2040, .inl (fun z9 => nI ((t z9).1 % 256)))), (b3, .inl (cb 3, 2040, .inl (fun z9 => (t z9).2))), (b4, .inl (cb 4, 65, .inl (fun z9 => nI ((w z9).1 / 256)))), (b5, .inl (cb 5, 65, .inl (fun z9 => nI ((w z9).1 % 256)))), (b6, .inl (cb 6, 65, .inr (.inl (fun z9 => (w z9).2.1)))), (b7, .inl (cb 7, 65, .inl (fun z9 => (w z9).2.2)))] sz) := by
  refine Met.ofW (cc := cY_offer) (maxL := 8) (ret := (some .int)) (by decide) rfl ?_
  intro p e s m args below meth c s₁ B hml hv
  obtain ⟨hargs, hsz, hP, hK, hD0⟩ := hv
  have hx := B.exec
  have hb := B.bytes
  have hr := B.returns
  have hts := atoms_spec (ws := wsY_offer) B.pre
  have hown : s.vm.findClass RY = some m.cls := findClass_of_methodNamed B.named
  have hlocks := B.notSynchronized
  subst hsz
  have hD := hD0.self (sz := s.heap.size)
  obtain ⟨A, hAe⟩ : ∃ A, A = va_A [(r0, .inr (1, [.int th, .ref b0, .int (nI tn), .ref b1, .ref b2, .ref b3, .int (nI wn), .ref b4, .ref b5, .ref b6, .ref b7, .int (nI ko), .int (nI mw)])), (b0, .inl (cb 0, 8, .inl (fun z9 => nI (cl z9)))), (b1, .inl (cb 1, 2040, .inl (fun z9 => nI ((t z9).1 / 256)))), (b2, .inl (cb 2, 2040, .inl (fun z9 => nI ((t z9).1 % 256)))), (b3, .inl (cb 3, 2040, .inl (fun z9 => (t z9).2))), (b4, .inl (cb 4, 65, .inl (fun z9 => nI ((w z9).1 / 256)))), (b5, .inl (cb 5, 65, .inl (fun z9 => nI ((w z9).1 % 256)))), (b6, .inl (cb 6, 65, .inr (.inl (fun z9 => (w z9).2.1)))), (b7, .inl (cb 7, 65, .inl (fun z9 => (w z9).2.2)))] s.heap.size := ⟨_, rfl⟩
  rw [← hAe] at hD ⊢
  have hA : ∀ q : Nat, s.heap.size ≤ q → A q := fun q h => by rw [hAe]; exact Or.inr h
  have hS : va_S A s.heap s.heap [] := va_S.rf
  have hP : va_P (dC, dI) clS [(r0, .inr (1, [.int th, .ref b0, .int (nI tn), .ref b1, .ref b2, .ref b3, .int (nI wn), .ref b4, .ref b5, .ref b6, .ref b7, .int (nI ko), .int (nI mw)])), (b0, .inl (cb 0, 8, .inl (fun z9 => nI (cl z9)))), (b1, .inl (cb 1, 2040, .inl (fun z9 => nI ((t z9).1 / 256)))), (b2, .inl (cb 2, 2040, .inl (fun z9 => nI ((t z9).1 % 256)))), (b3, .inl (cb 3, 2040, .inl (fun z9 => (t z9).2))), (b4, .inl (cb 4, 65, .inl (fun z9 => nI ((w z9).1 / 256)))), (b5, .inl (cb 5, 65, .inl (fun z9 => nI ((w z9).1 % 256)))), (b6, .inl (cb 6, 65, .inr (.inl (fun z9 => (w z9).2.1)))), (b7, .inl (cb 7, 65, .inl (fun z9 => (w z9).2.2)))] s.heap := hP
  have hl := lv_entry ([.ref r0, .int x, .int y, .long ck, .int lb]) (n := 8) (Nat.le_of_ble_eq_true rfl)
  have hE : entryFrame m args 8 = F0 m 0 ((lg_sl ([.ref r0, .int x, .int y, .long ck, .int lb]) ++ List.replicate (8 - (lg_sl ([.ref r0, .int x, .int y, .long ck, .int lb])).length) Slot.unset).toArray) [] := by rw [hargs]; exact lg_entry_eq m ([.ref r0, .int x, .int y, .long ck, .int lb]) 8
  rw [hE]
  generalize (lg_sl ([.ref r0, .int x, .int y, .long ck, .int lb]) ++ List.replicate (8 - (lg_sl ([.ref r0, .int x, .int y, .long ck, .int lb])).length) Slot.unset).toArray = ls at hl ⊢
  have hl : lv_has ls 8 [(0, .ref r0), (1, .int x), (2, .int y), (3, .long ck), (5, .int lb)] := hl
  refine lv_aload_n hx hb dY_offer_0 rfl (lv_at hl 0 rfl) ?_
  refine lv_iload_n hx hb dY_offer_1 rfl (lv_at hl 1 rfl) ?_
  refine lv_if_lt (tgt := 23) hx hb dY_offer_2 (by decide) (fun c_2 => ?_) (fun c_2 => ?_)
  · refine lv_iconst (v := 1) hx hb dY_offer_23 (by decide) ?_
    refine lv_goto (tgt := 28) hx hb dY_offer_24 (by decide) ?_
    refine va_put (D := (dC, dI)) (ci := 1) (v := .int 1) (ty := .int) (C := RY) (T := TY) (N := 13) hx hb hts in_Y_offer_Y tyY tyY_ok nmY hown hK hP hD hS 0 rfl rfl 0 (by decide) (hts (.fieldLink RY 35 "CausalGateModel" "thrown" "I") (by decide +kernel)) (fun _ h9 => h9) rfl (by decide +kernel) rfl rfl (Nat.le_of_ble_eq_true rfl) dY_offer_28 (fun H locs hP hD hS => ?_)
    have hP : va_P (dC, dI) clS [(r0, .inr (1, [.int 1, .ref b0, .int (nI tn), .ref b1, .ref b2, .ref b3, .int (nI wn), .ref b4, .ref b5, .ref b6, .ref b7, .int (nI ko), .int (nI mw)])), (b0, .inl (cb 0, 8, .inl (fun z9 => nI (cl z9)))), (b1, .inl (cb 1, 2040, .inl (fun z9 => nI ((t z9).1 / 256)))), (b2, .inl (cb 2, 2040, .inl (fun z9 => nI ((t z9).1 % 256)))), (b3, .inl (cb 3, 2040, .inl (fun z9 => (t z9).2))), (b4, .inl (cb 4, 65, .inl (fun z9 => nI ((w z9).1 / 256)))), (b5, .inl (cb 5, 65, .inl (fun z9 => nI ((w z9).1 % 256)))), (b6, .inl (cb 6, 65, .inr (.inl (fun z9 => (w z9).2.1)))), (b7, .inl (cb 7, 65, .inl (fun z9 => (w z9).2.2)))] H := hP
    have hD : va_D A [(r0, .inr (1, [.int 1, .ref b0, .int (nI tn), .ref b1, .ref b2, .ref b3, .int (nI wn), .ref b4, .ref b5, .ref b6, .ref b7, .int (nI ko), .int (nI mw)])), (b0, .inl (cb 0, 8, .inl (fun z9 => nI (cl z9)))), (b1, .inl (cb 1, 2040, .inl (fun z9 => nI ((t z9).1 / 256)))), (b2, .inl (cb 2, 2040, .inl (fun z9 => nI ((t z9).1 % 256)))), (b3, .inl (cb 3, 2040, .inl (fun z9 => (t z9).2))), (b4, .inl (cb 4, 65, .inl (fun z9 => nI ((w z9).1 / 256)))), (b5, .inl (cb 5, 65, .inl (fun z9 => nI ((w z9).1 % 256)))), (b6, .inl (cb 6, 65, .inr (.inl (fun z9 => (w z9).2.1)))), (b7, .inl (cb 7, 65, .inl (fun z9 => (w z9).2.2)))] := hD
    refine lv_aload_n hx hb dY_offer_31 rfl (lv_at hl 0 rfl) ?_
    refine va_get (D := (dC, dI)) (ci := 1) (v := .int 1) (C := RY) (T := TY) (N := 13) hx hb hts in_Y_offer_Y hown hK hP 0 rfl rfl 0 (by decide) (hts (.fieldLink RY 35 "CausalGateModel" "thrown" "I") (by decide +kernel)) (fun _ h9 => h9) rfl dY_offer_32 ?_
    refine lv_if_le (tgt := 40) hx hb dY_offer_35 (by decide) (fun c_35 => ?_) (fun c_35 => ?_)
    · exact absurd c_35 (by decide)
    · refine lv_iconst (v := 0) hx hb dY_offer_38 (by decide) ?_
      exact mi_ret hx hb hr hlocks (rfl) hAe hP hD hS dY_offer_39
  · refine lv_iload_n hx hb dY_offer_5 rfl (lv_at hl 1 rfl) ?_
    refine lv_bipush (v := 7) hx hb dY_offer_6 (by decide) ?_
    refine lv_icmp_gt (tgt := 23) hx hb dY_offer_8 (by decide) (fun c_8 => ?_) (fun c_8 => ?_)
    · refine lv_iconst (v := 1) hx hb dY_offer_23 (by decide) ?_
      refine lv_goto (tgt := 28) hx hb dY_offer_24 (by decide) ?_
      refine va_put (D := (dC, dI)) (ci := 1) (v := .int 1) (ty := .int) (C := RY) (T := TY) (N := 13) hx hb hts in_Y_offer_Y tyY tyY_ok nmY hown hK hP hD hS 0 rfl rfl 0 (by decide) (hts (.fieldLink RY 35 "CausalGateModel" "thrown" "I") (by decide +kernel)) (fun _ h9 => h9) rfl (by decide +kernel) rfl rfl (Nat.le_of_ble_eq_true rfl) dY_offer_28 (fun H locs hP hD hS => ?_)
      have hP : va_P (dC, dI) clS [(r0, .inr (1, [.int 1, .ref b0, .int (nI tn), .ref b1, .ref b2, .ref b3, .int (nI wn), .ref b4, .ref b5, .ref b6, .ref b7, .int (nI ko), .int (nI mw)])), (b0, .inl (cb 0, 8, .inl (fun z9 => nI (cl z9)))), (b1, .inl (cb 1, 2040, .inl (fun z9 => nI ((t z9).1 / 256)))), (b2, .inl (cb 2, 2040, .inl (fun z9 => nI ((t z9).1 % 256)))), (b3, .inl (cb 3, 2040, .inl (fun z9 => (t z9).2))), (b4, .inl (cb 4, 65, .inl (fun z9 => nI ((w z9).1 / 256)))), (b5, .inl (cb 5, 65, .inl (fun z9 => nI ((w z9).1 % 256)))), (b6, .inl (cb 6, 65, .inr (.inl (fun z9 => (w z9).2.1)))), (b7, .inl (cb 7, 65, .inl (fun z9 => (w z9).2.2)))] H := hP
      have hD : va_D A [(r0, .inr (1, [.int 1, .ref b0, .int (nI tn), .ref b1, .ref b2, .ref b3, .int (nI wn), .ref b4, .ref b5, .ref b6, .ref b7, .int (nI ko), .int (nI mw)])), (b0, .inl (cb 0, 8, .inl (fun z9 => nI (cl z9)))), (b1, .inl (cb 1, 2040, .inl (fun z9 => nI ((t z9).1 / 256)))), (b2, .inl (cb 2, 2040, .inl (fun z9 => nI ((t z9).1 % 256)))), (b3, .inl (cb 3, 2040, .inl (fun z9 => (t z9).2))), (b4, .inl (cb 4, 65, .inl (fun z9 => nI ((w z9).1 / 256)))), (b5, .inl (cb 5, 65, .inl (fun z9 => nI ((w z9).1 % 256)))), (b6, .inl (cb 6, 65, .inr (.inl (fun z9 => (w z9).2.1)))), (b7, .inl (cb 7, 65, .inl (fun z9 => (w z9).2.2)))] := hD
      refine lv_aload_n hx hb dY_offer_31 rfl (lv_at hl 0 rfl) ?_
      refine va_get (D := (dC, dI)) (ci := 1) (v := .int 1) (C := RY) (T := TY) (N := 13) hx hb hts in_Y_offer_Y hown hK hP 0 rfl rfl 0 (by decide) (hts (.fieldLink RY 35 "CausalGateModel" "thrown" "I") (by decide +kernel)) (fun _ h9 => h9) rfl dY_offer_32 ?_
      refine lv_if_le (tgt := 40) hx hb dY_offer_35 (by decide) (fun c_35 => ?_) (fun c_35 => ?_)
      · exact absurd c_35 (by decide)
      · refine lv_iconst (v := 0) hx hb dY_offer_38 (by decide) ?_
        exact mi_ret hx hb hr hlocks (rfl) hAe hP hD hS dY_offer_39
    · refine lv_iload_n hx hb dY_offer_11 rfl (lv_at hl 2 rfl) ?_
      refine lv_iconst (v := 1) hx hb dY_offer_12 (by decide) ?_
      refine lv_icmp_lt (tgt := 23) hx hb dY_offer_13 (by decide) (fun c_13 => ?_) (fun c_13 => ?_)
      · refine lv_iconst (v := 1) hx hb dY_offer_23 (by decide) ?_
        refine lv_goto (tgt := 28) hx hb dY_offer_24 (by decide) ?_
        refine va_put (D := (dC, dI)) (ci := 1) (v := .int 1) (ty := .int) (C := RY) (T := TY) (N := 13) hx hb hts in_Y_offer_Y tyY tyY_ok nmY hown hK hP hD hS 0 rfl rfl 0 (by decide) (hts (.fieldLink RY 35 "CausalGateModel" "thrown" "I") (by decide +kernel)) (fun _ h9 => h9) rfl (by decide +kernel) rfl rfl (Nat.le_of_ble_eq_true rfl) dY_offer_28 (fun H locs hP hD hS => ?_)
        have hP : va_P (dC, dI) clS [(r0, .inr (1, [.int 1, .ref b0, .int (nI tn), .ref b1, .ref b2, .ref b3, .int (nI wn), .ref b4, .ref b5, .ref b6, .ref b7, .int (nI ko), .int (nI mw)])), (b0, .inl (cb 0, 8, .inl (fun z9 => nI (cl z9)))), (b1, .inl (cb 1, 2040, .inl (fun z9 => nI ((t z9).1 / 256)))), (b2, .inl (cb 2, 2040, .inl (fun z9 => nI ((t z9).1 % 256)))), (b3, .inl (cb 3, 2040, .inl (fun z9 => (t z9).2))), (b4, .inl (cb 4, 65, .inl (fun z9 => nI ((w z9).1 / 256)))), (b5, .inl (cb 5, 65, .inl (fun z9 => nI ((w z9).1 % 256)))), (b6, .inl (cb 6, 65, .inr (.inl (fun z9 => (w z9).2.1)))), (b7, .inl (cb 7, 65, .inl (fun z9 => (w z9).2.2)))] H := hP
        have hD : va_D A [(r0, .inr (1, [.int 1, .ref b0, .int (nI tn), .ref b1, .ref b2, .ref b3, .int (nI wn), .ref b4, .ref b5, .ref b6, .ref b7, .int (nI ko), .int (nI mw)])), (b0, .inl (cb 0, 8, .inl (fun z9 => nI (cl z9)))), (b1, .inl (cb 1, 2040, .inl (fun z9 => nI ((t z9).1 / 256)))), (b2, .inl (cb 2, 2040, .inl (fun z9 => nI ((t z9).1 % 256)))), (b3, .inl (cb 3, 2040, .inl (fun z9 => (t z9).2))), (b4, .inl (cb 4, 65, .inl (fun z9 => nI ((w z9).1 / 256)))), (b5, .inl (cb 5, 65, .inl (fun z9 => nI ((w z9).1 % 256)))), (b6, .inl (cb 6, 65, .inr (.inl (fun z9 => (w z9).2.1)))), (b7, .inl (cb 7, 65, .inl (fun z9 => (w z9).2.2)))] := hD
        refine lv_aload_n hx hb dY_offer_31 rfl (lv_at hl 0 rfl) ?_
        refine va_get (D := (dC, dI)) (ci := 1) (v := .int 1) (C := RY) (T := TY) (N := 13) hx hb hts in_Y_offer_Y hown hK hP 0 rfl rfl 0 (by decide) (hts (.fieldLink RY 35 "CausalGateModel" "thrown" "I") (by decide +kernel)) (fun _ h9 => h9) rfl dY_offer_32 ?_
        refine lv_if_le (tgt := 40) hx hb dY_offer_35 (by decide) (fun c_35 => ?_) (fun c_35 => ?_)
        · exact absurd c_35 (by decide)
        · refine lv_iconst (v := 0) hx hb dY_offer_38 (by decide) ?_
          exact mi_ret hx hb hr hlocks (rfl) hAe hP hD hS dY_offer_39
      · refine lv_iload_n hx hb dY_offer_16 rfl (lv_at hl 2 rfl) ?_
        refine lv_sipush (v := 255) hx hb dY_offer_17 (by decide) ?_
        refine lv_icmp_le (tgt := 27) hx hb dY_offer_20 (by decide) (fun c_20 => ?_) (fun c_20 => ?_)
        · exact absurd hbad (by rw [isA_in c_2 c_8, isS_in2 c_13 c_20]; decide)
        · refine lv_iconst (v := 1) hx hb dY_offer_23 (by decide) ?_
          refine lv_goto (tgt := 28) hx hb dY_offer_24 (by decide) ?_
          refine va_put (D := (dC, dI)) (ci := 1) (v := .int 1) (ty := .int) (C := RY) (T := TY) (N := 13) hx hb hts in_Y_offer_Y tyY tyY_ok nmY hown hK hP hD hS 0 rfl rfl 0 (by decide) (hts (.fieldLink RY 35 "CausalGateModel" "thrown" "I") (by decide +kernel)) (fun _ h9 => h9) rfl (by decide +kernel) rfl rfl (Nat.le_of_ble_eq_true rfl) dY_offer_28 (fun H locs hP hD hS => ?_)
          have hP : va_P (dC, dI) clS [(r0, .inr (1, [.int 1, .ref b0, .int (nI tn), .ref b1, .ref b2, .ref b3, .int (nI wn), .ref b4, .ref b5, .ref b6, .ref b7, .int (nI ko), .int (nI mw)])), (b0, .inl (cb 0, 8, .inl (fun z9 => nI (cl z9)))), (b1, .inl (cb 1, 2040, .inl (fun z9 => nI ((t z9).1 / 256)))), (b2, .inl (cb 2, 2040, .inl (fun z9 => nI ((t z9).1 % 256)))), (b3, .inl (cb 3, 2040, .inl (fun z9 => (t z9).2))), (b4, .inl (cb 4, 65, .inl (fun z9 => nI ((w z9).1 / 256)))), (b5, .inl (cb 5, 65, .inl (fun z9 => nI ((w z9).1 % 256)))), (b6, .inl (cb 6, 65, .inr (.inl (fun z9 => (w z9).2.1)))), (b7, .inl (cb 7, 65, .inl (fun z9 => (w z9).2.2)))] H := hP
          have hD : va_D A [(r0, .inr (1, [.int 1, .ref b0, .int (nI tn), .ref b1, .ref b2, .ref b3, .int (nI wn), .ref b4, .ref b5, .ref b6, .ref b7, .int (nI ko), .int (nI mw)])), (b0, .inl (cb 0, 8, .inl (fun z9 => nI (cl z9)))), (b1, .inl (cb 1, 2040, .inl (fun z9 => nI ((t z9).1 / 256)))), (b2, .inl (cb 2, 2040, .inl (fun z9 => nI ((t z9).1 % 256)))), (b3, .inl (cb 3, 2040, .inl (fun z9 => (t z9).2))), (b4, .inl (cb 4, 65, .inl (fun z9 => nI ((w z9).1 / 256)))), (b5, .inl (cb 5, 65, .inl (fun z9 => nI ((w z9).1 % 256)))), (b6, .inl (cb 6, 65, .inr (.inl (fun z9 => (w z9).2.1)))), (b7, .inl (cb 7, 65, .inl (fun z9 => (w z9).2.2)))] := hD
          refine lv_aload_n hx hb dY_offer_31 rfl (lv_at hl 0 rfl) ?_
          refine va_get (D := (dC, dI)) (ci := 1) (v := .int 1) (C := RY) (T := TY) (N := 13) hx hb hts in_Y_offer_Y hown hK hP 0 rfl rfl 0 (by decide) (hts (.fieldLink RY 35 "CausalGateModel" "thrown" "I") (by decide +kernel)) (fun _ h9 => h9) rfl dY_offer_32 ?_
          refine lv_if_le (tgt := 40) hx hb dY_offer_35 (by decide) (fun c_35 => ?_) (fun c_35 => ?_)
          · exact absurd c_35 (by decide)
          · refine lv_iconst (v := 0) hx hb dY_offer_38 (by decide) ?_
            exact mi_ret hx hb hr hlocks (rfl) hAe hP hD hS dY_offer_39

set_option maxHeartbeats 4000000 in
set_option maxRecDepth 100000 in
theorem kY_offer_known (l : Launch) (dC : Nat → ClassId) (dI : Nat → Nat → Nat) (cb : Nat → ClassId) (r0 b0 b1 b2 b3 b4 b5 b6 b7 : Nat) (th : Int32) (cl : Nat → Nat) (t : TF) (tn : Nat) (w : WF) (wn : Nat) (ko mw : Nat) (sz : Nat) (hcl : ∀ a, a < 8 → cl a < 256) (hwn : wn ≤ 65) (hw : ∀ j, j < wn → (w j).1 < 2048) (a q : Nat) (ck : Int64) (lb : Int32) (ha : a < 8) (hq1 : 1 ≤ q) (hq : q < 256) (hkn : knM cl w wn a q = true) : Met l yY_offer wsY_offer ({ frames := 4, cells := 0, slots := 0, locals := 93 }) (Pm [.ref r0, .int (nI a), .int (nI q), .long ck, .int lb] (dC, dI) clS [(cb 0, .int), (cb 1, .int), (cb 2, .int), (cb 3, .int), (cb 4, .int), (cb 5, .int), (cb 6, .long), (cb 7, .int)] [(r0, .inr (1, [.int th, .ref b0, .int (nI tn), .ref b1, .ref b2, .ref b3, .int (nI wn), .ref b4, .ref b5, .ref b6, .ref b7, .int (nI ko), .int (nI mw)])), (b0, .inl (cb 0, 8, .inl (fun z9 => nI (cl z9)))), (b1, .inl (cb 1, 2040, .inl (fun z9 => nI ((t z9).1 / 256)))), (b2, .inl (cb 2, 2040, .inl (fun z9 => nI ((t z9).1 % 256)))), (b3, .inl (cb 3, 2040, .inl (fun z9 => (t z9).2))), (b4, .inl (cb 4, 65, .inl (fun z9 => nI ((w z9).1 / 256)))), (b5, .inl (cb 5, 65, .inl (fun z9 => nI ((w z9).1 % 256)))), (b6, .inl (cb 6, 65, .inr (.inl (fun z9 => (w z9).2.1)))), (b7, .inl (cb 7, 65, .inl (fun z9 => (w z9).2.2)))] sz) (QmI 0 (dC, dI) clS [(r0, .inr (1, [.int th, .ref b0, .int (nI tn), .ref b1, .ref b2, .ref b3, .int (nI wn), .ref b4, .ref b5, .ref b6, .ref b7, .int (nI ko), .int (nI mw)])), (b0, .inl (cb 0, 8, .inl (fun z9 => nI (cl z9)))), (b1, .inl (cb 1, 2040, .inl (fun z9 => nI ((t z9).1 / 256)))), (b2, .inl (cb 2, 2040, .inl (fun z9 => nI ((t z9).1 % 256)))), (b3, .inl (cb 3, 2040, .inl (fun z9 => (t z9).2))), (b4, .inl (cb 4, 65, .inl (fun z9 => nI ((w z9).1 / 256)))), (b5, .inl (cb 5, 65, .inl (fun z9 => nI ((w z9).1 % 256)))), (b6, .inl (cb 6, 65, .inr (.inl (fun z9 => (w z9).2.1)))), (b7, .inl (cb 7, 65, .inl (fun z9 => (w z9).2.2)))] [(r0, .inr (1, [.int 0, .ref b0, .int (nI tn), .ref b1, .ref b2, .ref b3, .int (nI wn), .ref b4, .ref b5, .ref b6, .ref b7, .int (nI (ko + 1)), .int (nI mw)])), (b0, .inl (cb 0, 8, .inl (fun z9 => nI (cl z9)))), (b1, .inl (cb 1, 2040, .inl (fun z9 => nI ((t z9).1 / 256)))), (b2, .inl (cb 2, 2040, .inl (fun z9 => nI ((t z9).1 % 256)))), (b3, .inl (cb 3, 2040, .inl (fun z9 => (t z9).2))), (b4, .inl (cb 4, 65, .inl (fun z9 => nI ((w z9).1 / 256)))), (b5, .inl (cb 5, 65, .inl (fun z9 => nI ((w z9).1 % 256)))), (b6, .inl (cb 6, 65, .inr (.inl (fun z9 => (w z9).2.1)))), (b7, .inl (cb 7, 65, .inl (fun z9 => (w z9).2.2)))] sz) 0 0 (va_A [(r0, .inr (1, [.int th, .ref b0, .int (nI tn), .ref b1, .ref b2, .ref b3, .int (nI wn), .ref b4, .ref b5, .ref b6, .ref b7, .int (nI ko), .int (nI mw)])), (b0, .inl (cb 0, 8, .inl (fun z9 => nI (cl z9)))), (b1, .inl (cb 1, 2040, .inl (fun z9 => nI ((t z9).1 / 256)))), (b2, .inl (cb 2, 2040, .inl (fun z9 => nI ((t z9).1 % 256)))), (b3, .inl (cb 3, 2040, .inl (fun z9 => (t z9).2))), (b4, .inl (cb 4, 65, .inl (fun z9 => nI ((w z9).1 / 256)))), (b5, .inl (cb 5, 65, .inl (fun z9 => nI ((w z9).1 % 256)))), (b6, .inl (cb 6, 65, .inr (.inl (fun z9 => (w z9).2.1)))), (b7, .inl (cb 7, 65, .inl (fun z9 => (w z9).2.2)))] sz) := by
  refine Met.ofW (cc := cY_offer) (maxL := 8) (ret := (some .int)) (by decide) rfl ?_
  intro p e s m args below meth c s₁ B hml hv
  obtain ⟨hargs, hsz, hP, hK, hD0⟩ := hv
  have hx := B.exec
  have hb := B.bytes
  have hr := B.returns
  have hts := atoms_spec (ws := wsY_offer) B.pre
  have hown : s.vm.findClass RY = some m.cls := findClass_of_methodNamed B.named
  have hlocks := B.notSynchronized
  subst hsz
  have hD := hD0.self (sz := s.heap.size)
  obtain ⟨A, hAe⟩ : ∃ A, A = va_A [(r0, .inr (1, [.int th, .ref b0, .int (nI tn), .ref b1, .ref b2, .ref b3, .int (nI wn), .ref b4, .ref b5, .ref b6, .ref b7, .int (nI ko), .int (nI mw)])), (b0, .inl (cb 0, 8, .inl (fun z9 => nI (cl z9)))), (b1, .inl (cb 1, 2040, .inl (fun z9 => nI ((t z9).1 / 256)))), (b2, .inl (cb 2, 2040, .inl (fun z9 => nI ((t z9).1 % 256)))), (b3, .inl (cb 3, 2040, .inl (fun z9 => (t z9).2))), (b4, .inl (cb 4, 65, .inl (fun z9 => nI ((w z9).1 / 256)))), (b5, .inl (cb 5, 65, .inl (fun z9 => nI ((w z9).1 % 256)))), (b6, .inl (cb 6, 65, .inr (.inl (fun z9 => (w z9).2.1)))), (b7, .inl (cb 7, 65, .inl (fun z9 => (w z9).2.2)))] s.heap.size := ⟨_, rfl⟩
  rw [← hAe] at hD ⊢
  have hA : ∀ q : Nat, s.heap.size ≤ q → A q := fun q h => by rw [hAe]; exact Or.inr h
  have hS : va_S A s.heap s.heap [] := va_S.rf
  have hP : va_P (dC, dI) clS [(r0, .inr (1, [.int th, .ref b0, .int (nI tn), .ref b1, .ref b2, .ref b3, .int (nI wn), .ref b4, .ref b5, .ref b6, .ref b7, .int (nI ko), .int (nI mw)])), (b0, .inl (cb 0, 8, .inl (fun z9 => nI (cl z9)))), (b1, .inl (cb 1, 2040, .inl (fun z9 => nI ((t z9).1 / 256)))), (b2, .inl (cb 2, 2040, .inl (fun z9 => nI ((t z9).1 % 256)))), (b3, .inl (cb 3, 2040, .inl (fun z9 => (t z9).2))), (b4, .inl (cb 4, 65, .inl (fun z9 => nI ((w z9).1 / 256)))), (b5, .inl (cb 5, 65, .inl (fun z9 => nI ((w z9).1 % 256)))), (b6, .inl (cb 6, 65, .inr (.inl (fun z9 => (w z9).2.1)))), (b7, .inl (cb 7, 65, .inl (fun z9 => (w z9).2.2)))] s.heap := hP
  have hl := lv_entry ([.ref r0, .int (nI a), .int (nI q), .long ck, .int lb]) (n := 8) (Nat.le_of_ble_eq_true rfl)
  have hE : entryFrame m args 8 = F0 m 0 ((lg_sl ([.ref r0, .int (nI a), .int (nI q), .long ck, .int lb]) ++ List.replicate (8 - (lg_sl ([.ref r0, .int (nI a), .int (nI q), .long ck, .int lb])).length) Slot.unset).toArray) [] := by rw [hargs]; exact lg_entry_eq m ([.ref r0, .int (nI a), .int (nI q), .long ck, .int lb]) 8
  rw [hE]
  generalize (lg_sl ([.ref r0, .int (nI a), .int (nI q), .long ck, .int lb]) ++ List.replicate (8 - (lg_sl ([.ref r0, .int (nI a), .int (nI q), .long ck, .int lb])).length) Slot.unset).toArray = ls at hl ⊢
  have hl : lv_has ls 8 [(0, .ref r0), (1, .int (nI a)), (2, .int (nI q)), (3, .long ck), (5, .int lb)] := hl
  refine lv_aload_n hx hb dY_offer_0 rfl (lv_at hl 0 rfl) ?_
  refine lv_iload_n hx hb dY_offer_1 rfl (lv_at hl 1 rfl) ?_
  refine lv_if_lt (tgt := 23) hx hb dY_offer_2 (by decide) (fun c_2 => ?_) (fun c_2 => ?_)
  · exact absurd c_2 (nI_pos (by omega))
  · refine lv_iload_n hx hb dY_offer_5 rfl (lv_at hl 1 rfl) ?_
    refine lv_bipush (v := 7) hx hb dY_offer_6 (by decide) ?_
    refine lv_icmp_gt (tgt := 23) hx hb dY_offer_8 (by decide) (fun c_8 => ?_) (fun c_8 => ?_)
    · exact absurd c_8 (by have h7 : (7 : Int32) = nI 7 := rfl; rw [h7]; exact nI_nlt (by omega) (by omega))
    · refine lv_iload_n hx hb dY_offer_11 rfl (lv_at hl 2 rfl) ?_
      refine lv_iconst (v := 1) hx hb dY_offer_12 (by decide) ?_
      refine lv_icmp_lt (tgt := 23) hx hb dY_offer_13 (by decide) (fun c_13 => ?_) (fun c_13 => ?_)
      · exact absurd c_13 (by have h1 : (1 : Int32) = nI 1 := rfl; rw [h1]; exact nI_nlt (by omega) (by omega))
      · refine lv_iload_n hx hb dY_offer_16 rfl (lv_at hl 2 rfl) ?_
        refine lv_sipush (v := 255) hx hb dY_offer_17 (by decide) ?_
        refine lv_icmp_le (tgt := 27) hx hb dY_offer_20 (by decide) (fun c_20 => ?_) (fun c_20 => ?_)
        · refine lv_iconst (v := 0) hx hb dY_offer_27 (by decide) ?_
          refine va_put (D := (dC, dI)) (ci := 1) (v := .int 0) (ty := .int) (C := RY) (T := TY) (N := 13) hx hb hts in_Y_offer_Y tyY tyY_ok nmY hown hK hP hD hS 0 rfl rfl 0 (by decide) (hts (.fieldLink RY 35 "CausalGateModel" "thrown" "I") (by decide +kernel)) (fun _ h9 => h9) rfl (by decide +kernel) rfl rfl (Nat.le_of_ble_eq_true rfl) dY_offer_28 (fun H locs hP hD hS => ?_)
          have hP : va_P (dC, dI) clS [(r0, .inr (1, [.int 0, .ref b0, .int (nI tn), .ref b1, .ref b2, .ref b3, .int (nI wn), .ref b4, .ref b5, .ref b6, .ref b7, .int (nI ko), .int (nI mw)])), (b0, .inl (cb 0, 8, .inl (fun z9 => nI (cl z9)))), (b1, .inl (cb 1, 2040, .inl (fun z9 => nI ((t z9).1 / 256)))), (b2, .inl (cb 2, 2040, .inl (fun z9 => nI ((t z9).1 % 256)))), (b3, .inl (cb 3, 2040, .inl (fun z9 => (t z9).2))), (b4, .inl (cb 4, 65, .inl (fun z9 => nI ((w z9).1 / 256)))), (b5, .inl (cb 5, 65, .inl (fun z9 => nI ((w z9).1 % 256)))), (b6, .inl (cb 6, 65, .inr (.inl (fun z9 => (w z9).2.1)))), (b7, .inl (cb 7, 65, .inl (fun z9 => (w z9).2.2)))] H := hP
          have hD : va_D A [(r0, .inr (1, [.int 0, .ref b0, .int (nI tn), .ref b1, .ref b2, .ref b3, .int (nI wn), .ref b4, .ref b5, .ref b6, .ref b7, .int (nI ko), .int (nI mw)])), (b0, .inl (cb 0, 8, .inl (fun z9 => nI (cl z9)))), (b1, .inl (cb 1, 2040, .inl (fun z9 => nI ((t z9).1 / 256)))), (b2, .inl (cb 2, 2040, .inl (fun z9 => nI ((t z9).1 % 256)))), (b3, .inl (cb 3, 2040, .inl (fun z9 => (t z9).2))), (b4, .inl (cb 4, 65, .inl (fun z9 => nI ((w z9).1 / 256)))), (b5, .inl (cb 5, 65, .inl (fun z9 => nI ((w z9).1 % 256)))), (b6, .inl (cb 6, 65, .inr (.inl (fun z9 => (w z9).2.1)))), (b7, .inl (cb 7, 65, .inl (fun z9 => (w z9).2.2)))] := hD
          refine lv_aload_n hx hb dY_offer_31 rfl (lv_at hl 0 rfl) ?_
          refine va_get (D := (dC, dI)) (ci := 1) (v := .int 0) (C := RY) (T := TY) (N := 13) hx hb hts in_Y_offer_Y hown hK hP 0 rfl rfl 0 (by decide) (hts (.fieldLink RY 35 "CausalGateModel" "thrown" "I") (by decide +kernel)) (fun _ h9 => h9) rfl dY_offer_32 ?_
          refine lv_if_le (tgt := 40) hx hb dY_offer_35 (by decide) (fun c_35 => ?_) (fun c_35 => ?_)
          · refine lv_aload_n hx hb dY_offer_40 rfl (lv_at hl 0 rfl) ?_
            refine lv_iload_n hx hb dY_offer_41 rfl (lv_at hl 1 rfl) ?_
            refine lv_iload_n hx hb dY_offer_42 rfl (lv_at hl 2 rfl) ?_
            refine rd_i (W.runV (As := [.int (nI a), .int (nI q)]) (rest := []) ⟨hx, hb, hml, hown, hts⟩ (kY_isKnown l dC dI cb r0 b0 b1 b2 b3 b4 b5 b6 b7 0 cl t tn w wn ko mw hcl hwn hw a q (by omega) (by omega)) (cwV 2 hts gY_offer_Y_isKnown rfl rfl rfl (by decide +kernel) ⟨Nat.le_of_ble_eq_true rfl, Nat.le_of_ble_eq_true rfl⟩) (pr_V (ci := 1) (q0 := 0) hK hP rfl rfl) rfl rfl hl.1 rfl (lv_room (Nat.le_of_ble_eq_true rfl)) dY_offer_43 ⟨Nat.zero_le _, Nat.zero_le _⟩) ?_
            refine lv_if_eq (tgt := 61) hx hb dY_offer_46 (by decide) (fun c_46 => ?_) (fun c_46 => ?_)
            · exact absurd c_46 (by rw [hkn]; decide)
            · refine lv_aload_n hx hb dY_offer_49 rfl (lv_at hl 0 rfl) ?_
              refine lv_dup hx hb dY_offer_50 rfl ?_
              refine va_get (D := (dC, dI)) (ci := 1) (v := .int (nI ko)) (C := RY) (T := TY) (N := 13) hx hb hts in_Y_offer_Y hown hK hP 0 rfl rfl 11 (by decide) (hts (.fieldLink RY 59 "CausalGateModel" "knownOffers" "I") (by decide +kernel)) (fun _ h9 => h9) rfl dY_offer_51 ?_
              refine lv_iconst (v := 1) hx hb dY_offer_54 (by decide) ?_
              refine lv_iadd hx hb dY_offer_55 ?_
              refine tp_i (y := nI (ko + 1)) (nI_1 ko) ?_
              refine va_put (D := (dC, dI)) (ci := 1) (v := .int (nI (ko + 1))) (ty := .int) (C := RY) (T := TY) (N := 13) hx hb hts in_Y_offer_Y tyY tyY_ok nmY hown hK hP hD hS 0 rfl rfl 11 (by decide) (hts (.fieldLink RY 59 "CausalGateModel" "knownOffers" "I") (by decide +kernel)) (fun _ h9 => h9) rfl (by decide +kernel) rfl rfl (Nat.le_of_ble_eq_true rfl) dY_offer_56 (fun H locs hP hD hS => ?_)
              have hP : va_P (dC, dI) clS [(r0, .inr (1, [.int 0, .ref b0, .int (nI tn), .ref b1, .ref b2, .ref b3, .int (nI wn), .ref b4, .ref b5, .ref b6, .ref b7, .int (nI (ko + 1)), .int (nI mw)])), (b0, .inl (cb 0, 8, .inl (fun z9 => nI (cl z9)))), (b1, .inl (cb 1, 2040, .inl (fun z9 => nI ((t z9).1 / 256)))), (b2, .inl (cb 2, 2040, .inl (fun z9 => nI ((t z9).1 % 256)))), (b3, .inl (cb 3, 2040, .inl (fun z9 => (t z9).2))), (b4, .inl (cb 4, 65, .inl (fun z9 => nI ((w z9).1 / 256)))), (b5, .inl (cb 5, 65, .inl (fun z9 => nI ((w z9).1 % 256)))), (b6, .inl (cb 6, 65, .inr (.inl (fun z9 => (w z9).2.1)))), (b7, .inl (cb 7, 65, .inl (fun z9 => (w z9).2.2)))] H := hP
              have hD : va_D A [(r0, .inr (1, [.int 0, .ref b0, .int (nI tn), .ref b1, .ref b2, .ref b3, .int (nI wn), .ref b4, .ref b5, .ref b6, .ref b7, .int (nI (ko + 1)), .int (nI mw)])), (b0, .inl (cb 0, 8, .inl (fun z9 => nI (cl z9)))), (b1, .inl (cb 1, 2040, .inl (fun z9 => nI ((t z9).1 / 256)))), (b2, .inl (cb 2, 2040, .inl (fun z9 => nI ((t z9).1 % 256)))), (b3, .inl (cb 3, 2040, .inl (fun z9 => (t z9).2))), (b4, .inl (cb 4, 65, .inl (fun z9 => nI ((w z9).1 / 256)))), (b5, .inl (cb 5, 65, .inl (fun z9 => nI ((w z9).1 % 256)))), (b6, .inl (cb 6, 65, .inr (.inl (fun z9 => (w z9).2.1)))), (b7, .inl (cb 7, 65, .inl (fun z9 => (w z9).2.2)))] := hD
              refine lv_iconst (v := 0) hx hb dY_offer_59 (by decide) ?_
              exact mi_ret hx hb hr hlocks (rfl) hAe hP hD hS dY_offer_60
          · exact absurd (by decide) c_35
        · exact absurd (show nI q ≤ 255 from nI_le (b := 255) (by omega) (by omega)) c_20

set_option maxHeartbeats 4000000 in
set_option maxRecDepth 100000 in
theorem kY_offer_full (l : Launch) (dC : Nat → ClassId) (dI : Nat → Nat → Nat) (cb : Nat → ClassId) (r0 b0 b1 b2 b3 b4 b5 b6 b7 : Nat) (th : Int32) (cl : Nat → Nat) (t : TF) (tn : Nat) (w : WF) (wn : Nat) (ko mw : Nat) (sz : Nat) (hcl : ∀ a, a < 8 → cl a < 256) (hwn : wn ≤ 65) (hw : ∀ j, j < wn → (w j).1 < 2048) (a q : Nat) (ck : Int64) (lb : Int32) (ha : a < 8) (hq1 : 1 ≤ q) (hq : q < 256) (hkn : knM cl w wn a q = false) (hcn : cnM cl a q ck = false) (hfull : wn = 64) : Met l yY_offer wsY_offer ({ frames := 4, cells := 0, slots := 0, locals := 93 }) (Pm [.ref r0, .int (nI a), .int (nI q), .long ck, .int lb] (dC, dI) clS [(cb 0, .int), (cb 1, .int), (cb 2, .int), (cb 3, .int), (cb 4, .int), (cb 5, .int), (cb 6, .long), (cb 7, .int)] [(r0, .inr (1, [.int th, .ref b0, .int (nI tn), .ref b1, .ref b2, .ref b3, .int (nI wn), .ref b4, .ref b5, .ref b6, .ref b7, .int (nI ko), .int (nI mw)])), (b0, .inl (cb 0, 8, .inl (fun z9 => nI (cl z9)))), (b1, .inl (cb 1, 2040, .inl (fun z9 => nI ((t z9).1 / 256)))), (b2, .inl (cb 2, 2040, .inl (fun z9 => nI ((t z9).1 % 256)))), (b3, .inl (cb 3, 2040, .inl (fun z9 => (t z9).2))), (b4, .inl (cb 4, 65, .inl (fun z9 => nI ((w z9).1 / 256)))), (b5, .inl (cb 5, 65, .inl (fun z9 => nI ((w z9).1 % 256)))), (b6, .inl (cb 6, 65, .inr (.inl (fun z9 => (w z9).2.1)))), (b7, .inl (cb 7, 65, .inl (fun z9 => (w z9).2.2)))] sz) (QmI 0 (dC, dI) clS [(r0, .inr (1, [.int th, .ref b0, .int (nI tn), .ref b1, .ref b2, .ref b3, .int (nI wn), .ref b4, .ref b5, .ref b6, .ref b7, .int (nI ko), .int (nI mw)])), (b0, .inl (cb 0, 8, .inl (fun z9 => nI (cl z9)))), (b1, .inl (cb 1, 2040, .inl (fun z9 => nI ((t z9).1 / 256)))), (b2, .inl (cb 2, 2040, .inl (fun z9 => nI ((t z9).1 % 256)))), (b3, .inl (cb 3, 2040, .inl (fun z9 => (t z9).2))), (b4, .inl (cb 4, 65, .inl (fun z9 => nI ((w z9).1 / 256)))), (b5, .inl (cb 5, 65, .inl (fun z9 => nI ((w z9).1 % 256)))), (b6, .inl (cb 6, 65, .inr (.inl (fun z9 => (w z9).2.1)))), (b7, .inl (cb 7, 65, .inl (fun z9 => (w z9).2.2)))] [(r0, .inr (1, [.int 2, .ref b0, .int (nI tn), .ref b1, .ref b2, .ref b3, .int (nI wn), .ref b4, .ref b5, .ref b6, .ref b7, .int (nI ko), .int (nI mw)])), (b0, .inl (cb 0, 8, .inl (fun z9 => nI (cl z9)))), (b1, .inl (cb 1, 2040, .inl (fun z9 => nI ((t z9).1 / 256)))), (b2, .inl (cb 2, 2040, .inl (fun z9 => nI ((t z9).1 % 256)))), (b3, .inl (cb 3, 2040, .inl (fun z9 => (t z9).2))), (b4, .inl (cb 4, 65, .inl (fun z9 => nI ((w z9).1 / 256)))), (b5, .inl (cb 5, 65, .inl (fun z9 => nI ((w z9).1 % 256)))), (b6, .inl (cb 6, 65, .inr (.inl (fun z9 => (w z9).2.1)))), (b7, .inl (cb 7, 65, .inl (fun z9 => (w z9).2.2)))] sz) 0 0 (va_A [(r0, .inr (1, [.int th, .ref b0, .int (nI tn), .ref b1, .ref b2, .ref b3, .int (nI wn), .ref b4, .ref b5, .ref b6, .ref b7, .int (nI ko), .int (nI mw)])), (b0, .inl (cb 0, 8, .inl (fun z9 => nI (cl z9)))), (b1, .inl (cb 1, 2040, .inl (fun z9 => nI ((t z9).1 / 256)))), (b2, .inl (cb 2, 2040, .inl (fun z9 => nI ((t z9).1 % 256)))), (b3, .inl (cb 3, 2040, .inl (fun z9 => (t z9).2))), (b4, .inl (cb 4, 65, .inl (fun z9 => nI ((w z9).1 / 256)))), (b5, .inl (cb 5, 65, .inl (fun z9 => nI ((w z9).1 % 256)))), (b6, .inl (cb 6, 65, .inr (.inl (fun z9 => (w z9).2.1)))), (b7, .inl (cb 7, 65, .inl (fun z9 => (w z9).2.2)))] sz) := by
  refine Met.ofW (cc := cY_offer) (maxL := 8) (ret := (some .int)) (by decide) rfl ?_
  intro p e s m args below meth c s₁ B hml hv
  obtain ⟨hargs, hsz, hP, hK, hD0⟩ := hv
  have hx := B.exec
  have hb := B.bytes
  have hr := B.returns
  have hts := atoms_spec (ws := wsY_offer) B.pre
  have hown : s.vm.findClass RY = some m.cls := findClass_of_methodNamed B.named
  have hlocks := B.notSynchronized
  subst hsz
  have hD := hD0.self (sz := s.heap.size)
  obtain ⟨A, hAe⟩ : ∃ A, A = va_A [(r0, .inr (1, [.int th, .ref b0, .int (nI tn), .ref b1, .ref b2, .ref b3, .int (nI wn), .ref b4, .ref b5, .ref b6, .ref b7, .int (nI ko), .int (nI mw)])), (b0, .inl (cb 0, 8, .inl (fun z9 => nI (cl z9)))), (b1, .inl (cb 1, 2040, .inl (fun z9 => nI ((t z9).1 / 256)))), (b2, .inl (cb 2, 2040, .inl (fun z9 => nI ((t z9).1 % 256)))), (b3, .inl (cb 3, 2040, .inl (fun z9 => (t z9).2))), (b4, .inl (cb 4, 65, .inl (fun z9 => nI ((w z9).1 / 256)))), (b5, .inl (cb 5, 65, .inl (fun z9 => nI ((w z9).1 % 256)))), (b6, .inl (cb 6, 65, .inr (.inl (fun z9 => (w z9).2.1)))), (b7, .inl (cb 7, 65, .inl (fun z9 => (w z9).2.2)))] s.heap.size := ⟨_, rfl⟩
  rw [← hAe] at hD ⊢
  have hA : ∀ q : Nat, s.heap.size ≤ q → A q := fun q h => by rw [hAe]; exact Or.inr h
  have hS : va_S A s.heap s.heap [] := va_S.rf
  have hP : va_P (dC, dI) clS [(r0, .inr (1, [.int th, .ref b0, .int (nI tn), .ref b1, .ref b2, .ref b3, .int (nI wn), .ref b4, .ref b5, .ref b6, .ref b7, .int (nI ko), .int (nI mw)])), (b0, .inl (cb 0, 8, .inl (fun z9 => nI (cl z9)))), (b1, .inl (cb 1, 2040, .inl (fun z9 => nI ((t z9).1 / 256)))), (b2, .inl (cb 2, 2040, .inl (fun z9 => nI ((t z9).1 % 256)))), (b3, .inl (cb 3, 2040, .inl (fun z9 => (t z9).2))), (b4, .inl (cb 4, 65, .inl (fun z9 => nI ((w z9).1 / 256)))), (b5, .inl (cb 5, 65, .inl (fun z9 => nI ((w z9).1 % 256)))), (b6, .inl (cb 6, 65, .inr (.inl (fun z9 => (w z9).2.1)))), (b7, .inl (cb 7, 65, .inl (fun z9 => (w z9).2.2)))] s.heap := hP
  have hl := lv_entry ([.ref r0, .int (nI a), .int (nI q), .long ck, .int lb]) (n := 8) (Nat.le_of_ble_eq_true rfl)
  have hE : entryFrame m args 8 = F0 m 0 ((lg_sl ([.ref r0, .int (nI a), .int (nI q), .long ck, .int lb]) ++ List.replicate (8 - (lg_sl ([.ref r0, .int (nI a), .int (nI q), .long ck, .int lb])).length) Slot.unset).toArray) [] := by rw [hargs]; exact lg_entry_eq m ([.ref r0, .int (nI a), .int (nI q), .long ck, .int lb]) 8
  rw [hE]
  generalize (lg_sl ([.ref r0, .int (nI a), .int (nI q), .long ck, .int lb]) ++ List.replicate (8 - (lg_sl ([.ref r0, .int (nI a), .int (nI q), .long ck, .int lb])).length) Slot.unset).toArray = ls at hl ⊢
  have hl : lv_has ls 8 [(0, .ref r0), (1, .int (nI a)), (2, .int (nI q)), (3, .long ck), (5, .int lb)] := hl
  refine lv_aload_n hx hb dY_offer_0 rfl (lv_at hl 0 rfl) ?_
  refine lv_iload_n hx hb dY_offer_1 rfl (lv_at hl 1 rfl) ?_
  refine lv_if_lt (tgt := 23) hx hb dY_offer_2 (by decide) (fun c_2 => ?_) (fun c_2 => ?_)
  · exact absurd c_2 (nI_pos (by omega))
  · refine lv_iload_n hx hb dY_offer_5 rfl (lv_at hl 1 rfl) ?_
    refine lv_bipush (v := 7) hx hb dY_offer_6 (by decide) ?_
    refine lv_icmp_gt (tgt := 23) hx hb dY_offer_8 (by decide) (fun c_8 => ?_) (fun c_8 => ?_)
    · exact absurd c_8 (by have h7 : (7 : Int32) = nI 7 := rfl; rw [h7]; exact nI_nlt (by omega) (by omega))
    · refine lv_iload_n hx hb dY_offer_11 rfl (lv_at hl 2 rfl) ?_
      refine lv_iconst (v := 1) hx hb dY_offer_12 (by decide) ?_
      refine lv_icmp_lt (tgt := 23) hx hb dY_offer_13 (by decide) (fun c_13 => ?_) (fun c_13 => ?_)
      · exact absurd c_13 (by have h1 : (1 : Int32) = nI 1 := rfl; rw [h1]; exact nI_nlt (by omega) (by omega))
      · refine lv_iload_n hx hb dY_offer_16 rfl (lv_at hl 2 rfl) ?_
        refine lv_sipush (v := 255) hx hb dY_offer_17 (by decide) ?_
        refine lv_icmp_le (tgt := 27) hx hb dY_offer_20 (by decide) (fun c_20 => ?_) (fun c_20 => ?_)
        · refine lv_iconst (v := 0) hx hb dY_offer_27 (by decide) ?_
          refine va_put (D := (dC, dI)) (ci := 1) (v := .int 0) (ty := .int) (C := RY) (T := TY) (N := 13) hx hb hts in_Y_offer_Y tyY tyY_ok nmY hown hK hP hD hS 0 rfl rfl 0 (by decide) (hts (.fieldLink RY 35 "CausalGateModel" "thrown" "I") (by decide +kernel)) (fun _ h9 => h9) rfl (by decide +kernel) rfl rfl (Nat.le_of_ble_eq_true rfl) dY_offer_28 (fun H locs hP hD hS => ?_)
          have hP : va_P (dC, dI) clS [(r0, .inr (1, [.int 0, .ref b0, .int (nI tn), .ref b1, .ref b2, .ref b3, .int (nI wn), .ref b4, .ref b5, .ref b6, .ref b7, .int (nI ko), .int (nI mw)])), (b0, .inl (cb 0, 8, .inl (fun z9 => nI (cl z9)))), (b1, .inl (cb 1, 2040, .inl (fun z9 => nI ((t z9).1 / 256)))), (b2, .inl (cb 2, 2040, .inl (fun z9 => nI ((t z9).1 % 256)))), (b3, .inl (cb 3, 2040, .inl (fun z9 => (t z9).2))), (b4, .inl (cb 4, 65, .inl (fun z9 => nI ((w z9).1 / 256)))), (b5, .inl (cb 5, 65, .inl (fun z9 => nI ((w z9).1 % 256)))), (b6, .inl (cb 6, 65, .inr (.inl (fun z9 => (w z9).2.1)))), (b7, .inl (cb 7, 65, .inl (fun z9 => (w z9).2.2)))] H := hP
          have hD : va_D A [(r0, .inr (1, [.int 0, .ref b0, .int (nI tn), .ref b1, .ref b2, .ref b3, .int (nI wn), .ref b4, .ref b5, .ref b6, .ref b7, .int (nI ko), .int (nI mw)])), (b0, .inl (cb 0, 8, .inl (fun z9 => nI (cl z9)))), (b1, .inl (cb 1, 2040, .inl (fun z9 => nI ((t z9).1 / 256)))), (b2, .inl (cb 2, 2040, .inl (fun z9 => nI ((t z9).1 % 256)))), (b3, .inl (cb 3, 2040, .inl (fun z9 => (t z9).2))), (b4, .inl (cb 4, 65, .inl (fun z9 => nI ((w z9).1 / 256)))), (b5, .inl (cb 5, 65, .inl (fun z9 => nI ((w z9).1 % 256)))), (b6, .inl (cb 6, 65, .inr (.inl (fun z9 => (w z9).2.1)))), (b7, .inl (cb 7, 65, .inl (fun z9 => (w z9).2.2)))] := hD
          refine lv_aload_n hx hb dY_offer_31 rfl (lv_at hl 0 rfl) ?_
          refine va_get (D := (dC, dI)) (ci := 1) (v := .int 0) (C := RY) (T := TY) (N := 13) hx hb hts in_Y_offer_Y hown hK hP 0 rfl rfl 0 (by decide) (hts (.fieldLink RY 35 "CausalGateModel" "thrown" "I") (by decide +kernel)) (fun _ h9 => h9) rfl dY_offer_32 ?_
          refine lv_if_le (tgt := 40) hx hb dY_offer_35 (by decide) (fun c_35 => ?_) (fun c_35 => ?_)
          · refine lv_aload_n hx hb dY_offer_40 rfl (lv_at hl 0 rfl) ?_
            refine lv_iload_n hx hb dY_offer_41 rfl (lv_at hl 1 rfl) ?_
            refine lv_iload_n hx hb dY_offer_42 rfl (lv_at hl 2 rfl) ?_
            refine rd_i (W.runV (As := [.int (nI a), .int (nI q)]) (rest := []) ⟨hx, hb, hml, hown, hts⟩ (kY_isKnown l dC dI cb r0 b0 b1 b2 b3 b4 b5 b6 b7 0 cl t tn w wn ko mw hcl hwn hw a q (by omega) (by omega)) (cwV 2 hts gY_offer_Y_isKnown rfl rfl rfl (by decide +kernel) ⟨Nat.le_of_ble_eq_true rfl, Nat.le_of_ble_eq_true rfl⟩) (pr_V (ci := 1) (q0 := 0) hK hP rfl rfl) rfl rfl hl.1 rfl (lv_room (Nat.le_of_ble_eq_true rfl)) dY_offer_43 ⟨Nat.zero_le _, Nat.zero_le _⟩) ?_
            refine lv_if_eq (tgt := 61) hx hb dY_offer_46 (by decide) (fun c_46 => ?_) (fun c_46 => ?_)
            · refine lv_aload_n hx hb dY_offer_61 rfl (lv_at hl 0 rfl) ?_
              refine lv_aload_n hx hb dY_offer_62 rfl (lv_at hl 0 rfl) ?_
              refine lv_iload_n hx hb dY_offer_63 rfl (lv_at hl 1 rfl) ?_
              refine lv_iload_n hx hb dY_offer_64 rfl (lv_at hl 2 rfl) ?_
              refine lv_lload_n hx hb dY_offer_65 rfl (lv_at hl 3 rfl) ?_
              refine rd_i (W.runV (As := [.int (nI a), .int (nI q), .long ck]) (rest := [.ref r0]) ⟨hx, hb, hml, hown, hts⟩ (kY_canCome l dC dI cb r0 b0 b1 b2 b3 b4 b5 b6 b7 0 cl t tn w wn ko mw hcl a q ck (by omega) (by omega)) (cwV 3 hts gY_offer_Y_canCome rfl rfl rfl (by decide +kernel) ⟨Nat.le_of_ble_eq_true rfl, Nat.le_of_ble_eq_true rfl⟩) (pr_V (ci := 1) (q0 := 0) hK hP rfl rfl) rfl rfl hl.1 rfl (lv_room (Nat.le_of_ble_eq_true rfl)) dY_offer_66 ⟨Nat.zero_le _, Nat.zero_le _⟩) ?_
              refine lv_if_ne (tgt := 85) hx hb dY_offer_69 (by decide) (fun c_69 => ?_) (fun c_69 => ?_)
              · exact absurd (by rw [hcn]; rfl) c_69
              · refine lv_aload_n hx hb dY_offer_72 rfl (lv_at hl 0 rfl) ?_
                refine va_get (D := (dC, dI)) (ci := 1) (v := .int (nI wn)) (C := RY) (T := TY) (N := 13) hx hb hts in_Y_offer_Y hown hK hP 0 rfl rfl 6 (by decide) (hts (.fieldLink RY 49 "CausalGateModel" "waiting" "I") (by decide +kernel)) (fun _ h9 => h9) rfl dY_offer_73 ?_
                refine lv_bipush (v := 64) hx hb dY_offer_76 (by decide) ?_
                refine lv_icmp_ne (tgt := 85) hx hb dY_offer_78 (by decide) (fun c_78 => ?_) (fun c_78 => ?_)
                · exact absurd (by rw [hfull]; rfl) c_78
                · refine lv_iconst (v := 2) hx hb dY_offer_81 (by decide) ?_
                  refine lv_goto (tgt := 86) hx hb dY_offer_82 (by decide) ?_
                  refine va_put (D := (dC, dI)) (ci := 1) (v := .int 2) (ty := .int) (C := RY) (T := TY) (N := 13) hx hb hts in_Y_offer_Y tyY tyY_ok nmY hown hK hP hD hS 0 rfl rfl 0 (by decide) (hts (.fieldLink RY 35 "CausalGateModel" "thrown" "I") (by decide +kernel)) (fun _ h9 => h9) rfl (by decide +kernel) rfl rfl (Nat.le_of_ble_eq_true rfl) dY_offer_86 (fun H locs hP hD hS => ?_)
                  have hP : va_P (dC, dI) clS [(r0, .inr (1, [.int 2, .ref b0, .int (nI tn), .ref b1, .ref b2, .ref b3, .int (nI wn), .ref b4, .ref b5, .ref b6, .ref b7, .int (nI ko), .int (nI mw)])), (b0, .inl (cb 0, 8, .inl (fun z9 => nI (cl z9)))), (b1, .inl (cb 1, 2040, .inl (fun z9 => nI ((t z9).1 / 256)))), (b2, .inl (cb 2, 2040, .inl (fun z9 => nI ((t z9).1 % 256)))), (b3, .inl (cb 3, 2040, .inl (fun z9 => (t z9).2))), (b4, .inl (cb 4, 65, .inl (fun z9 => nI ((w z9).1 / 256)))), (b5, .inl (cb 5, 65, .inl (fun z9 => nI ((w z9).1 % 256)))), (b6, .inl (cb 6, 65, .inr (.inl (fun z9 => (w z9).2.1)))), (b7, .inl (cb 7, 65, .inl (fun z9 => (w z9).2.2)))] H := hP
                  have hD : va_D A [(r0, .inr (1, [.int 2, .ref b0, .int (nI tn), .ref b1, .ref b2, .ref b3, .int (nI wn), .ref b4, .ref b5, .ref b6, .ref b7, .int (nI ko), .int (nI mw)])), (b0, .inl (cb 0, 8, .inl (fun z9 => nI (cl z9)))), (b1, .inl (cb 1, 2040, .inl (fun z9 => nI ((t z9).1 / 256)))), (b2, .inl (cb 2, 2040, .inl (fun z9 => nI ((t z9).1 % 256)))), (b3, .inl (cb 3, 2040, .inl (fun z9 => (t z9).2))), (b4, .inl (cb 4, 65, .inl (fun z9 => nI ((w z9).1 / 256)))), (b5, .inl (cb 5, 65, .inl (fun z9 => nI ((w z9).1 % 256)))), (b6, .inl (cb 6, 65, .inr (.inl (fun z9 => (w z9).2.1)))), (b7, .inl (cb 7, 65, .inl (fun z9 => (w z9).2.2)))] := hD
                  refine lv_aload_n hx hb dY_offer_89 rfl (lv_at hl 0 rfl) ?_
                  refine va_get (D := (dC, dI)) (ci := 1) (v := .int 2) (C := RY) (T := TY) (N := 13) hx hb hts in_Y_offer_Y hown hK hP 0 rfl rfl 0 (by decide) (hts (.fieldLink RY 35 "CausalGateModel" "thrown" "I") (by decide +kernel)) (fun _ h9 => h9) rfl dY_offer_90 ?_
                  refine lv_if_le (tgt := 98) hx hb dY_offer_93 (by decide) (fun c_93 => ?_) (fun c_93 => ?_)
                  · exact absurd c_93 (by decide)
                  · refine lv_iconst (v := 0) hx hb dY_offer_96 (by decide) ?_
                    exact mi_ret hx hb hr hlocks (rfl) hAe hP hD hS dY_offer_97
            · exact absurd (by rw [hkn]; rfl) c_46
          · exact absurd (by decide) c_35
        · exact absurd (show nI q ≤ 255 from nI_le (b := 255) (by omega) (by omega)) c_20
