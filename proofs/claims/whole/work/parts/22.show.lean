set_option maxHeartbeats 4000000 in
set_option maxRecDepth 100000 in
theorem k_through_bad (l : Launch) (htr : l.stackTraces = false) (dC : Nat → ClassId) (dI : Nat → Nat → Nat) (ca : Nat → ClassId) (h0 a0 a1 a2 a3 a4 : Nat) (t : TF) (tn : Nat) (w : WF) (wn : Nat) (g : Int64) (ko mw : Nat) (sz sa : Nat) (x y : Int32) (hbad : bad tn 2 x y = true) : vx_Met l yX0_through wsX0_through ({ frames := 6, cells := 1, slots := 6, locals := 91 }) (Px [.ref h0, .int x, .int y] (dC, dI) clS [(ca 0, .int), (ca 1, .int), (ca 2, .int), (ca 3, .long), (ca 4, .int)] [(h0, .inr (0, [.ref a0, .ref a1, .int (nI tn), .ref a2, .ref a3, .ref a4, .int (nI wn), .long g, .int (nI ko), .int (nI mw)])), (a0, .inl (ca 0, 512, .inl (fun z9 => nI (t z9).1))), (a1, .inl (ca 1, 512, .inl (fun z9 => (t z9).2))), (a2, .inl (ca 2, 65, .inl (fun z9 => nI (w z9).1))), (a3, .inl (ca 3, 65, .inr (.inl (fun z9 => (w z9).2.1)))), (a4, .inl (ca 4, 65, .inl (fun z9 => (w z9).2.2)))] sz RX0 88 "no such change or no such what" sa "java/lang/IndexOutOfBoundsException") (Qn [(h0, .inr (0, [.ref a0, .ref a1, .int (nI tn), .ref a2, .ref a3, .ref a4, .int (nI wn), .long g, .int (nI ko), .int (nI mw)])), (a0, .inl (ca 0, 512, .inl (fun z9 => nI (t z9).1))), (a1, .inl (ca 1, 512, .inl (fun z9 => (t z9).2))), (a2, .inl (ca 2, 65, .inl (fun z9 => nI (w z9).1))), (a3, .inl (ca 3, 65, .inr (.inl (fun z9 => (w z9).2.1)))), (a4, .inl (ca 4, 65, .inl (fun z9 => (w z9).2.2)))] sz) (Xc (dC, dI) clS [(h0, .inr (0, [.ref a0, .ref a1, .int (nI tn), .ref a2, .ref a3, .ref a4, .int (nI wn), .long g, .int (nI ko), .int (nI mw)])), (a0, .inl (ca 0, 512, .inl (fun z9 => nI (t z9).1))), (a1, .inl (ca 1, 512, .inl (fun z9 => (t z9).2))), (a2, .inl (ca 2, 65, .inl (fun z9 => nI (w z9).1))), (a3, .inl (ca 3, 65, .inr (.inl (fun z9 => (w z9).2.1)))), (a4, .inl (ca 4, 65, .inl (fun z9 => (w z9).2.2)))] sz "java/lang/IndexOutOfBoundsException") 1 6 (va_A [(h0, .inr (0, [.ref a0, .ref a1, .int (nI tn), .ref a2, .ref a3, .ref a4, .int (nI wn), .long g, .int (nI ko), .int (nI mw)])), (a0, .inl (ca 0, 512, .inl (fun z9 => nI (t z9).1))), (a1, .inl (ca 1, 512, .inl (fun z9 => (t z9).2))), (a2, .inl (ca 2, 65, .inl (fun z9 => nI (w z9).1))), (a3, .inl (ca 3, 65, .inr (.inl (fun z9 => (w z9).2.1)))), (a4, .inl (ca 4, 65, .inl (fun z9 => (w z9).2.2)))] sz) := by
  refine vx_ofW (cc := cX0_through) (maxL := 3) (ret := (some .int)) (by decide) rfl ?_
  intro p e s m args below meth c s₁ B hml hex hv
  obtain ⟨hargs, ⟨hsz, hP, hK, hD0⟩, hstr, hcast, hU, hN⟩ := hv
  have hx := B.exec
  have hb := B.bytes
  have hr := B.returns
  have hts := atoms_spec (ws := wsX0_through) B.pre
  have hown : s.vm.findClass RX0 = some m.cls := findClass_of_methodNamed B.named
  have hlocks := B.notSynchronized
  subst hsz
  have hD := hD0.self (sz := s.heap.size)
  have hS : va_S (va_A [(h0, .inr (0, [.ref a0, .ref a1, .int (nI tn), .ref a2, .ref a3, .ref a4, .int (nI wn), .long g, .int (nI ko), .int (nI mw)])), (a0, .inl (ca 0, 512, .inl (fun z9 => nI (t z9).1))), (a1, .inl (ca 1, 512, .inl (fun z9 => (t z9).2))), (a2, .inl (ca 2, 65, .inl (fun z9 => nI (w z9).1))), (a3, .inl (ca 3, 65, .inr (.inl (fun z9 => (w z9).2.1)))), (a4, .inl (ca 4, 65, .inl (fun z9 => (w z9).2.2)))] s.heap.size) s.heap s.heap [] := va_S.rf
  have hP : va_P (dC, dI) clS [(h0, .inr (0, [.ref a0, .ref a1, .int (nI tn), .ref a2, .ref a3, .ref a4, .int (nI wn), .long g, .int (nI ko), .int (nI mw)])), (a0, .inl (ca 0, 512, .inl (fun z9 => nI (t z9).1))), (a1, .inl (ca 1, 512, .inl (fun z9 => (t z9).2))), (a2, .inl (ca 2, 65, .inl (fun z9 => nI (w z9).1))), (a3, .inl (ca 3, 65, .inr (.inl (fun z9 => (w z9).2.1)))), (a4, .inl (ca 4, 65, .inl (fun z9 => (w z9).2.2)))] s.heap := hP
  have hl := lv_entry ([.ref h0, .int x, .int y]) (n := 3) (Nat.le_of_ble_eq_true rfl)
  have hE : entryFrame m args 3 = F0 m 0 ((lg_sl ([.ref h0, .int x, .int y]) ++ List.replicate (3 - (lg_sl ([.ref h0, .int x, .int y])).length) Slot.unset).toArray) [] := by rw [hargs]; exact lg_entry_eq m ([.ref h0, .int x, .int y]) 3
  rw [hE]
  generalize (lg_sl ([.ref h0, .int x, .int y]) ++ List.replicate (3 - (lg_sl ([.ref h0, .int x, .int y])).length) Slot.unset).toArray = ls at hl ⊢
  have hl : lv_has ls 3 [(0, .ref h0), (1, .int x), (2, .int y)] := hl
  refine lv_iload_n hx hb dX0_through_0 rfl (lv_at hl 1 rfl) ?_
  refine lv_if_lt (tgt := 21) hx hb dX0_through_1 (by decide) (fun c_1 => ?_) (fun c_1 => ?_)
  · exact vx_throwS (sa := sa) hx hb htr (own := RX0) (cls := "java/lang/IndexOutOfBoundsException") (text := "no such change or no such what") (names := ["java/lang/RuntimeException", "java/lang/Exception"]) (ik := 86) (is := 88) (ic := 90) hown (by decide +kernel) (by decide +kernel) (hts (.classLink RX0 86 "java/lang/IndexOutOfBoundsException") (by decide +kernel)) (hts (.initialized "java/lang/IndexOutOfBoundsException") (by decide +kernel)) hstr (vx_hat (L := vx_atS RX0 90 "java/lang/IndexOutOfBoundsException" ["java/lang/RuntimeException", "java/lang/Exception"]) (B := .castable "java/lang/IndexOutOfBoundsException" "java/lang/IndexOutOfBoundsException" :: dcl3) (fun w h => hts w (List.mem_cons_of_mem _ (List.mem_append_right _ h))) (by decide +kernel) (vx_c (va_Nw.use rfl hcast.1) (dc_all hcast.2))) (by decide +kernel) hU hN hS (by rw [hml]; exact hl.1) dX0_through_21 dX0_through_24 dX0_through_25 dX0_through_27 dX0_through_30 (fun x h => (hex x h).elim) (Nat.le_of_ble_eq_true rfl) (Nat.le_of_ble_eq_true rfl) (Nat.le_of_ble_eq_true rfl) (Nat.le_of_ble_eq_true rfl) hlocks (th_x hP hD) (fun z h => by cases h) (Nat.le_of_ble_eq_true rfl) (Nat.le_of_ble_eq_true rfl)
  · refine lv_iload_n hx hb dX0_through_4 rfl (lv_at hl 1 rfl) ?_
    refine lv_aload_n hx hb dX0_through_5 rfl (lv_at hl 0 rfl) ?_
    refine va_get (D := (dC, dI)) (ci := 0) (v := .int (nI tn)) (C := RX0) (T := TX0) (N := 10) hx hb hts in_X0_through_X0 hown hK hP 0 rfl rfl 2 (by decide) (hts (.fieldLink RX0 26 "CausalGate" "throughCount" "I") (by decide +kernel)) (fun _ h9 => h9) rfl dX0_through_6 ?_
    refine lv_icmp_ge (tgt := 21) hx hb dX0_through_9 (by decide) (fun c_9 => ?_) (fun c_9 => ?_)
    · exact vx_throwS (sa := sa) hx hb htr (own := RX0) (cls := "java/lang/IndexOutOfBoundsException") (text := "no such change or no such what") (names := ["java/lang/RuntimeException", "java/lang/Exception"]) (ik := 86) (is := 88) (ic := 90) hown (by decide +kernel) (by decide +kernel) (hts (.classLink RX0 86 "java/lang/IndexOutOfBoundsException") (by decide +kernel)) (hts (.initialized "java/lang/IndexOutOfBoundsException") (by decide +kernel)) hstr (vx_hat (L := vx_atS RX0 90 "java/lang/IndexOutOfBoundsException" ["java/lang/RuntimeException", "java/lang/Exception"]) (B := .castable "java/lang/IndexOutOfBoundsException" "java/lang/IndexOutOfBoundsException" :: dcl3) (fun w h => hts w (List.mem_cons_of_mem _ (List.mem_append_right _ h))) (by decide +kernel) (vx_c (va_Nw.use rfl hcast.1) (dc_all hcast.2))) (by decide +kernel) hU hN hS (by rw [hml]; exact hl.1) dX0_through_21 dX0_through_24 dX0_through_25 dX0_through_27 dX0_through_30 (fun x h => (hex x h).elim) (Nat.le_of_ble_eq_true rfl) (Nat.le_of_ble_eq_true rfl) (Nat.le_of_ble_eq_true rfl) (Nat.le_of_ble_eq_true rfl) hlocks (th_x hP hD) (fun z h => by cases h) (Nat.le_of_ble_eq_true rfl) (Nat.le_of_ble_eq_true rfl)
    · refine lv_iload_n hx hb dX0_through_12 rfl (lv_at hl 2 rfl) ?_
      refine lv_if_lt (tgt := 21) hx hb dX0_through_13 (by decide) (fun c_13 => ?_) (fun c_13 => ?_)
      · exact vx_throwS (sa := sa) hx hb htr (own := RX0) (cls := "java/lang/IndexOutOfBoundsException") (text := "no such change or no such what") (names := ["java/lang/RuntimeException", "java/lang/Exception"]) (ik := 86) (is := 88) (ic := 90) hown (by decide +kernel) (by decide +kernel) (hts (.classLink RX0 86 "java/lang/IndexOutOfBoundsException") (by decide +kernel)) (hts (.initialized "java/lang/IndexOutOfBoundsException") (by decide +kernel)) hstr (vx_hat (L := vx_atS RX0 90 "java/lang/IndexOutOfBoundsException" ["java/lang/RuntimeException", "java/lang/Exception"]) (B := .castable "java/lang/IndexOutOfBoundsException" "java/lang/IndexOutOfBoundsException" :: dcl3) (fun w h => hts w (List.mem_cons_of_mem _ (List.mem_append_right _ h))) (by decide +kernel) (vx_c (va_Nw.use rfl hcast.1) (dc_all hcast.2))) (by decide +kernel) hU hN hS (by rw [hml]; exact hl.1) dX0_through_21 dX0_through_24 dX0_through_25 dX0_through_27 dX0_through_30 (fun x h => (hex x h).elim) (Nat.le_of_ble_eq_true rfl) (Nat.le_of_ble_eq_true rfl) (Nat.le_of_ble_eq_true rfl) (Nat.le_of_ble_eq_true rfl) hlocks (th_x hP hD) (fun z h => by cases h) (Nat.le_of_ble_eq_true rfl) (Nat.le_of_ble_eq_true rfl)
      · refine lv_iload_n hx hb dX0_through_16 rfl (lv_at hl 2 rfl) ?_
        refine lv_iconst (v := 2) hx hb dX0_through_17 (by decide) ?_
        refine lv_icmp_le (tgt := 31) hx hb dX0_through_18 (by decide) (fun c_18 => ?_) (fun c_18 => ?_)
        · exact absurd hbad (by simp [bad, c_1, c_9, c_13, Int32.not_lt.mpr c_18])
        · exact vx_throwS (sa := sa) hx hb htr (own := RX0) (cls := "java/lang/IndexOutOfBoundsException") (text := "no such change or no such what") (names := ["java/lang/RuntimeException", "java/lang/Exception"]) (ik := 86) (is := 88) (ic := 90) hown (by decide +kernel) (by decide +kernel) (hts (.classLink RX0 86 "java/lang/IndexOutOfBoundsException") (by decide +kernel)) (hts (.initialized "java/lang/IndexOutOfBoundsException") (by decide +kernel)) hstr (vx_hat (L := vx_atS RX0 90 "java/lang/IndexOutOfBoundsException" ["java/lang/RuntimeException", "java/lang/Exception"]) (B := .castable "java/lang/IndexOutOfBoundsException" "java/lang/IndexOutOfBoundsException" :: dcl3) (fun w h => hts w (List.mem_cons_of_mem _ (List.mem_append_right _ h))) (by decide +kernel) (vx_c (va_Nw.use rfl hcast.1) (dc_all hcast.2))) (by decide +kernel) hU hN hS (by rw [hml]; exact hl.1) dX0_through_21 dX0_through_24 dX0_through_25 dX0_through_27 dX0_through_30 (fun x h => (hex x h).elim) (Nat.le_of_ble_eq_true rfl) (Nat.le_of_ble_eq_true rfl) (Nat.le_of_ble_eq_true rfl) (Nat.le_of_ble_eq_true rfl) hlocks (th_x hP hD) (fun z h => by cases h) (Nat.le_of_ble_eq_true rfl) (Nat.le_of_ble_eq_true rfl)

set_option maxHeartbeats 4000000 in
set_option maxRecDepth 100000 in
theorem k_waiting_bad (l : Launch) (htr : l.stackTraces = false) (dC : Nat → ClassId) (dI : Nat → Nat → Nat) (ca : Nat → ClassId) (h0 a0 a1 a2 a3 a4 : Nat) (t : TF) (tn : Nat) (w : WF) (wn : Nat) (g : Int64) (ko mw : Nat) (sz sa : Nat) (x y : Int32) (hbad : bad wn 4 x y = true) : vx_Met l yX0_waiting wsX0_waiting ({ frames := 6, cells := 1, slots := 6, locals := 91 }) (Px [.ref h0, .int x, .int y] (dC, dI) clS [(ca 0, .int), (ca 1, .int), (ca 2, .int), (ca 3, .long), (ca 4, .int)] [(h0, .inr (0, [.ref a0, .ref a1, .int (nI tn), .ref a2, .ref a3, .ref a4, .int (nI wn), .long g, .int (nI ko), .int (nI mw)])), (a0, .inl (ca 0, 512, .inl (fun z9 => nI (t z9).1))), (a1, .inl (ca 1, 512, .inl (fun z9 => (t z9).2))), (a2, .inl (ca 2, 65, .inl (fun z9 => nI (w z9).1))), (a3, .inl (ca 3, 65, .inr (.inl (fun z9 => (w z9).2.1)))), (a4, .inl (ca 4, 65, .inl (fun z9 => (w z9).2.2)))] sz RX0 88 "no such change or no such what" sa "java/lang/IndexOutOfBoundsException") (Qn [(h0, .inr (0, [.ref a0, .ref a1, .int (nI tn), .ref a2, .ref a3, .ref a4, .int (nI wn), .long g, .int (nI ko), .int (nI mw)])), (a0, .inl (ca 0, 512, .inl (fun z9 => nI (t z9).1))), (a1, .inl (ca 1, 512, .inl (fun z9 => (t z9).2))), (a2, .inl (ca 2, 65, .inl (fun z9 => nI (w z9).1))), (a3, .inl (ca 3, 65, .inr (.inl (fun z9 => (w z9).2.1)))), (a4, .inl (ca 4, 65, .inl (fun z9 => (w z9).2.2)))] sz) (Xc (dC, dI) clS [(h0, .inr (0, [.ref a0, .ref a1, .int (nI tn), .ref a2, .ref a3, .ref a4, .int (nI wn), .long g, .int (nI ko), .int (nI mw)])), (a0, .inl (ca 0, 512, .inl (fun z9 => nI (t z9).1))), (a1, .inl (ca 1, 512, .inl (fun z9 => (t z9).2))), (a2, .inl (ca 2, 65, .inl (fun z9 => nI (w z9).1))), (a3, .inl (ca 3, 65, .inr (.inl (fun z9 => (w z9).2.1)))), (a4, .inl (ca 4, 65, .inl (fun z9 => (w z9).2.2)))] sz "java/lang/IndexOutOfBoundsException") 1 6 (va_A [(h0, .inr (0, [.ref a0, .ref a1, .int (nI tn), .ref a2, .ref a3, .ref a4, .int (nI wn), .long g, .int (nI ko), .int (nI mw)])), (a0, .inl (ca 0, 512, .inl (fun z9 => nI (t z9).1))), (a1, .inl (ca 1, 512, .inl (fun z9 => (t z9).2))), (a2, .inl (ca 2, 65, .inl (fun z9 => nI (w z9).1))), (a3, .inl (ca 3, 65, .inr (.inl (fun z9 => (w z9).2.1)))), (a4, .inl (ca 4, 65, .inl (fun z9 => (w z9).2.2)))] sz) := by
  refine vx_ofW (cc := cX0_waiting) (maxL := 3) (ret := (some .int)) (by decide) rfl ?_
  intro p e s m args below meth c s₁ B hml hex hv
  obtain ⟨hargs, ⟨hsz, hP, hK, hD0⟩, hstr, hcast, hU, hN⟩ := hv
  have hx := B.exec
  have hb := B.bytes
  have hr := B.returns
  have hts := atoms_spec (ws := wsX0_waiting) B.pre
  have hown : s.vm.findClass RX0 = some m.cls := findClass_of_methodNamed B.named
  have hlocks := B.notSynchronized
  subst hsz
  have hD := hD0.self (sz := s.heap.size)
  have hS : va_S (va_A [(h0, .inr (0, [.ref a0, .ref a1, .int (nI tn), .ref a2, .ref a3, .ref a4, .int (nI wn), .long g, .int (nI ko), .int (nI mw)])), (a0, .inl (ca 0, 512, .inl (fun z9 => nI (t z9).1))), (a1, .inl (ca 1, 512, .inl (fun z9 => (t z9).2))), (a2, .inl (ca 2, 65, .inl (fun z9 => nI (w z9).1))), (a3, .inl (ca 3, 65, .inr (.inl (fun z9 => (w z9).2.1)))), (a4, .inl (ca 4, 65, .inl (fun z9 => (w z9).2.2)))] s.heap.size) s.heap s.heap [] := va_S.rf
  have hP : va_P (dC, dI) clS [(h0, .inr (0, [.ref a0, .ref a1, .int (nI tn), .ref a2, .ref a3, .ref a4, .int (nI wn), .long g, .int (nI ko), .int (nI mw)])), (a0, .inl (ca 0, 512, .inl (fun z9 => nI (t z9).1))), (a1, .inl (ca 1, 512, .inl (fun z9 => (t z9).2))), (a2, .inl (ca 2, 65, .inl (fun z9 => nI (w z9).1))), (a3, .inl (ca 3, 65, .inr (.inl (fun z9 => (w z9).2.1)))), (a4, .inl (ca 4, 65, .inl (fun z9 => (w z9).2.2)))] s.heap := hP
  have hl := lv_entry ([.ref h0, .int x, .int y]) (n := 3) (Nat.le_of_ble_eq_true rfl)
  have hE : entryFrame m args 3 = F0 m 0 ((lg_sl ([.ref h0, .int x, .int y]) ++ List.replicate (3 - (lg_sl ([.ref h0, .int x, .int y])).length) Slot.unset).toArray) [] := by rw [hargs]; exact lg_entry_eq m ([.ref h0, .int x, .int y]) 3
  rw [hE]
  generalize (lg_sl ([.ref h0, .int x, .int y]) ++ List.replicate (3 - (lg_sl ([.ref h0, .int x, .int y])).length) Slot.unset).toArray = ls at hl ⊢
  have hl : lv_has ls 3 [(0, .ref h0), (1, .int x), (2, .int y)] := hl
  refine lv_iload_n hx hb dX0_waiting_0 rfl (lv_at hl 1 rfl) ?_
  refine lv_if_lt (tgt := 21) hx hb dX0_waiting_1 (by decide) (fun c_1 => ?_) (fun c_1 => ?_)
  · exact vx_throwS (sa := sa) hx hb htr (own := RX0) (cls := "java/lang/IndexOutOfBoundsException") (text := "no such change or no such what") (names := ["java/lang/RuntimeException", "java/lang/Exception"]) (ik := 86) (is := 88) (ic := 90) hown (by decide +kernel) (by decide +kernel) (hts (.classLink RX0 86 "java/lang/IndexOutOfBoundsException") (by decide +kernel)) (hts (.initialized "java/lang/IndexOutOfBoundsException") (by decide +kernel)) hstr (vx_hat (L := vx_atS RX0 90 "java/lang/IndexOutOfBoundsException" ["java/lang/RuntimeException", "java/lang/Exception"]) (B := .castable "java/lang/IndexOutOfBoundsException" "java/lang/IndexOutOfBoundsException" :: dcl3) (fun w h => hts w (List.mem_cons_of_mem _ (List.mem_append_right _ h))) (by decide +kernel) (vx_c (va_Nw.use rfl hcast.1) (dc_all hcast.2))) (by decide +kernel) hU hN hS (by rw [hml]; exact hl.1) dX0_waiting_21 dX0_waiting_24 dX0_waiting_25 dX0_waiting_27 dX0_waiting_30 (fun x h => (hex x h).elim) (Nat.le_of_ble_eq_true rfl) (Nat.le_of_ble_eq_true rfl) (Nat.le_of_ble_eq_true rfl) (Nat.le_of_ble_eq_true rfl) hlocks (th_x hP hD) (fun z h => by cases h) (Nat.le_of_ble_eq_true rfl) (Nat.le_of_ble_eq_true rfl)
  · refine lv_iload_n hx hb dX0_waiting_4 rfl (lv_at hl 1 rfl) ?_
    refine lv_aload_n hx hb dX0_waiting_5 rfl (lv_at hl 0 rfl) ?_
    refine va_get (D := (dC, dI)) (ci := 0) (v := .int (nI wn)) (C := RX0) (T := TX0) (N := 10) hx hb hts in_X0_waiting_X0 hown hK hP 0 rfl rfl 6 (by decide) (hts (.fieldLink RX0 30 "CausalGate" "waitCount" "I") (by decide +kernel)) (fun _ h9 => h9) rfl dX0_waiting_6 ?_
    refine lv_icmp_ge (tgt := 21) hx hb dX0_waiting_9 (by decide) (fun c_9 => ?_) (fun c_9 => ?_)
    · exact vx_throwS (sa := sa) hx hb htr (own := RX0) (cls := "java/lang/IndexOutOfBoundsException") (text := "no such change or no such what") (names := ["java/lang/RuntimeException", "java/lang/Exception"]) (ik := 86) (is := 88) (ic := 90) hown (by decide +kernel) (by decide +kernel) (hts (.classLink RX0 86 "java/lang/IndexOutOfBoundsException") (by decide +kernel)) (hts (.initialized "java/lang/IndexOutOfBoundsException") (by decide +kernel)) hstr (vx_hat (L := vx_atS RX0 90 "java/lang/IndexOutOfBoundsException" ["java/lang/RuntimeException", "java/lang/Exception"]) (B := .castable "java/lang/IndexOutOfBoundsException" "java/lang/IndexOutOfBoundsException" :: dcl3) (fun w h => hts w (List.mem_cons_of_mem _ (List.mem_append_right _ h))) (by decide +kernel) (vx_c (va_Nw.use rfl hcast.1) (dc_all hcast.2))) (by decide +kernel) hU hN hS (by rw [hml]; exact hl.1) dX0_waiting_21 dX0_waiting_24 dX0_waiting_25 dX0_waiting_27 dX0_waiting_30 (fun x h => (hex x h).elim) (Nat.le_of_ble_eq_true rfl) (Nat.le_of_ble_eq_true rfl) (Nat.le_of_ble_eq_true rfl) (Nat.le_of_ble_eq_true rfl) hlocks (th_x hP hD) (fun z h => by cases h) (Nat.le_of_ble_eq_true rfl) (Nat.le_of_ble_eq_true rfl)
    · refine lv_iload_n hx hb dX0_waiting_12 rfl (lv_at hl 2 rfl) ?_
      refine lv_if_lt (tgt := 21) hx hb dX0_waiting_13 (by decide) (fun c_13 => ?_) (fun c_13 => ?_)
      · exact vx_throwS (sa := sa) hx hb htr (own := RX0) (cls := "java/lang/IndexOutOfBoundsException") (text := "no such change or no such what") (names := ["java/lang/RuntimeException", "java/lang/Exception"]) (ik := 86) (is := 88) (ic := 90) hown (by decide +kernel) (by decide +kernel) (hts (.classLink RX0 86 "java/lang/IndexOutOfBoundsException") (by decide +kernel)) (hts (.initialized "java/lang/IndexOutOfBoundsException") (by decide +kernel)) hstr (vx_hat (L := vx_atS RX0 90 "java/lang/IndexOutOfBoundsException" ["java/lang/RuntimeException", "java/lang/Exception"]) (B := .castable "java/lang/IndexOutOfBoundsException" "java/lang/IndexOutOfBoundsException" :: dcl3) (fun w h => hts w (List.mem_cons_of_mem _ (List.mem_append_right _ h))) (by decide +kernel) (vx_c (va_Nw.use rfl hcast.1) (dc_all hcast.2))) (by decide +kernel) hU hN hS (by rw [hml]; exact hl.1) dX0_waiting_21 dX0_waiting_24 dX0_waiting_25 dX0_waiting_27 dX0_waiting_30 (fun x h => (hex x h).elim) (Nat.le_of_ble_eq_true rfl) (Nat.le_of_ble_eq_true rfl) (Nat.le_of_ble_eq_true rfl) (Nat.le_of_ble_eq_true rfl) hlocks (th_x hP hD) (fun z h => by cases h) (Nat.le_of_ble_eq_true rfl) (Nat.le_of_ble_eq_true rfl)
      · refine lv_iload_n hx hb dX0_waiting_16 rfl (lv_at hl 2 rfl) ?_
        refine lv_iconst (v := 4) hx hb dX0_waiting_17 (by decide) ?_
        refine lv_icmp_le (tgt := 31) hx hb dX0_waiting_18 (by decide) (fun c_18 => ?_) (fun c_18 => ?_)
        · exact absurd hbad (by simp [bad, c_1, c_9, c_13, Int32.not_lt.mpr c_18])
        · exact vx_throwS (sa := sa) hx hb htr (own := RX0) (cls := "java/lang/IndexOutOfBoundsException") (text := "no such change or no such what") (names := ["java/lang/RuntimeException", "java/lang/Exception"]) (ik := 86) (is := 88) (ic := 90) hown (by decide +kernel) (by decide +kernel) (hts (.classLink RX0 86 "java/lang/IndexOutOfBoundsException") (by decide +kernel)) (hts (.initialized "java/lang/IndexOutOfBoundsException") (by decide +kernel)) hstr (vx_hat (L := vx_atS RX0 90 "java/lang/IndexOutOfBoundsException" ["java/lang/RuntimeException", "java/lang/Exception"]) (B := .castable "java/lang/IndexOutOfBoundsException" "java/lang/IndexOutOfBoundsException" :: dcl3) (fun w h => hts w (List.mem_cons_of_mem _ (List.mem_append_right _ h))) (by decide +kernel) (vx_c (va_Nw.use rfl hcast.1) (dc_all hcast.2))) (by decide +kernel) hU hN hS (by rw [hml]; exact hl.1) dX0_waiting_21 dX0_waiting_24 dX0_waiting_25 dX0_waiting_27 dX0_waiting_30 (fun x h => (hex x h).elim) (Nat.le_of_ble_eq_true rfl) (Nat.le_of_ble_eq_true rfl) (Nat.le_of_ble_eq_true rfl) (Nat.le_of_ble_eq_true rfl) hlocks (th_x hP hD) (fun z h => by cases h) (Nat.le_of_ble_eq_true rfl) (Nat.le_of_ble_eq_true rfl)

set_option maxHeartbeats 4000000 in
set_option maxRecDepth 100000 in
theorem k_through_ok (l : Launch) (dC : Nat → ClassId) (dI : Nat → Nat → Nat) (ca : Nat → ClassId) (h0 a0 a1 a2 a3 a4 : Nat) (t : TF) (tn : Nat) (w : WF) (wn : Nat) (g : Int64) (ko mw : Nat) (htn : tn ≤ 512) (ht : ∀ j, j < tn → (t j).1 < 2048) (x y : Int32) (hbad : bad tn 2 x y = false) : Met l yX0_through wsX0_through ({ frames := 1, cells := 0, slots := 0, locals := 20 }) (Pr [.ref h0, .int x, .int y] (dC, dI) clS [(ca 0, .int), (ca 1, .int), (ca 2, .int), (ca 3, .long), (ca 4, .int)] [(h0, .inr (0, [.ref a0, .ref a1, .int (nI tn), .ref a2, .ref a3, .ref a4, .int (nI wn), .long g, .int (nI ko), .int (nI mw)])), (a0, .inl (ca 0, 512, .inl (fun z9 => nI (t z9).1))), (a1, .inl (ca 1, 512, .inl (fun z9 => (t z9).2))), (a2, .inl (ca 2, 65, .inl (fun z9 => nI (w z9).1))), (a3, .inl (ca 3, 65, .inr (.inl (fun z9 => (w z9).2.1)))), (a4, .inl (ca 4, 65, .inl (fun z9 => (w z9).2.2)))]) (QcRead (trM t tn x y)) 0 0 (fun _ => False) := by
  refine Met.ofW (cc := cX0_through) (maxL := 3) (ret := (some .int)) (by decide) rfl ?_
  intro p e s m args below meth c s₁ B hml hv
  obtain ⟨hargs, hP, hK⟩ := hv
  have hx := B.exec
  have hb := B.bytes
  have hr := B.returns
  have hts := atoms_spec (ws := wsX0_through) B.pre
  have hown : s.vm.findClass RX0 = some m.cls := findClass_of_methodNamed B.named
  have hlocks := B.notSynchronized
  have hP : va_P (dC, dI) clS [(h0, .inr (0, [.ref a0, .ref a1, .int (nI tn), .ref a2, .ref a3, .ref a4, .int (nI wn), .long g, .int (nI ko), .int (nI mw)])), (a0, .inl (ca 0, 512, .inl (fun z9 => nI (t z9).1))), (a1, .inl (ca 1, 512, .inl (fun z9 => (t z9).2))), (a2, .inl (ca 2, 65, .inl (fun z9 => nI (w z9).1))), (a3, .inl (ca 3, 65, .inr (.inl (fun z9 => (w z9).2.1)))), (a4, .inl (ca 4, 65, .inl (fun z9 => (w z9).2.2)))] s.heap := hP
  have hl := lv_entry ([.ref h0, .int x, .int y]) (n := 3) (Nat.le_of_ble_eq_true rfl)
  have hE : entryFrame m args 3 = F0 m 0 ((lg_sl ([.ref h0, .int x, .int y]) ++ List.replicate (3 - (lg_sl ([.ref h0, .int x, .int y])).length) Slot.unset).toArray) [] := by rw [hargs]; exact lg_entry_eq m ([.ref h0, .int x, .int y]) 3
  rw [hE]
  generalize (lg_sl ([.ref h0, .int x, .int y]) ++ List.replicate (3 - (lg_sl ([.ref h0, .int x, .int y])).length) Slot.unset).toArray = ls at hl ⊢
  have hl : lv_has ls 3 [(0, .ref h0), (1, .int x), (2, .int y)] := hl
  refine lv_iload_n hx hb dX0_through_0 rfl (lv_at hl 1 rfl) ?_
  refine lv_if_lt (tgt := 21) hx hb dX0_through_1 (by decide) (fun c_1 => ?_) (fun c_1 => ?_)
  · exact absurd hbad (by simp [bad, c_1])
  · refine lv_iload_n hx hb dX0_through_4 rfl (lv_at hl 1 rfl) ?_
    refine lv_aload_n hx hb dX0_through_5 rfl (lv_at hl 0 rfl) ?_
    refine va_get (D := (dC, dI)) (ci := 0) (v := .int (nI tn)) (C := RX0) (T := TX0) (N := 10) hx hb hts in_X0_through_X0 hown hK hP 0 rfl rfl 2 (by decide) (hts (.fieldLink RX0 26 "CausalGate" "throughCount" "I") (by decide +kernel)) (fun _ h9 => h9) rfl dX0_through_6 ?_
    refine lv_icmp_ge (tgt := 21) hx hb dX0_through_9 (by decide) (fun c_9 => ?_) (fun c_9 => ?_)
    · exact absurd hbad (by simp [bad, c_9])
    · refine lv_iload_n hx hb dX0_through_12 rfl (lv_at hl 2 rfl) ?_
      refine lv_if_lt (tgt := 21) hx hb dX0_through_13 (by decide) (fun c_13 => ?_) (fun c_13 => ?_)
      · exact absurd hbad (by simp [bad, c_13])
      · refine lv_iload_n hx hb dX0_through_16 rfl (lv_at hl 2 rfl) ?_
        refine lv_iconst (v := 2) hx hb dX0_through_17 (by decide) ?_
        refine lv_icmp_le (tgt := 31) hx hb dX0_through_18 (by decide) (fun c_18 => ?_) (fun c_18 => ?_)
        · obtain ⟨j, hj, rfl⟩ := ix_of c_1 c_9 (by omega)
          refine lv_iload_n hx hb dX0_through_31 rfl (lv_at hl 2 rfl) ?_
          by_cases s32_0 : y = 0
          · refine lv_lookup (off := 28) (tgt := 60) hx hb dX0_through_32 (by decide) (by rw [s32_0]; rfl) (by decide) ?_
            refine lv_aload_n hx hb dX0_through_60 rfl (lv_at hl 0 rfl) ?_
            refine va_get (D := (dC, dI)) (ci := 0) (v := .ref a0) (C := RX0) (T := TX0) (N := 10) hx hb hts in_X0_through_X0 hown hK hP 0 rfl rfl 0 (by decide) (hts (.fieldLink RX0 9 "CausalGate" "throughKeys" "[I") (by decide +kernel)) (fun _ h9 => h9) rfl dX0_through_61 ?_
            refine lv_iload_n hx hb dX0_through_64 rfl (lv_at hl 1 rfl) ?_
            refine va_iald hx hb hK hP 1 0 rfl rfl (vp_in_nI (by omega) (by decide)) dX0_through_65 ?_
            refine tp_i (y := nI (t j).1) (by rw [nI_clamp (by omega)]) ?_
            have htj := ht j hj
            refine rd_i (W.runS (As := [.int (nI (t j).1)]) (rest := []) ⟨hx, hb, hml, hown, hts⟩ (k_actorOf l ((t j).1) (by omega)) (va_cwS 1 hts gX0_through_X0_actorOf rfl rfl rfl (by decide +kernel) ⟨Nat.le_of_ble_eq_true rfl, Nat.le_of_ble_eq_true rfl⟩) preEq rfl rfl hl.1 rfl (lv_room (Nat.le_of_ble_eq_true rfl)) dX0_through_66 ⟨Nat.zero_le _, Nat.zero_le _⟩) ?_
            exact ri_ret hx hb hr hlocks (by unfold trM; rw [if_neg (show ¬ bad tn 2 (nI j) y = true by rw [hbad]; decide), nI_clamp (show j < 2 ^ 31 by omega), if_pos s32_0]) dX0_through_69
          by_cases s32_1 : y = 1
          · refine lv_lookup (off := 38) (tgt := 70) hx hb dX0_through_32 (by decide) (by rw [s32_1]; rfl) (by decide) ?_
            refine lv_aload_n hx hb dX0_through_70 rfl (lv_at hl 0 rfl) ?_
            refine va_get (D := (dC, dI)) (ci := 0) (v := .ref a0) (C := RX0) (T := TX0) (N := 10) hx hb hts in_X0_through_X0 hown hK hP 0 rfl rfl 0 (by decide) (hts (.fieldLink RX0 9 "CausalGate" "throughKeys" "[I") (by decide +kernel)) (fun _ h9 => h9) rfl dX0_through_71 ?_
            refine lv_iload_n hx hb dX0_through_74 rfl (lv_at hl 1 rfl) ?_
            refine va_iald hx hb hK hP 1 0 rfl rfl (vp_in_nI (by omega) (by decide)) dX0_through_75 ?_
            refine tp_i (y := nI (t j).1) (by rw [nI_clamp (by omega)]) ?_
            have htj := ht j hj
            refine rd_i (W.runS (As := [.int (nI (t j).1)]) (rest := []) ⟨hx, hb, hml, hown, hts⟩ (k_seqOf l ((t j).1)) (va_cwS 1 hts gX0_through_X0_seqOf rfl rfl rfl (by decide +kernel) ⟨Nat.le_of_ble_eq_true rfl, Nat.le_of_ble_eq_true rfl⟩) preEq rfl rfl hl.1 rfl (lv_room (Nat.le_of_ble_eq_true rfl)) dX0_through_76 ⟨Nat.zero_le _, Nat.zero_le _⟩) ?_
            exact ri_ret hx hb hr hlocks (by unfold trM; rw [if_neg (show ¬ bad tn 2 (nI j) y = true by rw [hbad]; decide), nI_clamp (show j < 2 ^ 31 by omega), if_neg s32_0, if_pos s32_1]) dX0_through_79
          refine lv_lookup (off := 48) (tgt := 80) hx hb dX0_through_32 (by decide) (by simp only [Array.toList]; rw [lv_osw s32_0 (by decide), lv_osw s32_1 (by decide)]; rfl) (by decide) ?_
          refine lv_aload_n hx hb dX0_through_80 rfl (lv_at hl 0 rfl) ?_
          refine va_get (D := (dC, dI)) (ci := 0) (v := .ref a1) (C := RX0) (T := TX0) (N := 10) hx hb hts in_X0_through_X0 hown hK hP 0 rfl rfl 1 (by decide) (hts (.fieldLink RX0 13 "CausalGate" "throughLabels" "[I") (by decide +kernel)) (fun _ h9 => h9) rfl dX0_through_81 ?_
          refine lv_iload_n hx hb dX0_through_84 rfl (lv_at hl 1 rfl) ?_
          refine va_iald hx hb hK hP 2 1 rfl rfl (vp_in_nI (by omega) (by decide)) dX0_through_85 ?_
          refine tp_i (y := (t j).2) (by rw [nI_clamp (by omega)]) ?_
          exact ri_ret hx hb hr hlocks (by unfold trM; rw [if_neg (show ¬ bad tn 2 (nI j) y = true by rw [hbad]; decide), nI_clamp (show j < 2 ^ 31 by omega), if_neg s32_0, if_neg s32_1]) dX0_through_86
        · exact absurd hbad (by simp [bad, Int32.not_le.mp c_18])

set_option maxHeartbeats 4000000 in
set_option maxRecDepth 100000 in
theorem k_waiting_ok (l : Launch) (dC : Nat → ClassId) (dI : Nat → Nat → Nat) (ca : Nat → ClassId) (h0 a0 a1 a2 a3 a4 : Nat) (t : TF) (tn : Nat) (w : WF) (wn : Nat) (g : Int64) (ko mw : Nat) (hwn : wn ≤ 65) (hw : ∀ j, j < wn → (w j).1 < 2048) (hlk : ∀ j, j < wn → ¬ lk g (w j).1 (w j).2.1 = none) (x y : Int32) (hbad : bad wn 4 x y = false) : Met l yX0_waiting wsX0_waiting ({ frames := 3, cells := 0, slots := 0, locals := 68 }) (Pr [.ref h0, .int x, .int y] (dC, dI) clS [(ca 0, .int), (ca 1, .int), (ca 2, .int), (ca 3, .long), (ca 4, .int)] [(h0, .inr (0, [.ref a0, .ref a1, .int (nI tn), .ref a2, .ref a3, .ref a4, .int (nI wn), .long g, .int (nI ko), .int (nI mw)])), (a0, .inl (ca 0, 512, .inl (fun z9 => nI (t z9).1))), (a1, .inl (ca 1, 512, .inl (fun z9 => (t z9).2))), (a2, .inl (ca 2, 65, .inl (fun z9 => nI (w z9).1))), (a3, .inl (ca 3, 65, .inr (.inl (fun z9 => (w z9).2.1)))), (a4, .inl (ca 4, 65, .inl (fun z9 => (w z9).2.2)))]) (QcRead (wtC g w wn x y)) 0 0 (fun _ => False) := by
  refine Met.ofW (cc := cX0_waiting) (maxL := 3) (ret := (some .int)) (by decide) rfl ?_
  intro p e s m args below meth c s₁ B hml hv
  obtain ⟨hargs, hP, hK⟩ := hv
  have hx := B.exec
  have hb := B.bytes
  have hr := B.returns
  have hts := atoms_spec (ws := wsX0_waiting) B.pre
  have hown : s.vm.findClass RX0 = some m.cls := findClass_of_methodNamed B.named
  have hlocks := B.notSynchronized
  have hP : va_P (dC, dI) clS [(h0, .inr (0, [.ref a0, .ref a1, .int (nI tn), .ref a2, .ref a3, .ref a4, .int (nI wn), .long g, .int (nI ko), .int (nI mw)])), (a0, .inl (ca 0, 512, .inl (fun z9 => nI (t z9).1))), (a1, .inl (ca 1, 512, .inl (fun z9 => (t z9).2))), (a2, .inl (ca 2, 65, .inl (fun z9 => nI (w z9).1))), (a3, .inl (ca 3, 65, .inr (.inl (fun z9 => (w z9).2.1)))), (a4, .inl (ca 4, 65, .inl (fun z9 => (w z9).2.2)))] s.heap := hP
  have hl := lv_entry ([.ref h0, .int x, .int y]) (n := 3) (Nat.le_of_ble_eq_true rfl)
  have hE : entryFrame m args 3 = F0 m 0 ((lg_sl ([.ref h0, .int x, .int y]) ++ List.replicate (3 - (lg_sl ([.ref h0, .int x, .int y])).length) Slot.unset).toArray) [] := by rw [hargs]; exact lg_entry_eq m ([.ref h0, .int x, .int y]) 3
  rw [hE]
  generalize (lg_sl ([.ref h0, .int x, .int y]) ++ List.replicate (3 - (lg_sl ([.ref h0, .int x, .int y])).length) Slot.unset).toArray = ls at hl ⊢
  have hl : lv_has ls 3 [(0, .ref h0), (1, .int x), (2, .int y)] := hl
  refine lv_iload_n hx hb dX0_waiting_0 rfl (lv_at hl 1 rfl) ?_
  refine lv_if_lt (tgt := 21) hx hb dX0_waiting_1 (by decide) (fun c_1 => ?_) (fun c_1 => ?_)
  · exact absurd hbad (by simp [bad, c_1])
  · refine lv_iload_n hx hb dX0_waiting_4 rfl (lv_at hl 1 rfl) ?_
    refine lv_aload_n hx hb dX0_waiting_5 rfl (lv_at hl 0 rfl) ?_
    refine va_get (D := (dC, dI)) (ci := 0) (v := .int (nI wn)) (C := RX0) (T := TX0) (N := 10) hx hb hts in_X0_waiting_X0 hown hK hP 0 rfl rfl 6 (by decide) (hts (.fieldLink RX0 30 "CausalGate" "waitCount" "I") (by decide +kernel)) (fun _ h9 => h9) rfl dX0_waiting_6 ?_
    refine lv_icmp_ge (tgt := 21) hx hb dX0_waiting_9 (by decide) (fun c_9 => ?_) (fun c_9 => ?_)
    · exact absurd hbad (by simp [bad, c_9])
    · refine lv_iload_n hx hb dX0_waiting_12 rfl (lv_at hl 2 rfl) ?_
      refine lv_if_lt (tgt := 21) hx hb dX0_waiting_13 (by decide) (fun c_13 => ?_) (fun c_13 => ?_)
      · exact absurd hbad (by simp [bad, c_13])
      · refine lv_iload_n hx hb dX0_waiting_16 rfl (lv_at hl 2 rfl) ?_
        refine lv_iconst (v := 4) hx hb dX0_waiting_17 (by decide) ?_
        refine lv_icmp_le (tgt := 31) hx hb dX0_waiting_18 (by decide) (fun c_18 => ?_) (fun c_18 => ?_)
        · obtain ⟨j, hj, rfl⟩ := ix_of c_1 c_9 (by omega)
          refine lv_iload_n hx hb dX0_waiting_31 rfl (lv_at hl 2 rfl) ?_
          by_cases s32_0 : y = 0
          · refine lv_tableIn (off := 32) (tgt := 64) hx hb dX0_waiting_32 (by rw [s32_0]; decide) (by rw [s32_0]; decide) (by rw [s32_0]; rfl) (by decide) ?_
            refine lv_aload_n hx hb dX0_waiting_64 rfl (lv_at hl 0 rfl) ?_
            refine va_get (D := (dC, dI)) (ci := 0) (v := .ref a2) (C := RX0) (T := TX0) (N := 10) hx hb hts in_X0_waiting_X0 hown hK hP 0 rfl rfl 3 (by decide) (hts (.fieldLink RX0 16 "CausalGate" "waitKeys" "[I") (by decide +kernel)) (fun _ h9 => h9) rfl dX0_waiting_65 ?_
            refine lv_iload_n hx hb dX0_waiting_68 rfl (lv_at hl 1 rfl) ?_
            refine va_iald hx hb hK hP 3 2 rfl rfl (vp_in_nI (by omega) (by decide)) dX0_waiting_69 ?_
            refine tp_i (y := nI (w j).1) (by rw [nI_clamp (by omega)]) ?_
            have hwj := hw j hj
            refine rd_i (W.runS (As := [.int (nI (w j).1)]) (rest := []) ⟨hx, hb, hml, hown, hts⟩ (k_actorOf l ((w j).1) (by omega)) (va_cwS 1 hts gX0_waiting_X0_actorOf rfl rfl rfl (by decide +kernel) ⟨Nat.le_of_ble_eq_true rfl, Nat.le_of_ble_eq_true rfl⟩) preEq rfl rfl hl.1 rfl (lv_room (Nat.le_of_ble_eq_true rfl)) dX0_waiting_70 ⟨Nat.zero_le _, Nat.zero_le _⟩) ?_
            exact ri_ret hx hb hr hlocks (by unfold wtC; rw [if_neg (show ¬ bad wn 4 (nI j) y = true by rw [hbad]; decide), nI_clamp (show j < 2 ^ 31 by omega), if_pos s32_0]) dX0_waiting_73
          by_cases s32_1 : y = 1
          · refine lv_tableIn (off := 42) (tgt := 74) hx hb dX0_waiting_32 (by rw [s32_1]; decide) (by rw [s32_1]; decide) (by rw [s32_1]; rfl) (by decide) ?_
            refine lv_aload_n hx hb dX0_waiting_74 rfl (lv_at hl 0 rfl) ?_
            refine va_get (D := (dC, dI)) (ci := 0) (v := .ref a2) (C := RX0) (T := TX0) (N := 10) hx hb hts in_X0_waiting_X0 hown hK hP 0 rfl rfl 3 (by decide) (hts (.fieldLink RX0 16 "CausalGate" "waitKeys" "[I") (by decide +kernel)) (fun _ h9 => h9) rfl dX0_waiting_75 ?_
            refine lv_iload_n hx hb dX0_waiting_78 rfl (lv_at hl 1 rfl) ?_
            refine va_iald hx hb hK hP 3 2 rfl rfl (vp_in_nI (by omega) (by decide)) dX0_waiting_79 ?_
            refine tp_i (y := nI (w j).1) (by rw [nI_clamp (by omega)]) ?_
            have hwj := hw j hj
            refine rd_i (W.runS (As := [.int (nI (w j).1)]) (rest := []) ⟨hx, hb, hml, hown, hts⟩ (k_seqOf l ((w j).1)) (va_cwS 1 hts gX0_waiting_X0_seqOf rfl rfl rfl (by decide +kernel) ⟨Nat.le_of_ble_eq_true rfl, Nat.le_of_ble_eq_true rfl⟩) preEq rfl rfl hl.1 rfl (lv_room (Nat.le_of_ble_eq_true rfl)) dX0_waiting_80 ⟨Nat.zero_le _, Nat.zero_le _⟩) ?_
            exact ri_ret hx hb hr hlocks (by unfold wtC; rw [if_neg (show ¬ bad wn 4 (nI j) y = true by rw [hbad]; decide), nI_clamp (show j < 2 ^ 31 by omega), if_neg s32_0, if_pos s32_1]) dX0_waiting_83
          by_cases s32_2 : y = 2
          · refine lv_tableIn (off := 52) (tgt := 84) hx hb dX0_waiting_32 (by rw [s32_2]; decide) (by rw [s32_2]; decide) (by rw [s32_2]; rfl) (by decide) ?_
            refine lv_aload_n hx hb dX0_waiting_84 rfl (lv_at hl 0 rfl) ?_
            refine va_get (D := (dC, dI)) (ci := 0) (v := .ref a4) (C := RX0) (T := TX0) (N := 10) hx hb hts in_X0_waiting_X0 hown hK hP 0 rfl rfl 5 (by decide) (hts (.fieldLink RX0 23 "CausalGate" "waitLabels" "[I") (by decide +kernel)) (fun _ h9 => h9) rfl dX0_waiting_85 ?_
            refine lv_iload_n hx hb dX0_waiting_88 rfl (lv_at hl 1 rfl) ?_
            refine va_iald hx hb hK hP 5 4 rfl rfl (vp_in_nI (by omega) (by decide)) dX0_waiting_89 ?_
            refine tp_i (y := (w j).2.2) (by rw [nI_clamp (by omega)]) ?_
            exact ri_ret hx hb hr hlocks (by unfold wtC; rw [if_neg (show ¬ bad wn 4 (nI j) y = true by rw [hbad]; decide), nI_clamp (show j < 2 ^ 31 by omega), if_neg s32_0, if_neg s32_1, if_pos s32_2]) dX0_waiting_90
          by_cases s32_3 : y = 3
          · refine lv_tableIn (off := 59) (tgt := 91) hx hb dX0_waiting_32 (by rw [s32_3]; decide) (by rw [s32_3]; decide) (by rw [s32_3]; rfl) (by decide) ?_
            refine lv_aload_n hx hb dX0_waiting_91 rfl (lv_at hl 0 rfl) ?_
            refine lv_aload_n hx hb dX0_waiting_92 rfl (lv_at hl 0 rfl) ?_
            refine va_get (D := (dC, dI)) (ci := 0) (v := .ref a2) (C := RX0) (T := TX0) (N := 10) hx hb hts in_X0_waiting_X0 hown hK hP 0 rfl rfl 3 (by decide) (hts (.fieldLink RX0 16 "CausalGate" "waitKeys" "[I") (by decide +kernel)) (fun _ h9 => h9) rfl dX0_waiting_93 ?_
            refine lv_iload_n hx hb dX0_waiting_96 rfl (lv_at hl 1 rfl) ?_
            refine va_iald hx hb hK hP 3 2 rfl rfl (vp_in_nI (by omega) (by decide)) dX0_waiting_97 ?_
            refine tp_i (y := nI (w j).1) (by rw [nI_clamp (by omega)]) ?_
            have hwj := hw j hj
            refine lv_aload_n hx hb dX0_waiting_98 rfl (lv_at hl 0 rfl) ?_
            refine va_get (D := (dC, dI)) (ci := 0) (v := .ref a3) (C := RX0) (T := TX0) (N := 10) hx hb hts in_X0_waiting_X0 hown hK hP 0 rfl rfl 4 (by decide) (hts (.fieldLink RX0 19 "CausalGate" "waitClocks" "[J") (by decide +kernel)) (fun _ h9 => h9) rfl dX0_waiting_99 ?_
            refine lv_iload_n hx hb dX0_waiting_102 rfl (lv_at hl 1 rfl) ?_
            refine va_lald hx hb hK hP 4 3 rfl rfl (vp_in_nI (by omega) (by decide)) dX0_waiting_103 ?_
            refine tp_l (y := (w j).2.1) (by rw [nI_clamp (by omega)]) ?_
            refine rd_i (W.runV (As := [.int (nI (w j).1), .long ((w j).2.1)]) (rest := []) ⟨hx, hb, hml, hown, hts⟩ (k_lackedActor l dC dI ca h0 a0 a1 a2 a3 a4 t tn w wn g ko mw ((w j).1) ((w j).2.1) (by omega)) (cwV 2 hts gX0_waiting_X0_lackedActor rfl rfl rfl (by decide +kernel) ⟨Nat.le_of_ble_eq_true rfl, Nat.le_of_ble_eq_true rfl⟩) (pr_V (ci := 0) (q0 := 0) hK hP rfl rfl) rfl rfl hl.1 rfl (lv_room (Nat.le_of_ble_eq_true rfl)) dX0_waiting_104 ⟨Nat.zero_le _, Nat.zero_le _⟩) ?_
            exact ri_ret hx hb hr hlocks (by unfold wtC; rw [if_neg (show ¬ bad wn 4 (nI j) y = true by rw [hbad]; decide), nI_clamp (show j < 2 ^ 31 by omega), if_neg s32_0, if_neg s32_1, if_neg s32_2, if_pos s32_3]) dX0_waiting_107
          refine lv_tableOut (tgt := 108) hx hb dX0_waiting_32 (by have := lv_neT s32_0 (a := 0) (by decide); have := lv_neT s32_1 (a := 1) (by decide); have := lv_neT s32_2 (a := 2) (by decide); have := lv_neT s32_3 (a := 3) (by decide); omega) (by decide) ?_
          refine lv_aload_n hx hb dX0_waiting_108 rfl (lv_at hl 0 rfl) ?_
          refine lv_aload_n hx hb dX0_waiting_109 rfl (lv_at hl 0 rfl) ?_
          refine lv_aload_n hx hb dX0_waiting_110 rfl (lv_at hl 0 rfl) ?_
          refine va_get (D := (dC, dI)) (ci := 0) (v := .ref a2) (C := RX0) (T := TX0) (N := 10) hx hb hts in_X0_waiting_X0 hown hK hP 0 rfl rfl 3 (by decide) (hts (.fieldLink RX0 16 "CausalGate" "waitKeys" "[I") (by decide +kernel)) (fun _ h9 => h9) rfl dX0_waiting_111 ?_
          refine lv_iload_n hx hb dX0_waiting_114 rfl (lv_at hl 1 rfl) ?_
          refine va_iald hx hb hK hP 3 2 rfl rfl (vp_in_nI (by omega) (by decide)) dX0_waiting_115 ?_
          refine tp_i (y := nI (w j).1) (by rw [nI_clamp (by omega)]) ?_
          have hwj := hw j hj
          refine lv_aload_n hx hb dX0_waiting_116 rfl (lv_at hl 0 rfl) ?_
          refine va_get (D := (dC, dI)) (ci := 0) (v := .ref a3) (C := RX0) (T := TX0) (N := 10) hx hb hts in_X0_waiting_X0 hown hK hP 0 rfl rfl 4 (by decide) (hts (.fieldLink RX0 19 "CausalGate" "waitClocks" "[J") (by decide +kernel)) (fun _ h9 => h9) rfl dX0_waiting_117 ?_
          refine lv_iload_n hx hb dX0_waiting_120 rfl (lv_at hl 1 rfl) ?_
          refine va_lald hx hb hK hP 4 3 rfl rfl (vp_in_nI (by omega) (by decide)) dX0_waiting_121 ?_
          refine tp_l (y := (w j).2.1) (by rw [nI_clamp (by omega)]) ?_
          refine rd_i (W.runV (As := [.int (nI (w j).1), .long ((w j).2.1)]) (rest := [.ref h0]) ⟨hx, hb, hml, hown, hts⟩ (k_lackedActor l dC dI ca h0 a0 a1 a2 a3 a4 t tn w wn g ko mw ((w j).1) ((w j).2.1) (by omega)) (cwV 2 hts gX0_waiting_X0_lackedActor rfl rfl rfl (by decide +kernel) ⟨Nat.le_of_ble_eq_true rfl, Nat.le_of_ble_eq_true rfl⟩) (pr_V (ci := 0) (q0 := 0) hK hP rfl rfl) rfl rfl hl.1 rfl (lv_room (Nat.le_of_ble_eq_true rfl)) dX0_waiting_122 ⟨Nat.zero_le _, Nat.zero_le _⟩) ?_
          obtain ⟨b9, hb9⟩ : ∃ b9, lk g (w j).1 (w j).2.1 = some b9 := by cases hb9 : lk g (w j).1 (w j).2.1 with
            | none => exact absurd hb9 (hlk j hj)
            | some b9 => exact ⟨b9, rfl⟩
          have hb8 := lk_lt hwj hb9
          refine tp_i (y := nI b9) (by rw [hb9]; rfl) ?_
          refine rd_i (W.runV (As := [.int (nI b9)]) (rest := []) ⟨hx, hb, hml, hown, hts⟩ (k_nextSeq l dC dI ca h0 a0 a1 a2 a3 a4 t tn w wn g ko mw b9 (by omega)) (cwV 1 hts gX0_waiting_X0_nextSeq rfl rfl rfl (by decide +kernel) ⟨Nat.le_of_ble_eq_true rfl, Nat.le_of_ble_eq_true rfl⟩) (pr_V (ci := 0) (q0 := 0) hK hP rfl rfl) rfl rfl hl.1 rfl (lv_room (Nat.le_of_ble_eq_true rfl)) dX0_waiting_125 ⟨Nat.zero_le _, Nat.zero_le _⟩) ?_
          exact ri_ret hx hb hr hlocks (by unfold wtC; rw [if_neg (show ¬ bad wn 4 (nI j) y = true by rw [hbad]; decide), nI_clamp (show j < 2 ^ 31 by omega), if_neg s32_0, if_neg s32_1, if_neg s32_2, if_neg s32_3, hb9]; rfl) dX0_waiting_128
        · exact absurd hbad (by simp [bad, Int32.not_le.mp c_18])
