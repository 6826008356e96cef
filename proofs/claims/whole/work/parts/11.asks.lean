set_option maxRecDepth 20000 in
theorem in_X0_known_X0 : ∀ w ∈ wsX00, w ∈ wsX0_known := by decide +kernel

set_option maxHeartbeats 4000000 in
set_option maxRecDepth 100000 in
theorem k_known (l : Launch) (dC : Nat → ClassId) (dI : Nat → Nat → Nat) (ca : Nat → ClassId) (h0 a0 a1 a2 a3 a4 : Nat) (t : TF) (tn : Nat) (w : WF) (wn : Nat) (g : Int64) (ko mw : Nat) (hwn : wn ≤ 65) (hw : ∀ j, j < wn → (w j).1 < 2048) (x y : Int32) : Met l yX0_known wsX0_known ({ frames := 3, cells := 0, slots := 0, locals := 65 }) (Pr [.ref h0, .int x, .int y] (dC, dI) clS [(ca 0, .int), (ca 1, .int), (ca 2, .int), (ca 3, .long), (ca 4, .int)] [(h0, .inr (0, [.ref a0, .ref a1, .int (nI tn), .ref a2, .ref a3, .ref a4, .int (nI wn), .long g, .int (nI ko), .int (nI mw)])), (a0, .inl (ca 0, 512, .inl (fun z9 => nI (t z9).1))), (a1, .inl (ca 1, 512, .inl (fun z9 => (t z9).2))), (a2, .inl (ca 2, 65, .inl (fun z9 => nI (w z9).1))), (a3, .inl (ca 3, 65, .inr (.inl (fun z9 => (w z9).2.1)))), (a4, .inl (ca 4, 65, .inl (fun z9 => (w z9).2.2)))]) (QcRead (bI (knw g w wn x y))) 0 0 (fun _ => False) := by
  refine Met.ofW (cc := cX0_known) (maxL := 3) (ret := (some .boolean)) (by decide) rfl ?_
  intro p e s m args below meth c s₁ B hml hv
  obtain ⟨hargs, hP, hK⟩ := hv
  have hx := B.exec
  have hb := B.bytes
  have hr := B.returns
  have hts := atoms_spec (ws := wsX0_known) B.pre
  have hown : s.vm.findClass RX0 = some m.cls := findClass_of_methodNamed B.named
  have hlocks := B.notSynchronized
  have hP : va_P (dC, dI) clS [(h0, .inr (0, [.ref a0, .ref a1, .int (nI tn), .ref a2, .ref a3, .ref a4, .int (nI wn), .long g, .int (nI ko), .int (nI mw)])), (a0, .inl (ca 0, 512, .inl (fun z9 => nI (t z9).1))), (a1, .inl (ca 1, 512, .inl (fun z9 => (t z9).2))), (a2, .inl (ca 2, 65, .inl (fun z9 => nI (w z9).1))), (a3, .inl (ca 3, 65, .inr (.inl (fun z9 => (w z9).2.1)))), (a4, .inl (ca 4, 65, .inl (fun z9 => (w z9).2.2)))] s.heap := hP
  have hl := lv_entry ([.ref h0, .int x, .int y]) (n := 3) (Nat.le_of_ble_eq_true rfl)
  have hE : entryFrame m args 3 = F0 m 0 ((lg_sl ([.ref h0, .int x, .int y]) ++ List.replicate (3 - (lg_sl ([.ref h0, .int x, .int y])).length) Slot.unset).toArray) [] := by rw [hargs]; exact lg_entry_eq m ([.ref h0, .int x, .int y]) 3
  rw [hE]
  generalize (lg_sl ([.ref h0, .int x, .int y]) ++ List.replicate (3 - (lg_sl ([.ref h0, .int x, .int y])).length) Slot.unset).toArray = ls at hl ⊢
  have hl : lv_has ls 3 [(0, .ref h0), (1, .int x), (2, .int y)] := hl
  refine lv_iload_n hx hb dX0_known_0 rfl (lv_at hl 1 rfl) ?_
  refine rd_i (W.runS (As := [.int x]) (rest := []) ⟨hx, hb, hml, hown, hts⟩ (k_isActor l x) (va_cwS 1 hts gX0_known_X0_isActor rfl rfl rfl (by decide +kernel) ⟨Nat.le_of_ble_eq_true rfl, Nat.le_of_ble_eq_true rfl⟩) preEq rfl rfl hl.1 rfl (lv_room (Nat.le_of_ble_eq_true rfl)) dX0_known_1 ⟨Nat.zero_le _, Nat.zero_le _⟩) ?_
  refine lv_if_eq (tgt := 30) hx hb dX0_known_4 (by decide) (fun c_4 => ?_) (fun c_4 => ?_)
  · have e9 : knw g w wn x y = false := by simp [knw, bI_0.mp c_4]
    refine lv_iconst (v := 0) hx hb dX0_known_30 (by decide) ?_
    exact rz_ret hx hb hr hlocks (rfl) (by rw [e9]; rfl) dX0_known_31
  · have c9 : isA x = true := by cases hq : isA x; exact absurd (by rw [hq]; rfl) c_4; rfl
    obtain ⟨a, ha, rfl⟩ := isA_nI c9
    refine lv_iload_n hx hb dX0_known_7 rfl (lv_at hl 2 rfl) ?_
    refine rd_i (W.runS (As := [.int y]) (rest := []) ⟨hx, hb, hml, hown, hts⟩ (k_isSeq l y) (va_cwS 1 hts gX0_known_X0_isSeq rfl rfl rfl (by decide +kernel) ⟨Nat.le_of_ble_eq_true rfl, Nat.le_of_ble_eq_true rfl⟩) preEq rfl rfl hl.1 rfl (lv_room (Nat.le_of_ble_eq_true rfl)) dX0_known_8 ⟨Nat.zero_le _, Nat.zero_le _⟩) ?_
    refine lv_if_eq (tgt := 30) hx hb dX0_known_11 (by decide) (fun c_11 => ?_) (fun c_11 => ?_)
    · have e9 : knw g w wn (nI a) y = false := by simp [knw, bI_0.mp c_11]
      refine lv_iconst (v := 0) hx hb dX0_known_30 (by decide) ?_
      exact rz_ret hx hb hr hlocks (rfl) (by rw [e9]; rfl) dX0_known_31
    · have c8 : isS y = true := by cases hq : isS y; exact absurd (by rw [hq]; rfl) c_11; rfl
      obtain ⟨q, hq1, hq, rfl⟩ := isS_nI c8
      refine lv_aload_n hx hb dX0_known_14 rfl (lv_at hl 0 rfl) ?_
      refine lv_iload_n hx hb dX0_known_15 rfl (lv_at hl 1 rfl) ?_
      refine lv_iload_n hx hb dX0_known_16 rfl (lv_at hl 2 rfl) ?_
      refine rd_i (W.runS (As := [.int (nI a), .int (nI q)]) (rest := [.ref h0]) ⟨hx, hb, hml, hown, hts⟩ (k_keyOf l a q (by omega) (by omega)) (va_cwS 2 hts gX0_known_X0_keyOf rfl rfl rfl (by decide +kernel) ⟨Nat.le_of_ble_eq_true rfl, Nat.le_of_ble_eq_true rfl⟩) preEq rfl rfl hl.1 rfl (lv_room (Nat.le_of_ble_eq_true rfl)) dX0_known_17 ⟨Nat.zero_le _, Nat.zero_le _⟩) ?_
      refine rd_i (W.runV (As := [.int (nI (a * 256 + q))]) (rest := []) ⟨hx, hb, hml, hown, hts⟩ (k_isKnown l dC dI ca h0 a0 a1 a2 a3 a4 t tn w wn g ko mw hwn hw (a * 256 + q) (by omega)) (cwV 1 hts gX0_known_X0_isKnown rfl rfl rfl (by decide +kernel) ⟨Nat.le_of_ble_eq_true rfl, Nat.le_of_ble_eq_true rfl⟩) (pr_V (ci := 0) (q0 := 0) hK hP rfl rfl) rfl rfl hl.1 rfl (lv_room (Nat.le_of_ble_eq_true rfl)) dX0_known_20 ⟨Nat.zero_le _, Nat.zero_le _⟩) ?_
      refine lv_if_eq (tgt := 30) hx hb dX0_known_23 (by decide) (fun c_23 => ?_) (fun c_23 => ?_)
      · have e9 : knw g w wn (nI a) (nI q) = false := by simp [knw, c9, c8, nI_clamp (show a < 2 ^ 31 by omega), nI_clamp (show q < 2 ^ 31 by omega), bI_0.mp c_23]
        refine lv_iconst (v := 0) hx hb dX0_known_30 (by decide) ?_
        exact rz_ret hx hb hr hlocks (rfl) (by rw [e9]; rfl) dX0_known_31
      · have e9 : knw g w wn (nI a) (nI q) = true := by simp only [knw, c9, c8, nI_clamp (show a < 2 ^ 31 by omega), nI_clamp (show q < 2 ^ 31 by omega)]; cases hq9 : kn g w wn (a * 256 + q); exact absurd (by rw [hq9]; rfl) c_23; rfl
        refine lv_iconst (v := 1) hx hb dX0_known_26 (by decide) ?_
        refine lv_goto (tgt := 31) hx hb dX0_known_27 (by decide) ?_
        exact rz_ret hx hb hr hlocks (rfl) (by rw [e9]; rfl) dX0_known_31

set_option maxRecDepth 20000 in
theorem in_X0_clock_X0 : ∀ w ∈ wsX00, w ∈ wsX0_clock := by decide +kernel

set_option maxHeartbeats 4000000 in
set_option maxRecDepth 100000 in
theorem k_clock (l : Launch) (dC : Nat → ClassId) (dI : Nat → Nat → Nat) (ca : Nat → ClassId) (h0 a0 a1 a2 a3 a4 : Nat) (t : TF) (tn : Nat) (w : WF) (wn : Nat) (g : Int64) (ko mw : Nat)  : Met l yX0_clock wsX0_clock ({ frames := 0, cells := 0, slots := 0, locals := 0 }) (Pr [.ref h0] (dC, dI) clS [(ca 0, .int), (ca 1, .int), (ca 2, .int), (ca 3, .long), (ca 4, .int)] [(h0, .inr (0, [.ref a0, .ref a1, .int (nI tn), .ref a2, .ref a3, .ref a4, .int (nI wn), .long g, .int (nI ko), .int (nI mw)])), (a0, .inl (ca 0, 512, .inl (fun z9 => nI (t z9).1))), (a1, .inl (ca 1, 512, .inl (fun z9 => (t z9).2))), (a2, .inl (ca 2, 65, .inl (fun z9 => nI (w z9).1))), (a3, .inl (ca 3, 65, .inr (.inl (fun z9 => (w z9).2.1)))), (a4, .inl (ca 4, 65, .inl (fun z9 => (w z9).2.2)))]) (QcReadL g) 0 0 (fun _ => False) := by
  refine Met.ofW (cc := cX0_clock) (maxL := 1) (ret := (some .long)) (by decide) rfl ?_
  intro p e s m args below meth c s₁ B hml hv
  obtain ⟨hargs, hP, hK⟩ := hv
  have hx := B.exec
  have hb := B.bytes
  have hr := B.returns
  have hts := atoms_spec (ws := wsX0_clock) B.pre
  have hown : s.vm.findClass RX0 = some m.cls := findClass_of_methodNamed B.named
  have hlocks := B.notSynchronized
  have hP : va_P (dC, dI) clS [(h0, .inr (0, [.ref a0, .ref a1, .int (nI tn), .ref a2, .ref a3, .ref a4, .int (nI wn), .long g, .int (nI ko), .int (nI mw)])), (a0, .inl (ca 0, 512, .inl (fun z9 => nI (t z9).1))), (a1, .inl (ca 1, 512, .inl (fun z9 => (t z9).2))), (a2, .inl (ca 2, 65, .inl (fun z9 => nI (w z9).1))), (a3, .inl (ca 3, 65, .inr (.inl (fun z9 => (w z9).2.1)))), (a4, .inl (ca 4, 65, .inl (fun z9 => (w z9).2.2)))] s.heap := hP
  have hl := lv_entry ([.ref h0]) (n := 1) (Nat.le_of_ble_eq_true rfl)
  have hE : entryFrame m args 1 = F0 m 0 ((lg_sl ([.ref h0]) ++ List.replicate (1 - (lg_sl ([.ref h0])).length) Slot.unset).toArray) [] := by rw [hargs]; exact lg_entry_eq m ([.ref h0]) 1
  rw [hE]
  generalize (lg_sl ([.ref h0]) ++ List.replicate (1 - (lg_sl ([.ref h0])).length) Slot.unset).toArray = ls at hl ⊢
  have hl : lv_has ls 1 [(0, .ref h0)] := hl
  refine lv_aload_n hx hb dX0_clock_0 rfl (lv_at hl 0 rfl) ?_
  refine va_get (D := (dC, dI)) (ci := 0) (v := .long g) (C := RX0) (T := TX0) (N := 10) hx hb hts in_X0_clock_X0 hown hK hP 0 rfl rfl 7 (by decide) (hts (.fieldLink RX0 33 "CausalGate" "gateClock" "J") (by decide +kernel)) (fun _ h9 => h9) rfl dX0_clock_1 ?_
  exact rl_ret hx hb hr hlocks (rfl) dX0_clock_4

set_option maxRecDepth 20000 in
theorem in_X0_look_X0 : ∀ w ∈ wsX00, w ∈ wsX0_look := by decide +kernel

set_option maxHeartbeats 4000000 in
set_option maxRecDepth 100000 in
theorem k_look (l : Launch) (dC : Nat → ClassId) (dI : Nat → Nat → Nat) (ca : Nat → ClassId) (h0 a0 a1 a2 a3 a4 : Nat) (t : TF) (tn : Nat) (w : WF) (wn : Nat) (g : Int64) (ko mw : Nat) (x : Int32) : Met l yX0_look wsX0_look ({ frames := 0, cells := 0, slots := 0, locals := 0 }) (Pr [.ref h0, .int x] (dC, dI) clS [(ca 0, .int), (ca 1, .int), (ca 2, .int), (ca 3, .long), (ca 4, .int)] [(h0, .inr (0, [.ref a0, .ref a1, .int (nI tn), .ref a2, .ref a3, .ref a4, .int (nI wn), .long g, .int (nI ko), .int (nI mw)])), (a0, .inl (ca 0, 512, .inl (fun z9 => nI (t z9).1))), (a1, .inl (ca 1, 512, .inl (fun z9 => (t z9).2))), (a2, .inl (ca 2, 65, .inl (fun z9 => nI (w z9).1))), (a3, .inl (ca 3, 65, .inr (.inl (fun z9 => (w z9).2.1)))), (a4, .inl (ca 4, 65, .inl (fun z9 => (w z9).2.2)))]) (QcRead (lok tn wn ko mw x)) 0 0 (fun _ => False) := by
  refine Met.ofW (cc := cX0_look) (maxL := 2) (ret := (some .int)) (by decide) rfl ?_
  intro p e s m args below meth c s₁ B hml hv
  obtain ⟨hargs, hP, hK⟩ := hv
  have hx := B.exec
  have hb := B.bytes
  have hr := B.returns
  have hts := atoms_spec (ws := wsX0_look) B.pre
  have hown : s.vm.findClass RX0 = some m.cls := findClass_of_methodNamed B.named
  have hlocks := B.notSynchronized
  have hP : va_P (dC, dI) clS [(h0, .inr (0, [.ref a0, .ref a1, .int (nI tn), .ref a2, .ref a3, .ref a4, .int (nI wn), .long g, .int (nI ko), .int (nI mw)])), (a0, .inl (ca 0, 512, .inl (fun z9 => nI (t z9).1))), (a1, .inl (ca 1, 512, .inl (fun z9 => (t z9).2))), (a2, .inl (ca 2, 65, .inl (fun z9 => nI (w z9).1))), (a3, .inl (ca 3, 65, .inr (.inl (fun z9 => (w z9).2.1)))), (a4, .inl (ca 4, 65, .inl (fun z9 => (w z9).2.2)))] s.heap := hP
  have hl := lv_entry ([.ref h0, .int x]) (n := 2) (Nat.le_of_ble_eq_true rfl)
  have hE : entryFrame m args 2 = F0 m 0 ((lg_sl ([.ref h0, .int x]) ++ List.replicate (2 - (lg_sl ([.ref h0, .int x])).length) Slot.unset).toArray) [] := by rw [hargs]; exact lg_entry_eq m ([.ref h0, .int x]) 2
  rw [hE]
  generalize (lg_sl ([.ref h0, .int x]) ++ List.replicate (2 - (lg_sl ([.ref h0, .int x])).length) Slot.unset).toArray = ls at hl ⊢
  have hl : lv_has ls 2 [(0, .ref h0), (1, .int x)] := hl
  refine lv_iload_n hx hb dX0_look_0 rfl (lv_at hl 1 rfl) ?_
  by_cases s1_0 : x = 0
  · refine lv_tableIn (off := 31) (tgt := 32) hx hb dX0_look_1 (by rw [s1_0]; decide) (by rw [s1_0]; decide) (by rw [s1_0]; rfl) (by decide) ?_
    refine lv_aload_n hx hb dX0_look_32 rfl (lv_at hl 0 rfl) ?_
    refine va_get (D := (dC, dI)) (ci := 0) (v := .int (nI tn)) (C := RX0) (T := TX0) (N := 10) hx hb hts in_X0_look_X0 hown hK hP 0 rfl rfl 2 (by decide) (hts (.fieldLink RX0 26 "CausalGate" "throughCount" "I") (by decide +kernel)) (fun _ h9 => h9) rfl dX0_look_33 ?_
    exact ri_ret hx hb hr hlocks (by simp [lok, *]) dX0_look_36
  by_cases s1_1 : x = 1
  · refine lv_tableIn (off := 36) (tgt := 37) hx hb dX0_look_1 (by rw [s1_1]; decide) (by rw [s1_1]; decide) (by rw [s1_1]; rfl) (by decide) ?_
    refine lv_aload_n hx hb dX0_look_37 rfl (lv_at hl 0 rfl) ?_
    refine va_get (D := (dC, dI)) (ci := 0) (v := .int (nI wn)) (C := RX0) (T := TX0) (N := 10) hx hb hts in_X0_look_X0 hown hK hP 0 rfl rfl 6 (by decide) (hts (.fieldLink RX0 30 "CausalGate" "waitCount" "I") (by decide +kernel)) (fun _ h9 => h9) rfl dX0_look_38 ?_
    exact ri_ret hx hb hr hlocks (by simp [lok, *]) dX0_look_41
  by_cases s1_2 : x = 2
  · refine lv_tableIn (off := 41) (tgt := 42) hx hb dX0_look_1 (by rw [s1_2]; decide) (by rw [s1_2]; decide) (by rw [s1_2]; rfl) (by decide) ?_
    refine lv_aload_n hx hb dX0_look_42 rfl (lv_at hl 0 rfl) ?_
    refine va_get (D := (dC, dI)) (ci := 0) (v := .int (nI ko)) (C := RX0) (T := TX0) (N := 10) hx hb hts in_X0_look_X0 hown hK hP 0 rfl rfl 8 (by decide) (hts (.fieldLink RX0 37 "CausalGate" "knownOffers" "I") (by decide +kernel)) (fun _ h9 => h9) rfl dX0_look_43 ?_
    exact ri_ret hx hb hr hlocks (by simp [lok, *]) dX0_look_46
  by_cases s1_3 : x = 3
  · refine lv_tableIn (off := 46) (tgt := 47) hx hb dX0_look_1 (by rw [s1_3]; decide) (by rw [s1_3]; decide) (by rw [s1_3]; rfl) (by decide) ?_
    refine lv_aload_n hx hb dX0_look_47 rfl (lv_at hl 0 rfl) ?_
    refine va_get (D := (dC, dI)) (ci := 0) (v := .int (nI mw)) (C := RX0) (T := TX0) (N := 10) hx hb hts in_X0_look_X0 hown hK hP 0 rfl rfl 9 (by decide) (hts (.fieldLink RX0 40 "CausalGate" "mostWaited" "I") (by decide +kernel)) (fun _ h9 => h9) rfl dX0_look_48 ?_
    exact ri_ret hx hb hr hlocks (by simp [lok, *]) dX0_look_51
  refine lv_tableOut (tgt := 52) hx hb dX0_look_1 (by have := lv_neT s1_0 (a := 0) (by decide); have := lv_neT s1_1 (a := 1) (by decide); have := lv_neT s1_2 (a := 2) (by decide); have := lv_neT s1_3 (a := 3) (by decide); omega) (by decide) ?_
  refine lv_iconst (v := -1) hx hb dX0_look_52 (by decide) ?_
  exact ri_ret hx hb hr hlocks (by simp [lok, *]) dX0_look_53

set_option maxRecDepth 20000 in
theorem in_X0_ahead_X0 : ∀ w ∈ wsX00, w ∈ wsX0_ahead := by decide +kernel

set_option maxHeartbeats 4000000 in
set_option maxRecDepth 100000 in
theorem k_ahead (l : Launch) (dC : Nat → ClassId) (dI : Nat → Nat → Nat) (ca : Nat → ClassId) (h0 a0 a1 a2 a3 a4 : Nat) (t : TF) (tn : Nat) (w : WF) (wn : Nat) (g : Int64) (ko mw : Nat) (ck : Int64) : Met l yX0_ahead wsX0_ahead ({ frames := 1, cells := 0, slots := 0, locals := 22 }) (Pr [.ref h0, .long ck] (dC, dI) clS [(ca 0, .int), (ca 1, .int), (ca 2, .int), (ca 3, .long), (ca 4, .int)] [(h0, .inr (0, [.ref a0, .ref a1, .int (nI tn), .ref a2, .ref a3, .ref a4, .int (nI wn), .long g, .int (nI ko), .int (nI mw)])), (a0, .inl (ca 0, 512, .inl (fun z9 => nI (t z9).1))), (a1, .inl (ca 1, 512, .inl (fun z9 => (t z9).2))), (a2, .inl (ca 2, 65, .inl (fun z9 => nI (w z9).1))), (a3, .inl (ca 3, 65, .inr (.inl (fun z9 => (w z9).2.1)))), (a4, .inl (ca 4, 65, .inl (fun z9 => (w z9).2.2)))]) (QcRead (nI (ahS g ck 8 0 0))) 0 0 (fun _ => False) := by
  refine Met.ofW (cc := cX0_ahead) (maxL := 5) (ret := (some .int)) (by decide) rfl ?_
  intro p e s m args below meth c s₁ B hml hv
  obtain ⟨hargs, hP, hK⟩ := hv
  have hx := B.exec
  have hb := B.bytes
  have hr := B.returns
  have hts := atoms_spec (ws := wsX0_ahead) B.pre
  have hown : s.vm.findClass RX0 = some m.cls := findClass_of_methodNamed B.named
  have hlocks := B.notSynchronized
  have hP : va_P (dC, dI) clS [(h0, .inr (0, [.ref a0, .ref a1, .int (nI tn), .ref a2, .ref a3, .ref a4, .int (nI wn), .long g, .int (nI ko), .int (nI mw)])), (a0, .inl (ca 0, 512, .inl (fun z9 => nI (t z9).1))), (a1, .inl (ca 1, 512, .inl (fun z9 => (t z9).2))), (a2, .inl (ca 2, 65, .inl (fun z9 => nI (w z9).1))), (a3, .inl (ca 3, 65, .inr (.inl (fun z9 => (w z9).2.1)))), (a4, .inl (ca 4, 65, .inl (fun z9 => (w z9).2.2)))] s.heap := hP
  have hl := lv_entry ([.ref h0, .long ck]) (n := 5) (Nat.le_of_ble_eq_true rfl)
  have hE : entryFrame m args 5 = F0 m 0 ((lg_sl ([.ref h0, .long ck]) ++ List.replicate (5 - (lg_sl ([.ref h0, .long ck])).length) Slot.unset).toArray) [] := by rw [hargs]; exact lg_entry_eq m ([.ref h0, .long ck]) 5
  rw [hE]
  generalize (lg_sl ([.ref h0, .long ck]) ++ List.replicate (5 - (lg_sl ([.ref h0, .long ck])).length) Slot.unset).toArray = ls at hl ⊢
  have hl : lv_has ls 5 [(0, .ref h0), (1, .long ck)] := hl
  refine lv_iconst (v := 0) hx hb dX0_ahead_0 (by decide) ?_
  refine tp_i (y := nI 0) (nI_0.symm) ?_
  refine lv_istore_n (lv' := [(3, .int (nI 0)), (0, .ref h0), (1, .long ck)]) hx hb dX0_ahead_1 rfl hl (by decide) rfl (fun ls hl => ?_)
  refine lv_iconst (v := 0) hx hb dX0_ahead_2 (by decide) ?_
  refine tp_i (y := nI 0) (nI_0.symm) ?_
  refine lv_istore (lv' := [(4, .int (nI 0)), (3, .int (nI 0)), (0, .ref h0), (1, .long ck)]) hx hb dX0_ahead_3 hl (by decide) rfl (fun ls hl => ?_)
  have loop : ∀ (n : Nat) (a x : Nat), a + n = 8 → ahS g ck n a x = ahS g ck 8 0 0 → ∀ ls : Array Slot, lv_has ls 5 [(0, .ref h0), (1, .long ck), (3, .int (nI x)), (4, .int (nI a))] → W p l e (headSpec wsX0_ahead ({ frames := 1, cells := 0, slots := 0, locals := 22 })).room s m args below meth c s.heap [] 0 0 (MQ below (QcRead (nI (ahS g ck 8 0 0))) args s 0 0 (fun _ => False)) (F0 m 5 ls []) := by
    intro n
    induction n with
    | zero =>
      intro a x ha hk9 ls hl
      refine lv_iload hx hb dX0_ahead_5 (lv_at hl 3 rfl) ?_
      refine lv_bipush (v := 8) hx hb dX0_ahead_7 (by decide) ?_
      refine tp_i (y := nI 8) (rfl) ?_
      refine lv_icmp_ge (tgt := 41) hx hb dX0_ahead_9 (by decide) (fun c_9 => ?_) (fun c_9 => ?_)
      · refine lv_iload_n hx hb dX0_ahead_41 rfl (lv_at hl 2 rfl) ?_
        exact ri_ret hx hb hr hlocks (by rw [← hk9]; rfl) dX0_ahead_42
      · exact absurd (nI_le (by omega) (by omega)) c_9
    | succ n ih =>
      intro a x ha hk9 ls hl
      refine lv_iload hx hb dX0_ahead_5 (lv_at hl 3 rfl) ?_
      refine lv_bipush (v := 8) hx hb dX0_ahead_7 (by decide) ?_
      refine tp_i (y := nI 8) (rfl) ?_
      refine lv_icmp_ge (tgt := 41) hx hb dX0_ahead_9 (by decide) (fun c_9 => ?_) (fun c_9 => ?_)
      · exact absurd ((nI_leI (by omega) (by omega)).mp c_9) (by omega)
      · refine lv_iload_n hx hb dX0_ahead_12 rfl (lv_at hl 2 rfl) ?_
        refine lv_iconst (v := 0) hx hb dX0_ahead_13 (by decide) ?_
        refine lv_aload_n hx hb dX0_ahead_14 rfl (lv_at hl 0 rfl) ?_
        refine va_get (D := (dC, dI)) (ci := 0) (v := .long g) (C := RX0) (T := TX0) (N := 10) hx hb hts in_X0_ahead_X0 hown hK hP 0 rfl rfl 7 (by decide) (hts (.fieldLink RX0 33 "CausalGate" "gateClock" "J") (by decide +kernel)) (fun _ h9 => h9) rfl dX0_ahead_15 ?_
        refine lv_iload hx hb dX0_ahead_18 (lv_at hl 3 rfl) ?_
        refine rd_i (W.runS (As := [.long g, .int (nI a)]) (rest := [.int 0, .int (nI x)]) ⟨hx, hb, hml, hown, hts⟩ (k_byteOf l g a (by omega)) (va_cwS 2 hts gX0_ahead_X0_byteOf rfl rfl rfl (by decide +kernel) ⟨Nat.le_of_ble_eq_true rfl, Nat.le_of_ble_eq_true rfl⟩) preEq rfl rfl hl.1 rfl (lv_room (Nat.le_of_ble_eq_true rfl)) dX0_ahead_20 ⟨Nat.zero_le _, Nat.zero_le _⟩) ?_
        refine lv_lload_n hx hb dX0_ahead_23 rfl (lv_at hl 1 rfl) ?_
        refine lv_iload hx hb dX0_ahead_24 (lv_at hl 3 rfl) ?_
        refine rd_i (W.runS (As := [.long ck, .int (nI a)]) (rest := [.int (nI (by_ g a)), .int 0, .int (nI x)]) ⟨hx, hb, hml, hown, hts⟩ (k_byteOf l ck a (by omega)) (va_cwS 2 hts gX0_ahead_X0_byteOf rfl rfl rfl (by decide +kernel) ⟨Nat.le_of_ble_eq_true rfl, Nat.le_of_ble_eq_true rfl⟩) preEq rfl rfl hl.1 rfl (lv_room (Nat.le_of_ble_eq_true rfl)) dX0_ahead_26 ⟨Nat.zero_le _, Nat.zero_le _⟩) ?_
        refine lv_isub hx hb dX0_ahead_29 ?_
        refine va_mmax hx hb (by rw [hml]; exact hl.1.symm) hown (hts (.methodLink RX0 81 Lib.Math.max.name) (by decide +kernel)) (hts (.static Lib.Math.max.name) (by decide +kernel)) (hts (.initialized "java/lang/Math") (by decide +kernel)) (hts (.code Lib.Math.max.name Lib.Math.max.code 2 (some .int)) (by decide +kernel)) (Nat.le_of_ble_eq_true rfl) (Nat.le_of_ble_eq_true rfl) (Nat.zero_le _) (Nat.zero_le _) dX0_ahead_30 ?_
        refine tp_i (y := nI (by_ g a - by_ ck a)) (mx_sub (by have := by_lt g a; omega) (by have := by_lt ck a; omega)) ?_
        refine lv_iadd hx hb dX0_ahead_33 ?_
        refine tp_i (y := nI (x + (by_ g a - by_ ck a))) (nI_add _ _) ?_
        refine lv_istore_n (lv' := [(3, .int (nI (x + (by_ g a - by_ ck a)))), (0, .ref h0), (1, .long ck), (4, .int (nI a))]) hx hb dX0_ahead_34 rfl hl (by decide) rfl (fun ls hl => ?_)
        refine lv_iinc (v := (nI (a + 1))) (lv' := [(4, .int (nI (a + 1))), (3, .int (nI (x + (by_ g a - by_ ck a)))), (0, .ref h0), (1, .long ck)]) hx hb dX0_ahead_35 hl (k := 3) rfl (nI_1 a) (by decide) rfl (fun ls hl => ?_)
        refine lv_goto (tgt := 5) hx hb dX0_ahead_38 (by decide) ?_
        exact ih (a + 1) (x + (by_ g a - by_ ck a)) (by omega) (by rw [← hk9]; rfl) ls (lv_sub hl [2, 3, 1, 0] rfl)
  exact loop 8 0 0 (by omega) rfl ls (lv_sub hl [2, 3, 1, 0] rfl)

set_option maxRecDepth 20000 in
theorem in_X0_next_X0 : ∀ w ∈ wsX00, w ∈ wsX0_next := by decide +kernel

set_option maxHeartbeats 4000000 in
set_option maxRecDepth 100000 in
theorem k_next (l : Launch) (dC : Nat → ClassId) (dI : Nat → Nat → Nat) (ca : Nat → ClassId) (h0 a0 a1 a2 a3 a4 : Nat) (t : TF) (tn : Nat) (w : WF) (wn : Nat) (g : Int64) (ko mw : Nat) (ck : Int64) (x : Int32) (htn : tn ≤ 512) (ht : ∀ j, j < tn → (t j).1 < 2048) : Met l yX0_next wsX0_next ({ frames := 1, cells := 0, slots := 0, locals := 22 }) (Pr [.ref h0, .long ck, .int x] (dC, dI) clS [(ca 0, .int), (ca 1, .int), (ca 2, .int), (ca 3, .long), (ca 4, .int)] [(h0, .inr (0, [.ref a0, .ref a1, .int (nI tn), .ref a2, .ref a3, .ref a4, .int (nI wn), .long g, .int (nI ko), .int (nI mw)])), (a0, .inl (ca 0, 512, .inl (fun z9 => nI (t z9).1))), (a1, .inl (ca 1, 512, .inl (fun z9 => (t z9).2))), (a2, .inl (ca 2, 65, .inl (fun z9 => nI (w z9).1))), (a3, .inl (ca 3, 65, .inr (.inl (fun z9 => (w z9).2.1)))), (a4, .inl (ca 4, 65, .inl (fun z9 => (w z9).2.2)))]) (QcRead (oI (nxt t tn ck x))) 0 0 (fun _ => False) := by
  refine Met.ofW (cc := cX0_next) (maxL := 6) (ret := (some .int)) (by decide) rfl ?_
  intro p e s m args below meth c s₁ B hml hv
  obtain ⟨hargs, hP, hK⟩ := hv
  have hx := B.exec
  have hb := B.bytes
  have hr := B.returns
  have hts := atoms_spec (ws := wsX0_next) B.pre
  have hown : s.vm.findClass RX0 = some m.cls := findClass_of_methodNamed B.named
  have hlocks := B.notSynchronized
  have hP : va_P (dC, dI) clS [(h0, .inr (0, [.ref a0, .ref a1, .int (nI tn), .ref a2, .ref a3, .ref a4, .int (nI wn), .long g, .int (nI ko), .int (nI mw)])), (a0, .inl (ca 0, 512, .inl (fun z9 => nI (t z9).1))), (a1, .inl (ca 1, 512, .inl (fun z9 => (t z9).2))), (a2, .inl (ca 2, 65, .inl (fun z9 => nI (w z9).1))), (a3, .inl (ca 3, 65, .inr (.inl (fun z9 => (w z9).2.1)))), (a4, .inl (ca 4, 65, .inl (fun z9 => (w z9).2.2)))] s.heap := hP
  have hl := lv_entry ([.ref h0, .long ck, .int x]) (n := 6) (Nat.le_of_ble_eq_true rfl)
  have hE : entryFrame m args 6 = F0 m 0 ((lg_sl ([.ref h0, .long ck, .int x]) ++ List.replicate (6 - (lg_sl ([.ref h0, .long ck, .int x])).length) Slot.unset).toArray) [] := by rw [hargs]; exact lg_entry_eq m ([.ref h0, .long ck, .int x]) 6
  rw [hE]
  generalize (lg_sl ([.ref h0, .long ck, .int x]) ++ List.replicate (6 - (lg_sl ([.ref h0, .long ck, .int x])).length) Slot.unset).toArray = ls at hl ⊢
  have hl : lv_has ls 6 [(0, .ref h0), (1, .long ck), (3, .int x)] := hl
  refine lv_iload_n hx hb dX0_next_0 rfl (lv_at hl 2 rfl) ?_
  refine lv_aload_n hx hb dX0_next_1 rfl (lv_at hl 0 rfl) ?_
  refine va_get (D := (dC, dI)) (ci := 0) (v := .int (nI tn)) (C := RX0) (T := TX0) (N := 10) hx hb hts in_X0_next_X0 hown hK hP 0 rfl rfl 2 (by decide) (hts (.fieldLink RX0 26 "CausalGate" "throughCount" "I") (by decide +kernel)) (fun _ h9 => h9) rfl dX0_next_2 ?_
  refine lv_icmp_lt (tgt := 10) hx hb dX0_next_5 (by decide) (fun c_5 => ?_) (fun c_5 => ?_)
  · have c9 := c_5
    refine lv_iload_n hx hb dX0_next_10 rfl (lv_at hl 2 rfl) ?_
    refine lv_iconst (v := -1) hx hb dX0_next_11 (by decide) ?_
    refine va_mmax hx hb (by rw [hml]; exact hl.1.symm) hown (hts (.methodLink RX0 81 Lib.Math.max.name) (by decide +kernel)) (hts (.static Lib.Math.max.name) (by decide +kernel)) (hts (.initialized "java/lang/Math") (by decide +kernel)) (hts (.code Lib.Math.max.name Lib.Math.max.code 2 (some .int)) (by decide +kernel)) (Nat.le_of_ble_eq_true rfl) (Nat.le_of_ble_eq_true rfl) (Nat.zero_le _) (Nat.zero_le _) dX0_next_12 ?_
    refine lv_iconst (v := 1) hx hb dX0_next_15 (by decide) ?_
    refine lv_iadd hx hb dX0_next_16 ?_
    refine tp_i (y := nI (stn x)) (stn_eq c9 (by omega)) ?_
    refine lv_istore (lv' := [(4, .int (nI (stn x))), (0, .ref h0), (1, .long ck), (3, .int x)]) hx hb dX0_next_17 hl (by decide) rfl (fun ls hl => ?_)
    have loop : ∀ (n : Nat) (j : Nat), j + n = tn → nxS t ck n j = nxt t tn ck x → ∀ ls : Array Slot, lv_has ls 6 [(0, .ref h0), (1, .long ck), (4, .int (nI j))] → W p l e (headSpec wsX0_next ({ frames := 1, cells := 0, slots := 0, locals := 22 })).room s m args below meth c s.heap [] 0 0 (MQ below (QcRead (oI (nxt t tn ck x))) args s 0 0 (fun _ => False)) (F0 m 19 ls []) := by
      intro n
      induction n with
      | zero =>
        intro j hj hk9 ls hl
        refine lv_iload hx hb dX0_next_19 (lv_at hl 2 rfl) ?_
        refine lv_aload_n hx hb dX0_next_21 rfl (lv_at hl 0 rfl) ?_
        refine va_get (D := (dC, dI)) (ci := 0) (v := .int (nI tn)) (C := RX0) (T := TX0) (N := 10) hx hb hts in_X0_next_X0 hown hK hP 0 rfl rfl 2 (by decide) (hts (.fieldLink RX0 26 "CausalGate" "throughCount" "I") (by decide +kernel)) (fun _ h9 => h9) rfl dX0_next_22 ?_
        refine lv_icmp_ge (tgt := 63) hx hb dX0_next_25 (by decide) (fun c_25 => ?_) (fun c_25 => ?_)
        · refine lv_iconst (v := -1) hx hb dX0_next_63 (by decide) ?_
          exact ri_ret hx hb hr hlocks (by rw [← hk9]; rfl) dX0_next_64
        · exact absurd (nI_le (by omega) (by omega)) c_25
      | succ n ih =>
        intro j hj hk9 ls hl
        refine lv_iload hx hb dX0_next_19 (lv_at hl 2 rfl) ?_
        refine lv_aload_n hx hb dX0_next_21 rfl (lv_at hl 0 rfl) ?_
        refine va_get (D := (dC, dI)) (ci := 0) (v := .int (nI tn)) (C := RX0) (T := TX0) (N := 10) hx hb hts in_X0_next_X0 hown hK hP 0 rfl rfl 2 (by decide) (hts (.fieldLink RX0 26 "CausalGate" "throughCount" "I") (by decide +kernel)) (fun _ h9 => h9) rfl dX0_next_22 ?_
        refine lv_icmp_ge (tgt := 63) hx hb dX0_next_25 (by decide) (fun c_25 => ?_) (fun c_25 => ?_)
        · exact absurd ((nI_leI (by omega) (by omega)).mp c_25) (by omega)
        · refine lv_aload_n hx hb dX0_next_28 rfl (lv_at hl 0 rfl) ?_
          refine va_get (D := (dC, dI)) (ci := 0) (v := .ref a0) (C := RX0) (T := TX0) (N := 10) hx hb hts in_X0_next_X0 hown hK hP 0 rfl rfl 0 (by decide) (hts (.fieldLink RX0 9 "CausalGate" "throughKeys" "[I") (by decide +kernel)) (fun _ h9 => h9) rfl dX0_next_29 ?_
          refine lv_iload hx hb dX0_next_32 (lv_at hl 2 rfl) ?_
          refine va_iald hx hb hK hP 1 0 rfl rfl (vp_in_nI (by omega) (by decide)) dX0_next_34 ?_
          refine tp_i (y := nI (t j).1) (by rw [nI_clamp (by omega)]) ?_
          have htj := ht _ (show j < tn by omega)
          refine lv_istore (lv' := [(5, .int (nI (t j).1)), (0, .ref h0), (1, .long ck), (4, .int (nI j))]) hx hb dX0_next_35 hl (by decide) rfl (fun ls hl => ?_)
          refine lv_iload hx hb dX0_next_37 (lv_at hl 0 rfl) ?_
          refine rd_i (W.runS (As := [.int (nI (t j).1)]) (rest := []) ⟨hx, hb, hml, hown, hts⟩ (k_seqOf l ((t j).1)) (va_cwS 1 hts gX0_next_X0_seqOf rfl rfl rfl (by decide +kernel) ⟨Nat.le_of_ble_eq_true rfl, Nat.le_of_ble_eq_true rfl⟩) preEq rfl rfl hl.1 rfl (lv_room (Nat.le_of_ble_eq_true rfl)) dX0_next_39 ⟨Nat.zero_le _, Nat.zero_le _⟩) ?_
          refine lv_lload_n hx hb dX0_next_42 rfl (lv_at hl 2 rfl) ?_
          refine lv_iload hx hb dX0_next_43 (lv_at hl 0 rfl) ?_
          refine rd_i (W.runS (As := [.int (nI (t j).1)]) (rest := [.long ck, .int (nI (((t j).1) % 256))]) ⟨hx, hb, hml, hown, hts⟩ (k_actorOf l ((t j).1) (by omega)) (va_cwS 1 hts gX0_next_X0_actorOf rfl rfl rfl (by decide +kernel) ⟨Nat.le_of_ble_eq_true rfl, Nat.le_of_ble_eq_true rfl⟩) preEq rfl rfl hl.1 rfl (lv_room (Nat.le_of_ble_eq_true rfl)) dX0_next_45 ⟨Nat.zero_le _, Nat.zero_le _⟩) ?_
          refine rd_i (W.runS (As := [.long ck, .int (nI (((t j).1) / 256))]) (rest := [.int (nI (((t j).1) % 256))]) ⟨hx, hb, hml, hown, hts⟩ (k_byteOf l ck (((t j).1) / 256) (by omega)) (va_cwS 2 hts gX0_next_X0_byteOf rfl rfl rfl (by decide +kernel) ⟨Nat.le_of_ble_eq_true rfl, Nat.le_of_ble_eq_true rfl⟩) preEq rfl rfl hl.1 rfl (lv_room (Nat.le_of_ble_eq_true rfl)) dX0_next_48 ⟨Nat.zero_le _, Nat.zero_le _⟩) ?_
          refine lv_icmp_le (tgt := 57) hx hb dX0_next_51 (by decide) (fun c_51 => ?_) (fun c_51 => ?_)
          · have c7 : ¬ by_ ck ((t j).1 / 256) < (t j).1 % 256 := Nat.not_lt.mpr ((nI_leI (by omega) (by have := by_lt ck ((t j).1 / 256); omega)).mp c_51)
            refine lv_iinc (v := (nI (j + 1))) (lv' := [(4, .int (nI (j + 1))), (5, .int (nI (t j).1)), (0, .ref h0), (1, .long ck)]) hx hb dX0_next_57 hl (k := 3) rfl (nI_1 j) (by decide) rfl (fun ls hl => ?_)
            refine lv_goto (tgt := 19) hx hb dX0_next_60 (by decide) ?_
            exact ih (j + 1) (by omega) (by rw [← hk9]; simp only [nxS]; rw [if_neg c7]) ls (lv_sub hl [2, 3, 0] rfl)
          · have c7 : by_ ck ((t j).1 / 256) < (t j).1 % 256 := Nat.lt_of_not_le fun q => c_51 (nI_le q (by have := by_lt ck ((t j).1 / 256); omega))
            refine lv_iload hx hb dX0_next_54 (lv_at hl 3 rfl) ?_
            exact ri_ret hx hb hr hlocks (by rw [← hk9]; simp only [nxS]; rw [if_pos c7]; rfl) dX0_next_56
    exact loop (tn - stn x) (stn x) (by have := stn_le c9 (by omega); omega) (by simp [nxt, c9]) ls (lv_sub hl [1, 2, 0] rfl)
  · have c9 := c_5
    refine lv_iconst (v := -1) hx hb dX0_next_8 (by decide) ?_
    exact ri_ret hx hb hr hlocks (by simp [nxt, c9, oI]) dX0_next_9

set_option maxRecDepth 20000 in
theorem in_X0_compare_X0 : ∀ w ∈ wsX00, w ∈ wsX0_compare := by decide +kernel

set_option maxHeartbeats 4000000 in
set_option maxRecDepth 100000 in
theorem k_compare (l : Launch) (dC : Nat → ClassId) (dI : Nat → Nat → Nat) (ca : Nat → ClassId) (h0 a0 a1 a2 a3 a4 : Nat) (t : TF) (tn : Nat) (w : WF) (wn : Nat) (g : Int64) (ko mw : Nat) (ck : Int64) : Met l yX0_compare wsX0_compare ({ frames := 1, cells := 0, slots := 0, locals := 22 }) (Pr [.ref h0, .long ck] (dC, dI) clS [(ca 0, .int), (ca 1, .int), (ca 2, .int), (ca 3, .long), (ca 4, .int)] [(h0, .inr (0, [.ref a0, .ref a1, .int (nI tn), .ref a2, .ref a3, .ref a4, .int (nI wn), .long g, .int (nI ko), .int (nI mw)])), (a0, .inl (ca 0, 512, .inl (fun z9 => nI (t z9).1))), (a1, .inl (ca 1, 512, .inl (fun z9 => (t z9).2))), (a2, .inl (ca 2, 65, .inl (fun z9 => nI (w z9).1))), (a3, .inl (ca 3, 65, .inr (.inl (fun z9 => (w z9).2.1)))), (a4, .inl (ca 4, 65, .inl (fun z9 => (w z9).2.2)))]) (QcRead (cmR (cmS g ck 8 0 false false))) 0 0 (fun _ => False) := by
  refine Met.ofW (cc := cX0_compare) (maxL := 8) (ret := (some .int)) (by decide) rfl ?_
  intro p e s m args below meth c s₁ B hml hv
  obtain ⟨hargs, hP, hK⟩ := hv
  have hx := B.exec
  have hb := B.bytes
  have hr := B.returns
  have hts := atoms_spec (ws := wsX0_compare) B.pre
  have hown : s.vm.findClass RX0 = some m.cls := findClass_of_methodNamed B.named
  have hlocks := B.notSynchronized
  have hP : va_P (dC, dI) clS [(h0, .inr (0, [.ref a0, .ref a1, .int (nI tn), .ref a2, .ref a3, .ref a4, .int (nI wn), .long g, .int (nI ko), .int (nI mw)])), (a0, .inl (ca 0, 512, .inl (fun z9 => nI (t z9).1))), (a1, .inl (ca 1, 512, .inl (fun z9 => (t z9).2))), (a2, .inl (ca 2, 65, .inl (fun z9 => nI (w z9).1))), (a3, .inl (ca 3, 65, .inr (.inl (fun z9 => (w z9).2.1)))), (a4, .inl (ca 4, 65, .inl (fun z9 => (w z9).2.2)))] s.heap := hP
  have hl := lv_entry ([.ref h0, .long ck]) (n := 8) (Nat.le_of_ble_eq_true rfl)
  have hE : entryFrame m args 8 = F0 m 0 ((lg_sl ([.ref h0, .long ck]) ++ List.replicate (8 - (lg_sl ([.ref h0, .long ck])).length) Slot.unset).toArray) [] := by rw [hargs]; exact lg_entry_eq m ([.ref h0, .long ck]) 8
  rw [hE]
  generalize (lg_sl ([.ref h0, .long ck]) ++ List.replicate (8 - (lg_sl ([.ref h0, .long ck])).length) Slot.unset).toArray = ls at hl ⊢
  have hl : lv_has ls 8 [(0, .ref h0), (1, .long ck)] := hl
  refine lv_iconst (v := 0) hx hb dX0_compare_0 (by decide) ?_
  refine tp_i (y := bI false) (rfl) ?_
  refine lv_istore_n (lv' := [(3, .int (bI false)), (0, .ref h0), (1, .long ck)]) hx hb dX0_compare_1 rfl hl (by decide) rfl (fun ls hl => ?_)
  refine lv_iconst (v := 0) hx hb dX0_compare_2 (by decide) ?_
  refine tp_i (y := bI false) (rfl) ?_
  refine lv_istore (lv' := [(4, .int (bI false)), (3, .int (bI false)), (0, .ref h0), (1, .long ck)]) hx hb dX0_compare_3 hl (by decide) rfl (fun ls hl => ?_)
  refine lv_iconst (v := 0) hx hb dX0_compare_5 (by decide) ?_
  refine tp_i (y := nI 0) (nI_0.symm) ?_
  refine lv_istore (lv' := [(5, .int (nI 0)), (4, .int (bI false)), (3, .int (bI false)), (0, .ref h0), (1, .long ck)]) hx hb dX0_compare_6 hl (by decide) rfl (fun ls hl => ?_)
  have loop : ∀ (n : Nat) (a : Nat) (m9 l9 : Bool), a + n = 8 → cmS g ck n a m9 l9 = cmS g ck 8 0 false false → ∀ ls : Array Slot, lv_has ls 8 [(0, .ref h0), (1, .long ck), (3, .int (bI m9)), (4, .int (bI l9)), (5, .int (nI a))] → W p l e (headSpec wsX0_compare ({ frames := 1, cells := 0, slots := 0, locals := 22 })).room s m args below meth c s.heap [] 0 0 (MQ below (QcRead (cmR (cmS g ck 8 0 false false))) args s 0 0 (fun _ => False)) (F0 m 8 ls []) := by
    intro n
    induction n with
    | zero =>
      intro a m9 l9 ha hk9 ls hl
      refine lv_iload hx hb dX0_compare_8 (lv_at hl 4 rfl) ?_
      refine lv_bipush (v := 8) hx hb dX0_compare_10 (by decide) ?_
      refine tp_i (y := nI 8) (rfl) ?_
      refine lv_icmp_ge (tgt := 76) hx hb dX0_compare_12 (by decide) (fun c_12 => ?_) (fun c_12 => ?_)
      · refine lv_iload_n hx hb dX0_compare_76 rfl (lv_at hl 2 rfl) ?_
        refine lv_if_eq (tgt := 91) hx hb dX0_compare_77 (by decide) (fun c_77 => ?_) (fun c_77 => ?_)
        · have hm9 : m9 = false := bI_0.mp c_77
          refine lv_iload hx hb dX0_compare_91 (lv_at hl 3 rfl) ?_
          refine lv_if_eq (tgt := 100) hx hb dX0_compare_93 (by decide) (fun c_93 => ?_) (fun c_93 => ?_)
          · have hl9 : l9 = false := bI_0.mp c_93
            refine lv_iconst (v := 0) hx hb dX0_compare_100 (by decide) ?_
            exact ri_ret hx hb hr hlocks (by rw [← hk9, hm9, hl9]; rfl) dX0_compare_101
          · have hl9 : l9 = true := by cases l9; exact absurd rfl c_93; rfl
            refine lv_iconst (v := 2) hx hb dX0_compare_96 (by decide) ?_
            refine lv_goto (tgt := 101) hx hb dX0_compare_97 (by decide) ?_
            exact ri_ret hx hb hr hlocks (by rw [← hk9, hm9, hl9]; rfl) dX0_compare_101
        · have hm9 : m9 = true := by cases m9; exact absurd rfl c_77; rfl
          refine lv_iload hx hb dX0_compare_80 (lv_at hl 3 rfl) ?_
          refine lv_if_eq (tgt := 89) hx hb dX0_compare_82 (by decide) (fun c_82 => ?_) (fun c_82 => ?_)
          · have hl9 : l9 = false := bI_0.mp c_82
            refine lv_iconst (v := 1) hx hb dX0_compare_89 (by decide) ?_
            exact ri_ret hx hb hr hlocks (by rw [← hk9, hm9, hl9]; rfl) dX0_compare_90
          · have hl9 : l9 = true := by cases l9; exact absurd rfl c_82; rfl
            refine lv_iconst (v := 3) hx hb dX0_compare_85 (by decide) ?_
            refine lv_goto (tgt := 90) hx hb dX0_compare_86 (by decide) ?_
            exact ri_ret hx hb hr hlocks (by rw [← hk9, hm9, hl9]; rfl) dX0_compare_90
      · exact absurd (nI_le (by omega) (by omega)) c_12
    | succ n ih =>
      intro a m9 l9 ha hk9 ls hl
      refine lv_iload hx hb dX0_compare_8 (lv_at hl 4 rfl) ?_
      refine lv_bipush (v := 8) hx hb dX0_compare_10 (by decide) ?_
      refine tp_i (y := nI 8) (rfl) ?_
      refine lv_icmp_ge (tgt := 76) hx hb dX0_compare_12 (by decide) (fun c_12 => ?_) (fun c_12 => ?_)
      · exact absurd ((nI_leI (by omega) (by omega)).mp c_12) (by omega)
      · refine lv_aload_n hx hb dX0_compare_15 rfl (lv_at hl 0 rfl) ?_
        refine va_get (D := (dC, dI)) (ci := 0) (v := .long g) (C := RX0) (T := TX0) (N := 10) hx hb hts in_X0_compare_X0 hown hK hP 0 rfl rfl 7 (by decide) (hts (.fieldLink RX0 33 "CausalGate" "gateClock" "J") (by decide +kernel)) (fun _ h9 => h9) rfl dX0_compare_16 ?_
        refine lv_iload hx hb dX0_compare_19 (lv_at hl 4 rfl) ?_
        refine rd_i (W.runS (As := [.long g, .int (nI a)]) (rest := []) ⟨hx, hb, hml, hown, hts⟩ (k_byteOf l g a (by omega)) (va_cwS 2 hts gX0_compare_X0_byteOf rfl rfl rfl (by decide +kernel) ⟨Nat.le_of_ble_eq_true rfl, Nat.le_of_ble_eq_true rfl⟩) preEq rfl rfl hl.1 rfl (lv_room (Nat.le_of_ble_eq_true rfl)) dX0_compare_21 ⟨Nat.zero_le _, Nat.zero_le _⟩) ?_
        refine lv_istore (lv' := [(6, .int (nI (by_ g a))), (0, .ref h0), (1, .long ck), (3, .int (bI m9)), (4, .int (bI l9)), (5, .int (nI a))]) hx hb dX0_compare_24 hl (by decide) rfl (fun ls hl => ?_)
        refine lv_lload_n hx hb dX0_compare_26 rfl (lv_at hl 2 rfl) ?_
        refine lv_iload hx hb dX0_compare_27 (lv_at hl 5 rfl) ?_
        refine rd_i (W.runS (As := [.long ck, .int (nI a)]) (rest := []) ⟨hx, hb, hml, hown, hts⟩ (k_byteOf l ck a (by omega)) (va_cwS 2 hts gX0_compare_X0_byteOf rfl rfl rfl (by decide +kernel) ⟨Nat.le_of_ble_eq_true rfl, Nat.le_of_ble_eq_true rfl⟩) preEq rfl rfl hl.1 rfl (lv_room (Nat.le_of_ble_eq_true rfl)) dX0_compare_29 ⟨Nat.zero_le _, Nat.zero_le _⟩) ?_
        refine lv_istore (lv' := [(7, .int (nI (by_ ck a))), (6, .int (nI (by_ g a))), (0, .ref h0), (1, .long ck), (3, .int (bI m9)), (4, .int (bI l9)), (5, .int (nI a))]) hx hb dX0_compare_32 hl (by decide) rfl (fun ls hl => ?_)
        refine lv_iload_n hx hb dX0_compare_34 rfl (lv_at hl 4 rfl) ?_
        refine lv_if_ne (tgt := 45) hx hb dX0_compare_35 (by decide) (fun c_35 => ?_) (fun c_35 => ?_)
        · have hm9 : m9 = true := by cases m9; exact absurd rfl c_35; rfl
          have e8 : (m9 || decide (by_ ck a < by_ g a)) = true := by simp [hm9]
          refine lv_iconst (v := 1) hx hb dX0_compare_45 (by decide) ?_
          refine tp_i (y := bI (m9 || decide (by_ ck a < by_ g a))) (by rw [e8]; rfl) ?_
          refine lv_goto (tgt := 50) hx hb dX0_compare_46 (by decide) ?_
          refine lv_istore_n (lv' := [(3, .int (bI (m9 || decide (by_ ck a < by_ g a)))), (7, .int (nI (by_ ck a))), (6, .int (nI (by_ g a))), (0, .ref h0), (1, .long ck), (4, .int (bI l9)), (5, .int (nI a))]) hx hb dX0_compare_50 rfl hl (by decide) rfl (fun ls hl => ?_)
          refine lv_iload hx hb dX0_compare_51 (lv_at hl 5 rfl) ?_
          refine lv_if_ne (tgt := 63) hx hb dX0_compare_53 (by decide) (fun c_53 => ?_) (fun c_53 => ?_)
          · have hl9 : l9 = true := by cases l9; exact absurd rfl c_53; rfl
            have e7 : (l9 || decide (by_ g a < by_ ck a)) = true := by simp [hl9]
            refine lv_iconst (v := 1) hx hb dX0_compare_63 (by decide) ?_
            refine tp_i (y := bI (l9 || decide (by_ g a < by_ ck a))) (by rw [e7]; rfl) ?_
            refine lv_goto (tgt := 68) hx hb dX0_compare_64 (by decide) ?_
            refine lv_istore (lv' := [(4, .int (bI (l9 || decide (by_ g a < by_ ck a)))), (3, .int (bI (m9 || decide (by_ ck a < by_ g a)))), (7, .int (nI (by_ ck a))), (6, .int (nI (by_ g a))), (0, .ref h0), (1, .long ck), (5, .int (nI a))]) hx hb dX0_compare_68 hl (by decide) rfl (fun ls hl => ?_)
            refine lv_iinc (v := (nI (a + 1))) (lv' := [(5, .int (nI (a + 1))), (4, .int (bI (l9 || decide (by_ g a < by_ ck a)))), (3, .int (bI (m9 || decide (by_ ck a < by_ g a)))), (7, .int (nI (by_ ck a))), (6, .int (nI (by_ g a))), (0, .ref h0), (1, .long ck)]) hx hb dX0_compare_70 hl (k := 6) rfl (nI_1 a) (by decide) rfl (fun ls hl => ?_)
            refine lv_goto (tgt := 8) hx hb dX0_compare_73 (by decide) ?_
            exact ih (a + 1) (m9 || decide (by_ ck a < by_ g a)) (l9 || decide (by_ g a < by_ ck a)) (by omega) (by rw [← hk9]; rfl) ls (lv_sub hl [5, 6, 2, 1, 0] rfl)
          · have hl9 : l9 = false := bI_0.mp c_53
            refine lv_iload hx hb dX0_compare_56 (lv_at hl 2 rfl) ?_
            refine lv_iload hx hb dX0_compare_58 (lv_at hl 1 rfl) ?_
            refine lv_icmp_ge (tgt := 67) hx hb dX0_compare_60 (by decide) (fun c_60 => ?_) (fun c_60 => ?_)
            · have e7 : (l9 || decide (by_ g a < by_ ck a)) = false := by simp [hl9]; exact (nI_leI (by have := by_lt g a; have := by_lt ck a; omega) (by have := by_lt g a; have := by_lt ck a; omega)).mp c_60
              refine lv_iconst (v := 0) hx hb dX0_compare_67 (by decide) ?_
              refine tp_i (y := bI (l9 || decide (by_ g a < by_ ck a))) (by rw [e7]; rfl) ?_
              refine lv_istore (lv' := [(4, .int (bI (l9 || decide (by_ g a < by_ ck a)))), (3, .int (bI (m9 || decide (by_ ck a < by_ g a)))), (7, .int (nI (by_ ck a))), (6, .int (nI (by_ g a))), (0, .ref h0), (1, .long ck), (5, .int (nI a))]) hx hb dX0_compare_68 hl (by decide) rfl (fun ls hl => ?_)
              refine lv_iinc (v := (nI (a + 1))) (lv' := [(5, .int (nI (a + 1))), (4, .int (bI (l9 || decide (by_ g a < by_ ck a)))), (3, .int (bI (m9 || decide (by_ ck a < by_ g a)))), (7, .int (nI (by_ ck a))), (6, .int (nI (by_ g a))), (0, .ref h0), (1, .long ck)]) hx hb dX0_compare_70 hl (k := 6) rfl (nI_1 a) (by decide) rfl (fun ls hl => ?_)
              refine lv_goto (tgt := 8) hx hb dX0_compare_73 (by decide) ?_
              exact ih (a + 1) (m9 || decide (by_ ck a < by_ g a)) (l9 || decide (by_ g a < by_ ck a)) (by omega) (by rw [← hk9]; rfl) ls (lv_sub hl [5, 6, 2, 1, 0] rfl)
            · have e7 : (l9 || decide (by_ g a < by_ ck a)) = true := by simp [hl9]; exact Nat.lt_of_not_le fun q => c_60 (nI_le q (by have := by_lt g a; have := by_lt ck a; omega))
              refine lv_iconst (v := 1) hx hb dX0_compare_63 (by decide) ?_
              refine tp_i (y := bI (l9 || decide (by_ g a < by_ ck a))) (by rw [e7]; rfl) ?_
              refine lv_goto (tgt := 68) hx hb dX0_compare_64 (by decide) ?_
              refine lv_istore (lv' := [(4, .int (bI (l9 || decide (by_ g a < by_ ck a)))), (3, .int (bI (m9 || decide (by_ ck a < by_ g a)))), (7, .int (nI (by_ ck a))), (6, .int (nI (by_ g a))), (0, .ref h0), (1, .long ck), (5, .int (nI a))]) hx hb dX0_compare_68 hl (by decide) rfl (fun ls hl => ?_)
              refine lv_iinc (v := (nI (a + 1))) (lv' := [(5, .int (nI (a + 1))), (4, .int (bI (l9 || decide (by_ g a < by_ ck a)))), (3, .int (bI (m9 || decide (by_ ck a < by_ g a)))), (7, .int (nI (by_ ck a))), (6, .int (nI (by_ g a))), (0, .ref h0), (1, .long ck)]) hx hb dX0_compare_70 hl (k := 6) rfl (nI_1 a) (by decide) rfl (fun ls hl => ?_)
              refine lv_goto (tgt := 8) hx hb dX0_compare_73 (by decide) ?_
              exact ih (a + 1) (m9 || decide (by_ ck a < by_ g a)) (l9 || decide (by_ g a < by_ ck a)) (by omega) (by rw [← hk9]; rfl) ls (lv_sub hl [5, 6, 2, 1, 0] rfl)
        · have hm9 : m9 = false := bI_0.mp c_35
          refine lv_iload hx hb dX0_compare_38 (lv_at hl 1 rfl) ?_
          refine lv_iload hx hb dX0_compare_40 (lv_at hl 0 rfl) ?_
          refine lv_icmp_le (tgt := 49) hx hb dX0_compare_42 (by decide) (fun c_42 => ?_) (fun c_42 => ?_)
          · have e8 : (m9 || decide (by_ ck a < by_ g a)) = false := by simp [hm9]; exact (nI_leI (by have := by_lt g a; have := by_lt ck a; omega) (by have := by_lt g a; have := by_lt ck a; omega)).mp c_42
            refine lv_iconst (v := 0) hx hb dX0_compare_49 (by decide) ?_
            refine tp_i (y := bI (m9 || decide (by_ ck a < by_ g a))) (by rw [e8]; rfl) ?_
            refine lv_istore_n (lv' := [(3, .int (bI (m9 || decide (by_ ck a < by_ g a)))), (7, .int (nI (by_ ck a))), (6, .int (nI (by_ g a))), (0, .ref h0), (1, .long ck), (4, .int (bI l9)), (5, .int (nI a))]) hx hb dX0_compare_50 rfl hl (by decide) rfl (fun ls hl => ?_)
            refine lv_iload hx hb dX0_compare_51 (lv_at hl 5 rfl) ?_
            refine lv_if_ne (tgt := 63) hx hb dX0_compare_53 (by decide) (fun c_53 => ?_) (fun c_53 => ?_)
            · have hl9 : l9 = true := by cases l9; exact absurd rfl c_53; rfl
              have e7 : (l9 || decide (by_ g a < by_ ck a)) = true := by simp [hl9]
              refine lv_iconst (v := 1) hx hb dX0_compare_63 (by decide) ?_
              refine tp_i (y := bI (l9 || decide (by_ g a < by_ ck a))) (by rw [e7]; rfl) ?_
              refine lv_goto (tgt := 68) hx hb dX0_compare_64 (by decide) ?_
              refine lv_istore (lv' := [(4, .int (bI (l9 || decide (by_ g a < by_ ck a)))), (3, .int (bI (m9 || decide (by_ ck a < by_ g a)))), (7, .int (nI (by_ ck a))), (6, .int (nI (by_ g a))), (0, .ref h0), (1, .long ck), (5, .int (nI a))]) hx hb dX0_compare_68 hl (by decide) rfl (fun ls hl => ?_)
              refine lv_iinc (v := (nI (a + 1))) (lv' := [(5, .int (nI (a + 1))), (4, .int (bI (l9 || decide (by_ g a < by_ ck a)))), (3, .int (bI (m9 || decide (by_ ck a < by_ g a)))), (7, .int (nI (by_ ck a))), (6, .int (nI (by_ g a))), (0, .ref h0), (1, .long ck)]) hx hb dX0_compare_70 hl (k := 6) rfl (nI_1 a) (by decide) rfl (fun ls hl => ?_)
              refine lv_goto (tgt := 8) hx hb dX0_compare_73 (by decide) ?_
              exact ih (a + 1) (m9 || decide (by_ ck a < by_ g a)) (l9 || decide (by_ g a < by_ ck a)) (by omega) (by rw [← hk9]; rfl) ls (lv_sub hl [5, 6, 2, 1, 0] rfl)
            · have hl9 : l9 = false := bI_0.mp c_53
              refine lv_iload hx hb dX0_compare_56 (lv_at hl 2 rfl) ?_
              refine lv_iload hx hb dX0_compare_58 (lv_at hl 1 rfl) ?_
              refine lv_icmp_ge (tgt := 67) hx hb dX0_compare_60 (by decide) (fun c_60 => ?_) (fun c_60 => ?_)
              · have e7 : (l9 || decide (by_ g a < by_ ck a)) = false := by simp [hl9]; exact (nI_leI (by have := by_lt g a; have := by_lt ck a; omega) (by have := by_lt g a; have := by_lt ck a; omega)).mp c_60
                refine lv_iconst (v := 0) hx hb dX0_compare_67 (by decide) ?_
                refine tp_i (y := bI (l9 || decide (by_ g a < by_ ck a))) (by rw [e7]; rfl) ?_
                refine lv_istore (lv' := [(4, .int (bI (l9 || decide (by_ g a < by_ ck a)))), (3, .int (bI (m9 || decide (by_ ck a < by_ g a)))), (7, .int (nI (by_ ck a))), (6, .int (nI (by_ g a))), (0, .ref h0), (1, .long ck), (5, .int (nI a))]) hx hb dX0_compare_68 hl (by decide) rfl (fun ls hl => ?_)
                refine lv_iinc (v := (nI (a + 1))) (lv' := [(5, .int (nI (a + 1))), (4, .int (bI (l9 || decide (by_ g a < by_ ck a)))), (3, .int (bI (m9 || decide (by_ ck a < by_ g a)))), (7, .int (nI (by_ ck a))), (6, .int (nI (by_ g a))), (0, .ref h0), (1, .long ck)]) hx hb dX0_compare_70 hl (k := 6) rfl (nI_1 a) (by decide) rfl (fun ls hl => ?_)
                refine lv_goto (tgt := 8) hx hb dX0_compare_73 (by decide) ?_
                exact ih (a + 1) (m9 || decide (by_ ck a < by_ g a)) (l9 || decide (by_ g a < by_ ck a)) (by omega) (by rw [← hk9]; rfl) ls (lv_sub hl [5, 6, 2, 1, 0] rfl)
              · have e7 : (l9 || decide (by_ g a < by_ ck a)) = true := by simp [hl9]; exact Nat.lt_of_not_le fun q => c_60 (nI_le q (by have := by_lt g a; have := by_lt ck a; omega))
                refine lv_iconst (v := 1) hx hb dX0_compare_63 (by decide) ?_
                refine tp_i (y := bI (l9 || decide (by_ g a < by_ ck a))) (by rw [e7]; rfl) ?_
                refine lv_goto (tgt := 68) hx hb dX0_compare_64 (by decide) ?_
                refine lv_istore (lv' := [(4, .int (bI (l9 || decide (by_ g a < by_ ck a)))), (3, .int (bI (m9 || decide (by_ ck a < by_ g a)))), (7, .int (nI (by_ ck a))), (6, .int (nI (by_ g a))), (0, .ref h0), (1, .long ck), (5, .int (nI a))]) hx hb dX0_compare_68 hl (by decide) rfl (fun ls hl => ?_)
                refine lv_iinc (v := (nI (a + 1))) (lv' := [(5, .int (nI (a + 1))), (4, .int (bI (l9 || decide (by_ g a < by_ ck a)))), (3, .int (bI (m9 || decide (by_ ck a < by_ g a)))), (7, .int (nI (by_ ck a))), (6, .int (nI (by_ g a))), (0, .ref h0), (1, .long ck)]) hx hb dX0_compare_70 hl (k := 6) rfl (nI_1 a) (by decide) rfl (fun ls hl => ?_)
                refine lv_goto (tgt := 8) hx hb dX0_compare_73 (by decide) ?_
                exact ih (a + 1) (m9 || decide (by_ ck a < by_ g a)) (l9 || decide (by_ g a < by_ ck a)) (by omega) (by rw [← hk9]; rfl) ls (lv_sub hl [5, 6, 2, 1, 0] rfl)
          · have e8 : (m9 || decide (by_ ck a < by_ g a)) = true := by simp [hm9]; exact Nat.lt_of_not_le fun q => c_42 (nI_le q (by have := by_lt g a; have := by_lt ck a; omega))
            refine lv_iconst (v := 1) hx hb dX0_compare_45 (by decide) ?_
            refine tp_i (y := bI (m9 || decide (by_ ck a < by_ g a))) (by rw [e8]; rfl) ?_
            refine lv_goto (tgt := 50) hx hb dX0_compare_46 (by decide) ?_
            refine lv_istore_n (lv' := [(3, .int (bI (m9 || decide (by_ ck a < by_ g a)))), (7, .int (nI (by_ ck a))), (6, .int (nI (by_ g a))), (0, .ref h0), (1, .long ck), (4, .int (bI l9)), (5, .int (nI a))]) hx hb dX0_compare_50 rfl hl (by decide) rfl (fun ls hl => ?_)
            refine lv_iload hx hb dX0_compare_51 (lv_at hl 5 rfl) ?_
            refine lv_if_ne (tgt := 63) hx hb dX0_compare_53 (by decide) (fun c_53 => ?_) (fun c_53 => ?_)
            · have hl9 : l9 = true := by cases l9; exact absurd rfl c_53; rfl
              have e7 : (l9 || decide (by_ g a < by_ ck a)) = true := by simp [hl9]
              refine lv_iconst (v := 1) hx hb dX0_compare_63 (by decide) ?_
              refine tp_i (y := bI (l9 || decide (by_ g a < by_ ck a))) (by rw [e7]; rfl) ?_
              refine lv_goto (tgt := 68) hx hb dX0_compare_64 (by decide) ?_
              refine lv_istore (lv' := [(4, .int (bI (l9 || decide (by_ g a < by_ ck a)))), (3, .int (bI (m9 || decide (by_ ck a < by_ g a)))), (7, .int (nI (by_ ck a))), (6, .int (nI (by_ g a))), (0, .ref h0), (1, .long ck), (5, .int (nI a))]) hx hb dX0_compare_68 hl (by decide) rfl (fun ls hl => ?_)
              refine lv_iinc (v := (nI (a + 1))) (lv' := [(5, .int (nI (a + 1))), (4, .int (bI (l9 || decide (by_ g a < by_ ck a)))), (3, .int (bI (m9 || decide (by_ ck a < by_ g a)))), (7, .int (nI (by_ ck a))), (6, .int (nI (by_ g a))), (0, .ref h0), (1, .long ck)]) hx hb dX0_compare_70 hl (k := 6) rfl (nI_1 a) (by decide) rfl (fun ls hl => ?_)
              refine lv_goto (tgt := 8) hx hb dX0_compare_73 (by decide) ?_
              exact ih (a + 1) (m9 || decide (by_ ck a < by_ g a)) (l9 || decide (by_ g a < by_ ck a)) (by omega) (by rw [← hk9]; rfl) ls (lv_sub hl [5, 6, 2, 1, 0] rfl)
            · have hl9 : l9 = false := bI_0.mp c_53
              refine lv_iload hx hb dX0_compare_56 (lv_at hl 2 rfl) ?_
              refine lv_iload hx hb dX0_compare_58 (lv_at hl 1 rfl) ?_
              refine lv_icmp_ge (tgt := 67) hx hb dX0_compare_60 (by decide) (fun c_60 => ?_) (fun c_60 => ?_)
              · have e7 : (l9 || decide (by_ g a < by_ ck a)) = false := by simp [hl9]; exact (nI_leI (by have := by_lt g a; have := by_lt ck a; omega) (by have := by_lt g a; have := by_lt ck a; omega)).mp c_60
                refine lv_iconst (v := 0) hx hb dX0_compare_67 (by decide) ?_
                refine tp_i (y := bI (l9 || decide (by_ g a < by_ ck a))) (by rw [e7]; rfl) ?_
                refine lv_istore (lv' := [(4, .int (bI (l9 || decide (by_ g a < by_ ck a)))), (3, .int (bI (m9 || decide (by_ ck a < by_ g a)))), (7, .int (nI (by_ ck a))), (6, .int (nI (by_ g a))), (0, .ref h0), (1, .long ck), (5, .int (nI a))]) hx hb dX0_compare_68 hl (by decide) rfl (fun ls hl => ?_)
                refine lv_iinc (v := (nI (a + 1))) (lv' := [(5, .int (nI (a + 1))), (4, .int (bI (l9 || decide (by_ g a < by_ ck a)))), (3, .int (bI (m9 || decide (by_ ck a < by_ g a)))), (7, .int (nI (by_ ck a))), (6, .int (nI (by_ g a))), (0, .ref h0), (1, .long ck)]) hx hb dX0_compare_70 hl (k := 6) rfl (nI_1 a) (by decide) rfl (fun ls hl => ?_)
                refine lv_goto (tgt := 8) hx hb dX0_compare_73 (by decide) ?_
                exact ih (a + 1) (m9 || decide (by_ ck a < by_ g a)) (l9 || decide (by_ g a < by_ ck a)) (by omega) (by rw [← hk9]; rfl) ls (lv_sub hl [5, 6, 2, 1, 0] rfl)
              · have e7 : (l9 || decide (by_ g a < by_ ck a)) = true := by simp [hl9]; exact Nat.lt_of_not_le fun q => c_60 (nI_le q (by have := by_lt g a; have := by_lt ck a; omega))
                refine lv_iconst (v := 1) hx hb dX0_compare_63 (by decide) ?_
                refine tp_i (y := bI (l9 || decide (by_ g a < by_ ck a))) (by rw [e7]; rfl) ?_
                refine lv_goto (tgt := 68) hx hb dX0_compare_64 (by decide) ?_
                refine lv_istore (lv' := [(4, .int (bI (l9 || decide (by_ g a < by_ ck a)))), (3, .int (bI (m9 || decide (by_ ck a < by_ g a)))), (7, .int (nI (by_ ck a))), (6, .int (nI (by_ g a))), (0, .ref h0), (1, .long ck), (5, .int (nI a))]) hx hb dX0_compare_68 hl (by decide) rfl (fun ls hl => ?_)
                refine lv_iinc (v := (nI (a + 1))) (lv' := [(5, .int (nI (a + 1))), (4, .int (bI (l9 || decide (by_ g a < by_ ck a)))), (3, .int (bI (m9 || decide (by_ ck a < by_ g a)))), (7, .int (nI (by_ ck a))), (6, .int (nI (by_ g a))), (0, .ref h0), (1, .long ck)]) hx hb dX0_compare_70 hl (k := 6) rfl (nI_1 a) (by decide) rfl (fun ls hl => ?_)
                refine lv_goto (tgt := 8) hx hb dX0_compare_73 (by decide) ?_
                exact ih (a + 1) (m9 || decide (by_ ck a < by_ g a)) (l9 || decide (by_ g a < by_ ck a)) (by omega) (by rw [← hk9]; rfl) ls (lv_sub hl [5, 6, 2, 1, 0] rfl)
  exact loop 8 0 false false (by omega) rfl ls (lv_sub hl [3, 4, 2, 1, 0] rfl)
