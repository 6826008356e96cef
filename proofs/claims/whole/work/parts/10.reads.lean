set_option maxHeartbeats 4000000 in
set_option maxRecDepth 100000 in
theorem k_isActor (l : Launch) (x : Int32) : Met l yX0_isActor wsX0_isActor ({ frames := 0, cells := 0, slots := 0, locals := 0 }) (fun v _ => v = ([.int x] : List Value).toArray) (QcRead (bI (isA x))) 0 0 (fun _ => False) := by
  refine Met.ofW (cc := cX0_isActor) (maxL := 1) (ret := (some .boolean)) (by decide) rfl ?_
  intro p e s m args below meth c s₁ B hml hv
  have hargs : args = ([.int x] : List Value).toArray := hv
  have hx := B.exec
  have hb := B.bytes
  have hr := B.returns
  have hts := atoms_spec (ws := wsX0_isActor) B.pre
  have hown : s.vm.findClass RX0 = some m.cls := findClass_of_methodNamed B.named
  have hlocks := B.notSynchronized
  have hl := lv_entry ([.int x]) (n := 1) (Nat.le_of_ble_eq_true rfl)
  have hE : entryFrame m args 1 = F0 m 0 ((lg_sl ([.int x]) ++ List.replicate (1 - (lg_sl ([.int x])).length) Slot.unset).toArray) [] := by rw [hargs]; exact lg_entry_eq m ([.int x]) 1
  rw [hE]
  generalize (lg_sl ([.int x]) ++ List.replicate (1 - (lg_sl ([.int x])).length) Slot.unset).toArray = ls at hl ⊢
  have hl : lv_has ls 1 [(0, .int x)] := hl
  refine lv_iload_n hx hb dX0_isActor_0 rfl (lv_at hl 0 rfl) ?_
  refine lv_if_lt (tgt := 14) hx hb dX0_isActor_1 (by decide) (fun c_1 => ?_) (fun c_1 => ?_)
  · refine lv_iconst (v := 0) hx hb dX0_isActor_14 (by decide) ?_
    exact rz_ret hx hb hr hlocks (rfl) (by simp [isA, bI, *]) dX0_isActor_15
  · refine lv_iload_n hx hb dX0_isActor_4 rfl (lv_at hl 0 rfl) ?_
    refine lv_bipush (v := 8) hx hb dX0_isActor_5 (by decide) ?_
    refine lv_icmp_ge (tgt := 14) hx hb dX0_isActor_7 (by decide) (fun c_7 => ?_) (fun c_7 => ?_)
    · refine lv_iconst (v := 0) hx hb dX0_isActor_14 (by decide) ?_
      exact rz_ret hx hb hr hlocks (rfl) (by simp [isA, bI, *]) dX0_isActor_15
    · refine lv_iconst (v := 1) hx hb dX0_isActor_10 (by decide) ?_
      refine lv_goto (tgt := 15) hx hb dX0_isActor_11 (by decide) ?_
      exact rz_ret hx hb hr hlocks (rfl) (by simp [isA, bI, *]) dX0_isActor_15

set_option maxHeartbeats 4000000 in
set_option maxRecDepth 100000 in
theorem k_isSeq (l : Launch) (x : Int32) : Met l yX0_isSeq wsX0_isSeq ({ frames := 0, cells := 0, slots := 0, locals := 0 }) (fun v _ => v = ([.int x] : List Value).toArray) (QcRead (bI (isS x))) 0 0 (fun _ => False) := by
  refine Met.ofW (cc := cX0_isSeq) (maxL := 1) (ret := (some .boolean)) (by decide) rfl ?_
  intro p e s m args below meth c s₁ B hml hv
  have hargs : args = ([.int x] : List Value).toArray := hv
  have hx := B.exec
  have hb := B.bytes
  have hr := B.returns
  have hts := atoms_spec (ws := wsX0_isSeq) B.pre
  have hown : s.vm.findClass RX0 = some m.cls := findClass_of_methodNamed B.named
  have hlocks := B.notSynchronized
  have hl := lv_entry ([.int x]) (n := 1) (Nat.le_of_ble_eq_true rfl)
  have hE : entryFrame m args 1 = F0 m 0 ((lg_sl ([.int x]) ++ List.replicate (1 - (lg_sl ([.int x])).length) Slot.unset).toArray) [] := by rw [hargs]; exact lg_entry_eq m ([.int x]) 1
  rw [hE]
  generalize (lg_sl ([.int x]) ++ List.replicate (1 - (lg_sl ([.int x])).length) Slot.unset).toArray = ls at hl ⊢
  have hl : lv_has ls 1 [(0, .int x)] := hl
  refine lv_iload_n hx hb dX0_isSeq_0 rfl (lv_at hl 0 rfl) ?_
  refine lv_iconst (v := 1) hx hb dX0_isSeq_1 (by decide) ?_
  refine lv_icmp_lt (tgt := 16) hx hb dX0_isSeq_2 (by decide) (fun c_2 => ?_) (fun c_2 => ?_)
  · refine lv_iconst (v := 0) hx hb dX0_isSeq_16 (by decide) ?_
    exact rz_ret hx hb hr hlocks (rfl) (by simp [isS, bI, *]) dX0_isSeq_17
  · refine lv_iload_n hx hb dX0_isSeq_5 rfl (lv_at hl 0 rfl) ?_
    refine lv_sipush (v := 255) hx hb dX0_isSeq_6 (by decide) ?_
    refine lv_icmp_gt (tgt := 16) hx hb dX0_isSeq_9 (by decide) (fun c_9 => ?_) (fun c_9 => ?_)
    · refine lv_iconst (v := 0) hx hb dX0_isSeq_16 (by decide) ?_
      exact rz_ret hx hb hr hlocks (rfl) (by simp [isS, bI, *]) dX0_isSeq_17
    · refine lv_iconst (v := 1) hx hb dX0_isSeq_12 (by decide) ?_
      refine lv_goto (tgt := 17) hx hb dX0_isSeq_13 (by decide) ?_
      exact rz_ret hx hb hr hlocks (rfl) (by simp [isS, bI, *]) dX0_isSeq_17

set_option maxHeartbeats 4000000 in
set_option maxRecDepth 100000 in
theorem k_keyOf (l : Launch) (a q : Nat) (ha : a < 8) (hq : q < 256) : Met l yX0_keyOf wsX0_keyOf ({ frames := 0, cells := 0, slots := 0, locals := 0 }) (fun v _ => v = ([.int (nI a), .int (nI q)] : List Value).toArray) (QcRead (nI (a * 256 + q))) 0 0 (fun _ => False) := by
  refine Met.ofW (cc := cX0_keyOf) (maxL := 2) (ret := (some .int)) (by decide) rfl ?_
  intro p e s m args below meth c s₁ B hml hv
  have hargs : args = ([.int (nI a), .int (nI q)] : List Value).toArray := hv
  have hx := B.exec
  have hb := B.bytes
  have hr := B.returns
  have hts := atoms_spec (ws := wsX0_keyOf) B.pre
  have hown : s.vm.findClass RX0 = some m.cls := findClass_of_methodNamed B.named
  have hlocks := B.notSynchronized
  have hl := lv_entry ([.int (nI a), .int (nI q)]) (n := 2) (Nat.le_of_ble_eq_true rfl)
  have hE : entryFrame m args 2 = F0 m 0 ((lg_sl ([.int (nI a), .int (nI q)]) ++ List.replicate (2 - (lg_sl ([.int (nI a), .int (nI q)])).length) Slot.unset).toArray) [] := by rw [hargs]; exact lg_entry_eq m ([.int (nI a), .int (nI q)]) 2
  rw [hE]
  generalize (lg_sl ([.int (nI a), .int (nI q)]) ++ List.replicate (2 - (lg_sl ([.int (nI a), .int (nI q)])).length) Slot.unset).toArray = ls at hl ⊢
  have hl : lv_has ls 2 [(0, .int (nI a)), (1, .int (nI q))] := hl
  refine lv_iload_n hx hb dX0_keyOf_0 rfl (lv_at hl 0 rfl) ?_
  refine lv_bipush (v := 8) hx hb dX0_keyOf_1 (by decide) ?_
  refine lv_ishl hx hb dX0_keyOf_3 ?_
  refine tp_i (y := nI (a * 256)) (pk_shlN _ 8 (by decide) (by omega)) ?_
  refine lv_iload_n hx hb dX0_keyOf_4 rfl (lv_at hl 1 rfl) ?_
  refine lv_ior hx hb dX0_keyOf_5 ?_
  refine tp_i (y := nI (a * 256 + q)) (nI_key hq) ?_
  exact ri_ret hx hb hr hlocks (rfl) dX0_keyOf_6

set_option maxHeartbeats 4000000 in
set_option maxRecDepth 100000 in
theorem k_actorOf (l : Launch) (k : Nat) (hk : k < 2 ^ 31) : Met l yX0_actorOf wsX0_actorOf ({ frames := 0, cells := 0, slots := 0, locals := 0 }) (fun v _ => v = ([.int (nI k)] : List Value).toArray) (QcRead (nI (k / 256))) 0 0 (fun _ => False) := by
  refine Met.ofW (cc := cX0_actorOf) (maxL := 1) (ret := (some .int)) (by decide) rfl ?_
  intro p e s m args below meth c s₁ B hml hv
  have hargs : args = ([.int (nI k)] : List Value).toArray := hv
  have hx := B.exec
  have hb := B.bytes
  have hr := B.returns
  have hts := atoms_spec (ws := wsX0_actorOf) B.pre
  have hown : s.vm.findClass RX0 = some m.cls := findClass_of_methodNamed B.named
  have hlocks := B.notSynchronized
  have hl := lv_entry ([.int (nI k)]) (n := 1) (Nat.le_of_ble_eq_true rfl)
  have hE : entryFrame m args 1 = F0 m 0 ((lg_sl ([.int (nI k)]) ++ List.replicate (1 - (lg_sl ([.int (nI k)])).length) Slot.unset).toArray) [] := by rw [hargs]; exact lg_entry_eq m ([.int (nI k)]) 1
  rw [hE]
  generalize (lg_sl ([.int (nI k)]) ++ List.replicate (1 - (lg_sl ([.int (nI k)])).length) Slot.unset).toArray = ls at hl ⊢
  have hl : lv_has ls 1 [(0, .int (nI k))] := hl
  refine lv_iload_n hx hb dX0_actorOf_0 rfl (lv_at hl 0 rfl) ?_
  refine lv_bipush (v := 8) hx hb dX0_actorOf_1 (by decide) ?_
  refine lv_ishr hx hb dX0_actorOf_3 ?_
  refine tp_i (y := nI (k / 256)) (pk_shrN hk _ 8 (by decide)) ?_
  exact ri_ret hx hb hr hlocks (rfl) dX0_actorOf_4

set_option maxHeartbeats 4000000 in
set_option maxRecDepth 100000 in
theorem k_seqOf (l : Launch) (k : Nat) : Met l yX0_seqOf wsX0_seqOf ({ frames := 0, cells := 0, slots := 0, locals := 0 }) (fun v _ => v = ([.int (nI k)] : List Value).toArray) (QcRead (nI (k % 256))) 0 0 (fun _ => False) := by
  refine Met.ofW (cc := cX0_seqOf) (maxL := 1) (ret := (some .int)) (by decide) rfl ?_
  intro p e s m args below meth c s₁ B hml hv
  have hargs : args = ([.int (nI k)] : List Value).toArray := hv
  have hx := B.exec
  have hb := B.bytes
  have hr := B.returns
  have hts := atoms_spec (ws := wsX0_seqOf) B.pre
  have hown : s.vm.findClass RX0 = some m.cls := findClass_of_methodNamed B.named
  have hlocks := B.notSynchronized
  have hl := lv_entry ([.int (nI k)]) (n := 1) (Nat.le_of_ble_eq_true rfl)
  have hE : entryFrame m args 1 = F0 m 0 ((lg_sl ([.int (nI k)]) ++ List.replicate (1 - (lg_sl ([.int (nI k)])).length) Slot.unset).toArray) [] := by rw [hargs]; exact lg_entry_eq m ([.int (nI k)]) 1
  rw [hE]
  generalize (lg_sl ([.int (nI k)]) ++ List.replicate (1 - (lg_sl ([.int (nI k)])).length) Slot.unset).toArray = ls at hl ⊢
  have hl : lv_has ls 1 [(0, .int (nI k))] := hl
  refine lv_iload_n hx hb dX0_seqOf_0 rfl (lv_at hl 0 rfl) ?_
  refine lv_sipush (v := 255) hx hb dX0_seqOf_1 (by decide) ?_
  refine lv_iand hx hb dX0_seqOf_4 ?_
  refine tp_i (y := nI (k % 256)) (nI_and255 k) ?_
  exact ri_ret hx hb hr hlocks (rfl) dX0_seqOf_5

set_option maxHeartbeats 4000000 in
set_option maxRecDepth 100000 in
theorem k_byteOf (l : Launch) (ck : Int64) (a : Nat) (ha : a < 8) : Met l yX0_byteOf wsX0_byteOf ({ frames := 0, cells := 0, slots := 0, locals := 0 }) (fun v _ => v = ([.long ck, .int (nI a)] : List Value).toArray) (QcRead (nI (by_ ck a))) 0 0 (fun _ => False) := by
  refine Met.ofW (cc := cX0_byteOf) (maxL := 3) (ret := (some .int)) (by decide) rfl ?_
  intro p e s m args below meth c s₁ B hml hv
  have hargs : args = ([.long ck, .int (nI a)] : List Value).toArray := hv
  have hx := B.exec
  have hb := B.bytes
  have hr := B.returns
  have hts := atoms_spec (ws := wsX0_byteOf) B.pre
  have hown : s.vm.findClass RX0 = some m.cls := findClass_of_methodNamed B.named
  have hlocks := B.notSynchronized
  have hl := lv_entry ([.long ck, .int (nI a)]) (n := 3) (Nat.le_of_ble_eq_true rfl)
  have hE : entryFrame m args 3 = F0 m 0 ((lg_sl ([.long ck, .int (nI a)]) ++ List.replicate (3 - (lg_sl ([.long ck, .int (nI a)])).length) Slot.unset).toArray) [] := by rw [hargs]; exact lg_entry_eq m ([.long ck, .int (nI a)]) 3
  rw [hE]
  generalize (lg_sl ([.long ck, .int (nI a)]) ++ List.replicate (3 - (lg_sl ([.long ck, .int (nI a)])).length) Slot.unset).toArray = ls at hl ⊢
  have hl : lv_has ls 3 [(0, .long ck), (2, .int (nI a))] := hl
  refine lv_lload_n hx hb dX0_byteOf_0 rfl (lv_at hl 0 rfl) ?_
  refine lv_bipush (v := 8) hx hb dX0_byteOf_1 (by decide) ?_
  refine lv_iload_n hx hb dX0_byteOf_3 rfl (lv_at hl 1 rfl) ?_
  refine lv_imul hx hb dX0_byteOf_4 ?_
  refine tp_i (y := nI (8 * a)) (pk_mul 8 a) ?_
  refine lv_lushr (v := (ck.toUInt64 >>> ((nI (8 * a)).toInt64.toUInt64 &&& Int64.toUInt64 63)).toInt64) hx hb dX0_byteOf_5 (rfl) ?_
  refine lv_l2i (v := ((ck.toUInt64 >>> ((nI (8 * a)).toInt64.toUInt64 &&& Int64.toUInt64 63)).toInt64).toInt32) hx hb dX0_byteOf_6 (rfl) ?_
  refine lv_sipush (v := 255) hx hb dX0_byteOf_7 (by decide) ?_
  refine lv_iand hx hb dX0_byteOf_10 ?_
  refine tp_i (y := nI (by_ ck a)) (by_eq ck ha) ?_
  exact ri_ret hx hb hr hlocks (rfl) dX0_byteOf_11

set_option maxRecDepth 20000 in
theorem in_X0_nextSeq_X0 : ∀ w ∈ wsX00, w ∈ wsX0_nextSeq := by decide +kernel

set_option maxHeartbeats 4000000 in
set_option maxRecDepth 100000 in
theorem k_nextSeq (l : Launch) (dC : Nat → ClassId) (dI : Nat → Nat → Nat) (ca : Nat → ClassId) (h0 a0 a1 a2 a3 a4 : Nat) (t : TF) (tn : Nat) (w : WF) (wn : Nat) (g : Int64) (ko mw : Nat) (a : Nat) (ha : a < 8) : Met l yX0_nextSeq wsX0_nextSeq ({ frames := 1, cells := 0, slots := 0, locals := 22 }) (Pr [.ref h0, .int (nI a)] (dC, dI) clS [(ca 0, .int), (ca 1, .int), (ca 2, .int), (ca 3, .long), (ca 4, .int)] [(h0, .inr (0, [.ref a0, .ref a1, .int (nI tn), .ref a2, .ref a3, .ref a4, .int (nI wn), .long g, .int (nI ko), .int (nI mw)])), (a0, .inl (ca 0, 512, .inl (fun z9 => nI (t z9).1))), (a1, .inl (ca 1, 512, .inl (fun z9 => (t z9).2))), (a2, .inl (ca 2, 65, .inl (fun z9 => nI (w z9).1))), (a3, .inl (ca 3, 65, .inr (.inl (fun z9 => (w z9).2.1)))), (a4, .inl (ca 4, 65, .inl (fun z9 => (w z9).2.2)))]) (QcRead (nI (by_ g a + 1))) 0 0 (fun _ => False) := by
  refine Met.ofW (cc := cX0_nextSeq) (maxL := 2) (ret := (some .int)) (by decide) rfl ?_
  intro p e s m args below meth c s₁ B hml hv
  obtain ⟨hargs, hP, hK⟩ := hv
  have hx := B.exec
  have hb := B.bytes
  have hr := B.returns
  have hts := atoms_spec (ws := wsX0_nextSeq) B.pre
  have hown : s.vm.findClass RX0 = some m.cls := findClass_of_methodNamed B.named
  have hlocks := B.notSynchronized
  have hP : va_P (dC, dI) clS [(h0, .inr (0, [.ref a0, .ref a1, .int (nI tn), .ref a2, .ref a3, .ref a4, .int (nI wn), .long g, .int (nI ko), .int (nI mw)])), (a0, .inl (ca 0, 512, .inl (fun z9 => nI (t z9).1))), (a1, .inl (ca 1, 512, .inl (fun z9 => (t z9).2))), (a2, .inl (ca 2, 65, .inl (fun z9 => nI (w z9).1))), (a3, .inl (ca 3, 65, .inr (.inl (fun z9 => (w z9).2.1)))), (a4, .inl (ca 4, 65, .inl (fun z9 => (w z9).2.2)))] s.heap := hP
  have hl := lv_entry ([.ref h0, .int (nI a)]) (n := 2) (Nat.le_of_ble_eq_true rfl)
  have hE : entryFrame m args 2 = F0 m 0 ((lg_sl ([.ref h0, .int (nI a)]) ++ List.replicate (2 - (lg_sl ([.ref h0, .int (nI a)])).length) Slot.unset).toArray) [] := by rw [hargs]; exact lg_entry_eq m ([.ref h0, .int (nI a)]) 2
  rw [hE]
  generalize (lg_sl ([.ref h0, .int (nI a)]) ++ List.replicate (2 - (lg_sl ([.ref h0, .int (nI a)])).length) Slot.unset).toArray = ls at hl ⊢
  have hl : lv_has ls 2 [(0, .ref h0), (1, .int (nI a))] := hl
  refine lv_aload_n hx hb dX0_nextSeq_0 rfl (lv_at hl 0 rfl) ?_
  refine va_get (D := (dC, dI)) (ci := 0) (v := .long g) (C := RX0) (T := TX0) (N := 10) hx hb hts in_X0_nextSeq_X0 hown hK hP 0 rfl rfl 7 (by decide) (hts (.fieldLink RX0 33 "CausalGate" "gateClock" "J") (by decide +kernel)) (fun _ h9 => h9) rfl dX0_nextSeq_1 ?_
  refine lv_iload_n hx hb dX0_nextSeq_4 rfl (lv_at hl 1 rfl) ?_
  refine rd_i (W.runS (As := [.long g, .int (nI a)]) (rest := []) ⟨hx, hb, hml, hown, hts⟩ (k_byteOf l g a (by omega)) (va_cwS 2 hts gX0_nextSeq_X0_byteOf rfl rfl rfl (by decide +kernel) ⟨Nat.le_of_ble_eq_true rfl, Nat.le_of_ble_eq_true rfl⟩) preEq rfl rfl hl.1 rfl (lv_room (Nat.le_of_ble_eq_true rfl)) dX0_nextSeq_5 ⟨Nat.zero_le _, Nat.zero_le _⟩) ?_
  refine lv_iconst (v := 1) hx hb dX0_nextSeq_8 (by decide) ?_
  refine lv_iadd hx hb dX0_nextSeq_9 ?_
  refine tp_i (y := nI (by_ g a + 1)) (nI_1 _) ?_
  exact ri_ret hx hb hr hlocks (rfl) dX0_nextSeq_10

set_option maxRecDepth 20000 in
theorem in_X0_isKnown_X0 : ∀ w ∈ wsX00, w ∈ wsX0_isKnown := by decide +kernel

set_option maxHeartbeats 4000000 in
set_option maxRecDepth 100000 in
theorem k_isKnown (l : Launch) (dC : Nat → ClassId) (dI : Nat → Nat → Nat) (ca : Nat → ClassId) (h0 a0 a1 a2 a3 a4 : Nat) (t : TF) (tn : Nat) (w : WF) (wn : Nat) (g : Int64) (ko mw : Nat) (hwn : wn ≤ 65) (hw : ∀ j, j < wn → (w j).1 < 2048) (k : Nat) (hk : k < 2048) : Met l yX0_isKnown wsX0_isKnown ({ frames := 2, cells := 0, slots := 0, locals := 43 }) (Pr [.ref h0, .int (nI k)] (dC, dI) clS [(ca 0, .int), (ca 1, .int), (ca 2, .int), (ca 3, .long), (ca 4, .int)] [(h0, .inr (0, [.ref a0, .ref a1, .int (nI tn), .ref a2, .ref a3, .ref a4, .int (nI wn), .long g, .int (nI ko), .int (nI mw)])), (a0, .inl (ca 0, 512, .inl (fun z9 => nI (t z9).1))), (a1, .inl (ca 1, 512, .inl (fun z9 => (t z9).2))), (a2, .inl (ca 2, 65, .inl (fun z9 => nI (w z9).1))), (a3, .inl (ca 3, 65, .inr (.inl (fun z9 => (w z9).2.1)))), (a4, .inl (ca 4, 65, .inl (fun z9 => (w z9).2.2)))]) (QcRead (bI (kn g w wn k))) 0 0 (fun _ => False) := by
  refine Met.ofW (cc := cX0_isKnown) (maxL := 3) (ret := (some .boolean)) (by decide) rfl ?_
  intro p e s m args below meth c s₁ B hml hv
  obtain ⟨hargs, hP, hK⟩ := hv
  have hx := B.exec
  have hb := B.bytes
  have hr := B.returns
  have hts := atoms_spec (ws := wsX0_isKnown) B.pre
  have hown : s.vm.findClass RX0 = some m.cls := findClass_of_methodNamed B.named
  have hlocks := B.notSynchronized
  have hP : va_P (dC, dI) clS [(h0, .inr (0, [.ref a0, .ref a1, .int (nI tn), .ref a2, .ref a3, .ref a4, .int (nI wn), .long g, .int (nI ko), .int (nI mw)])), (a0, .inl (ca 0, 512, .inl (fun z9 => nI (t z9).1))), (a1, .inl (ca 1, 512, .inl (fun z9 => (t z9).2))), (a2, .inl (ca 2, 65, .inl (fun z9 => nI (w z9).1))), (a3, .inl (ca 3, 65, .inr (.inl (fun z9 => (w z9).2.1)))), (a4, .inl (ca 4, 65, .inl (fun z9 => (w z9).2.2)))] s.heap := hP
  have hl := lv_entry ([.ref h0, .int (nI k)]) (n := 3) (Nat.le_of_ble_eq_true rfl)
  have hE : entryFrame m args 3 = F0 m 0 ((lg_sl ([.ref h0, .int (nI k)]) ++ List.replicate (3 - (lg_sl ([.ref h0, .int (nI k)])).length) Slot.unset).toArray) [] := by rw [hargs]; exact lg_entry_eq m ([.ref h0, .int (nI k)]) 3
  rw [hE]
  generalize (lg_sl ([.ref h0, .int (nI k)]) ++ List.replicate (3 - (lg_sl ([.ref h0, .int (nI k)])).length) Slot.unset).toArray = ls at hl ⊢
  have hl : lv_has ls 3 [(0, .ref h0), (1, .int (nI k))] := hl
  refine lv_iload_n hx hb dX0_isKnown_0 rfl (lv_at hl 1 rfl) ?_
  refine rd_i (W.runS (As := [.int (nI k)]) (rest := []) ⟨hx, hb, hml, hown, hts⟩ (k_seqOf l k) (va_cwS 1 hts gX0_isKnown_X0_seqOf rfl rfl rfl (by decide +kernel) ⟨Nat.le_of_ble_eq_true rfl, Nat.le_of_ble_eq_true rfl⟩) preEq rfl rfl hl.1 rfl (lv_room (Nat.le_of_ble_eq_true rfl)) dX0_isKnown_1 ⟨Nat.zero_le _, Nat.zero_le _⟩) ?_
  refine lv_aload_n hx hb dX0_isKnown_4 rfl (lv_at hl 0 rfl) ?_
  refine lv_iload_n hx hb dX0_isKnown_5 rfl (lv_at hl 1 rfl) ?_
  refine rd_i (W.runS (As := [.int (nI k)]) (rest := [.ref h0, .int (nI (k % 256))]) ⟨hx, hb, hml, hown, hts⟩ (k_actorOf l k (by omega)) (va_cwS 1 hts gX0_isKnown_X0_actorOf rfl rfl rfl (by decide +kernel) ⟨Nat.le_of_ble_eq_true rfl, Nat.le_of_ble_eq_true rfl⟩) preEq rfl rfl hl.1 rfl (lv_room (Nat.le_of_ble_eq_true rfl)) dX0_isKnown_6 ⟨Nat.zero_le _, Nat.zero_le _⟩) ?_
  refine rd_i (W.runV (As := [.int (nI (k / 256))]) (rest := [.int (nI (k % 256))]) ⟨hx, hb, hml, hown, hts⟩ (k_nextSeq l dC dI ca h0 a0 a1 a2 a3 a4 t tn w wn g ko mw (k / 256) (by omega)) (cwV 1 hts gX0_isKnown_X0_nextSeq rfl rfl rfl (by decide +kernel) ⟨Nat.le_of_ble_eq_true rfl, Nat.le_of_ble_eq_true rfl⟩) (pr_V (ci := 0) (q0 := 0) hK hP rfl rfl) rfl rfl hl.1 rfl (lv_room (Nat.le_of_ble_eq_true rfl)) dX0_isKnown_9 ⟨Nat.zero_le _, Nat.zero_le _⟩) ?_
  refine lv_icmp_ge (tgt := 17) hx hb dX0_isKnown_12 (by decide) (fun c_12 => ?_) (fun c_12 => ?_)
  · have c9 : ¬ k % 256 < by_ g (k / 256) + 1 := Nat.not_lt.mpr ((nI_leI (by have := by_lt g (k / 256); omega) (by omega)).mp c_12)
    refine lv_iconst (v := 0) hx hb dX0_isKnown_17 (by decide) ?_
    refine tp_i (y := nI 0) (nI_0.symm) ?_
    refine lv_istore_n (lv' := [(2, .int (nI 0)), (0, .ref h0), (1, .int (nI k))]) hx hb dX0_isKnown_18 rfl hl (by decide) rfl (fun ls hl => ?_)
    have loop : ∀ (n : Nat) (j : Nat), j + n = wn → knS w k n j = kn g w wn k → ∀ ls : Array Slot, lv_has ls 3 [(0, .ref h0), (1, .int (nI k)), (2, .int (nI j))] → W p l e (headSpec wsX0_isKnown ({ frames := 2, cells := 0, slots := 0, locals := 43 })).room s m args below meth c s.heap [] 0 0 (MQ below (QcRead (bI (kn g w wn k))) args s 0 0 (fun _ => False)) (F0 m 19 ls []) := by
      intro n
      induction n with
      | zero =>
        intro j hj hk9 ls hl
        refine lv_iload_n hx hb dX0_isKnown_19 rfl (lv_at hl 2 rfl) ?_
        refine lv_aload_n hx hb dX0_isKnown_20 rfl (lv_at hl 0 rfl) ?_
        refine va_get (D := (dC, dI)) (ci := 0) (v := .int (nI wn)) (C := RX0) (T := TX0) (N := 10) hx hb hts in_X0_isKnown_X0 hown hK hP 0 rfl rfl 6 (by decide) (hts (.fieldLink RX0 30 "CausalGate" "waitCount" "I") (by decide +kernel)) (fun _ h9 => h9) rfl dX0_isKnown_21 ?_
        refine lv_icmp_ge (tgt := 45) hx hb dX0_isKnown_24 (by decide) (fun c_24 => ?_) (fun c_24 => ?_)
        · refine lv_iconst (v := 0) hx hb dX0_isKnown_45 (by decide) ?_
          exact rz_ret hx hb hr hlocks (rfl) (by rw [← hk9]; rfl) dX0_isKnown_46
        · exact absurd (nI_le (by omega) (by omega)) c_24
      | succ n ih =>
        intro j hj hk9 ls hl
        refine lv_iload_n hx hb dX0_isKnown_19 rfl (lv_at hl 2 rfl) ?_
        refine lv_aload_n hx hb dX0_isKnown_20 rfl (lv_at hl 0 rfl) ?_
        refine va_get (D := (dC, dI)) (ci := 0) (v := .int (nI wn)) (C := RX0) (T := TX0) (N := 10) hx hb hts in_X0_isKnown_X0 hown hK hP 0 rfl rfl 6 (by decide) (hts (.fieldLink RX0 30 "CausalGate" "waitCount" "I") (by decide +kernel)) (fun _ h9 => h9) rfl dX0_isKnown_21 ?_
        refine lv_icmp_ge (tgt := 45) hx hb dX0_isKnown_24 (by decide) (fun c_24 => ?_) (fun c_24 => ?_)
        · exact absurd ((nI_leI (by omega) (by omega)).mp c_24) (by omega)
        · refine lv_aload_n hx hb dX0_isKnown_27 rfl (lv_at hl 0 rfl) ?_
          refine va_get (D := (dC, dI)) (ci := 0) (v := .ref a2) (C := RX0) (T := TX0) (N := 10) hx hb hts in_X0_isKnown_X0 hown hK hP 0 rfl rfl 3 (by decide) (hts (.fieldLink RX0 16 "CausalGate" "waitKeys" "[I") (by decide +kernel)) (fun _ h9 => h9) rfl dX0_isKnown_28 ?_
          refine lv_iload_n hx hb dX0_isKnown_31 rfl (lv_at hl 2 rfl) ?_
          have hwj := hw _ (show j < wn by omega)
          refine va_iald hx hb hK hP 3 2 rfl rfl (vp_in_nI (by omega) (by decide)) dX0_isKnown_32 ?_
          refine tp_i (y := nI (w j).1) (by rw [nI_clamp (by omega)]) ?_
          have hwj := hw _ (show j < wn by omega)
          refine lv_iload_n hx hb dX0_isKnown_33 rfl (lv_at hl 1 rfl) ?_
          refine lv_icmp_ne (tgt := 39) hx hb dX0_isKnown_34 (by decide) (fun c_34 => ?_) (fun c_34 => ?_)
          · have c8 : ¬ (w j).1 = k := fun q => c_34 (by rw [q])
            refine lv_iinc (v := (nI (j + 1))) (lv' := [(2, .int (nI (j + 1))), (0, .ref h0), (1, .int (nI k))]) hx hb dX0_isKnown_39 hl (k := 2) rfl (nI_1 j) (by decide) rfl (fun ls hl => ?_)
            refine lv_goto (tgt := 19) hx hb dX0_isKnown_42 (by decide) ?_
            exact ih (j + 1) (by omega) (by rw [← hk9]; simp only [knS]; rw [if_neg c8]) ls (lv_sub hl [1, 2, 0] rfl)
          · have c8 : (w j).1 = k := (nI_eq (by omega) (by omega)).mp c_34
            refine lv_iconst (v := 1) hx hb dX0_isKnown_37 (by decide) ?_
            exact rz_ret hx hb hr hlocks (rfl) (by rw [← hk9]; simp [knS, c8, bI]) dX0_isKnown_38
    exact loop wn 0 (by omega) (by simp [kn, c9]) ls (lv_sub hl [1, 2, 0] rfl)
  · have c9 : k % 256 < by_ g (k / 256) + 1 := Nat.lt_of_not_le fun q => c_12 (nI_le q (by omega))
    refine lv_iconst (v := 1) hx hb dX0_isKnown_15 (by decide) ?_
    exact rz_ret hx hb hr hlocks (rfl) (by simp [kn, c9, bI]) dX0_isKnown_16

set_option maxRecDepth 20000 in
theorem in_X0_lackedActor_X0 : ∀ w ∈ wsX00, w ∈ wsX0_lackedActor := by decide +kernel

set_option maxHeartbeats 4000000 in
set_option maxRecDepth 100000 in
theorem k_lackedActor (l : Launch) (dC : Nat → ClassId) (dI : Nat → Nat → Nat) (ca : Nat → ClassId) (h0 a0 a1 a2 a3 a4 : Nat) (t : TF) (tn : Nat) (w : WF) (wn : Nat) (g : Int64) (ko mw : Nat) (k : Nat) (ck : Int64) (hk : k < 2048) : Met l yX0_lackedActor wsX0_lackedActor ({ frames := 2, cells := 0, slots := 0, locals := 43 }) (Pr [.ref h0, .int (nI k), .long ck] (dC, dI) clS [(ca 0, .int), (ca 1, .int), (ca 2, .int), (ca 3, .long), (ca 4, .int)] [(h0, .inr (0, [.ref a0, .ref a1, .int (nI tn), .ref a2, .ref a3, .ref a4, .int (nI wn), .long g, .int (nI ko), .int (nI mw)])), (a0, .inl (ca 0, 512, .inl (fun z9 => nI (t z9).1))), (a1, .inl (ca 1, 512, .inl (fun z9 => (t z9).2))), (a2, .inl (ca 2, 65, .inl (fun z9 => nI (w z9).1))), (a3, .inl (ca 3, 65, .inr (.inl (fun z9 => (w z9).2.1)))), (a4, .inl (ca 4, 65, .inl (fun z9 => (w z9).2.2)))]) (QcRead (oI (lk g k ck))) 0 0 (fun _ => False) := by
  refine Met.ofW (cc := cX0_lackedActor) (maxL := 6) (ret := (some .int)) (by decide) rfl ?_
  intro p e s m args below meth c s₁ B hml hv
  obtain ⟨hargs, hP, hK⟩ := hv
  have hx := B.exec
  have hb := B.bytes
  have hr := B.returns
  have hts := atoms_spec (ws := wsX0_lackedActor) B.pre
  have hown : s.vm.findClass RX0 = some m.cls := findClass_of_methodNamed B.named
  have hlocks := B.notSynchronized
  have hP : va_P (dC, dI) clS [(h0, .inr (0, [.ref a0, .ref a1, .int (nI tn), .ref a2, .ref a3, .ref a4, .int (nI wn), .long g, .int (nI ko), .int (nI mw)])), (a0, .inl (ca 0, 512, .inl (fun z9 => nI (t z9).1))), (a1, .inl (ca 1, 512, .inl (fun z9 => (t z9).2))), (a2, .inl (ca 2, 65, .inl (fun z9 => nI (w z9).1))), (a3, .inl (ca 3, 65, .inr (.inl (fun z9 => (w z9).2.1)))), (a4, .inl (ca 4, 65, .inl (fun z9 => (w z9).2.2)))] s.heap := hP
  have hl := lv_entry ([.ref h0, .int (nI k), .long ck]) (n := 6) (Nat.le_of_ble_eq_true rfl)
  have hE : entryFrame m args 6 = F0 m 0 ((lg_sl ([.ref h0, .int (nI k), .long ck]) ++ List.replicate (6 - (lg_sl ([.ref h0, .int (nI k), .long ck])).length) Slot.unset).toArray) [] := by rw [hargs]; exact lg_entry_eq m ([.ref h0, .int (nI k), .long ck]) 6
  rw [hE]
  generalize (lg_sl ([.ref h0, .int (nI k), .long ck]) ++ List.replicate (6 - (lg_sl ([.ref h0, .int (nI k), .long ck])).length) Slot.unset).toArray = ls at hl ⊢
  have hl : lv_has ls 6 [(0, .ref h0), (1, .int (nI k)), (2, .long ck)] := hl
  refine lv_iload_n hx hb dX0_lackedActor_0 rfl (lv_at hl 1 rfl) ?_
  refine rd_i (W.runS (As := [.int (nI k)]) (rest := []) ⟨hx, hb, hml, hown, hts⟩ (k_actorOf l k (by omega)) (va_cwS 1 hts gX0_lackedActor_X0_actorOf rfl rfl rfl (by decide +kernel) ⟨Nat.le_of_ble_eq_true rfl, Nat.le_of_ble_eq_true rfl⟩) preEq rfl rfl hl.1 rfl (lv_room (Nat.le_of_ble_eq_true rfl)) dX0_lackedActor_1 ⟨Nat.zero_le _, Nat.zero_le _⟩) ?_
  refine lv_istore (lv' := [(4, .int (nI (k / 256))), (0, .ref h0), (1, .int (nI k)), (2, .long ck)]) hx hb dX0_lackedActor_4 hl (by decide) rfl (fun ls hl => ?_)
  refine lv_iload_n hx hb dX0_lackedActor_6 rfl (lv_at hl 2 rfl) ?_
  refine rd_i (W.runS (As := [.int (nI k)]) (rest := []) ⟨hx, hb, hml, hown, hts⟩ (k_seqOf l k) (va_cwS 1 hts gX0_lackedActor_X0_seqOf rfl rfl rfl (by decide +kernel) ⟨Nat.le_of_ble_eq_true rfl, Nat.le_of_ble_eq_true rfl⟩) preEq rfl rfl hl.1 rfl (lv_room (Nat.le_of_ble_eq_true rfl)) dX0_lackedActor_7 ⟨Nat.zero_le _, Nat.zero_le _⟩) ?_
  refine lv_aload_n hx hb dX0_lackedActor_10 rfl (lv_at hl 1 rfl) ?_
  refine lv_iload hx hb dX0_lackedActor_11 (lv_at hl 0 rfl) ?_
  refine rd_i (W.runV (As := [.int (nI (k / 256))]) (rest := [.int (nI (k % 256))]) ⟨hx, hb, hml, hown, hts⟩ (k_nextSeq l dC dI ca h0 a0 a1 a2 a3 a4 t tn w wn g ko mw (k / 256) (by omega)) (cwV 1 hts gX0_lackedActor_X0_nextSeq rfl rfl rfl (by decide +kernel) ⟨Nat.le_of_ble_eq_true rfl, Nat.le_of_ble_eq_true rfl⟩) (pr_V (ci := 0) (q0 := 0) hK hP rfl rfl) rfl rfl hl.1 rfl (lv_room (Nat.le_of_ble_eq_true rfl)) dX0_lackedActor_13 ⟨Nat.zero_le _, Nat.zero_le _⟩) ?_
  refine lv_icmp_eq (tgt := 22) hx hb dX0_lackedActor_16 (by decide) (fun c_16 => ?_) (fun c_16 => ?_)
  · have c9 : k % 256 = by_ g (k / 256) + 1 := (nI_eq (by omega) (by have := by_lt g (k / 256); omega)).mp c_16
    refine lv_iconst (v := 0) hx hb dX0_lackedActor_22 (by decide) ?_
    refine tp_i (y := nI 0) (nI_0.symm) ?_
    refine lv_istore (lv' := [(5, .int (nI 0)), (4, .int (nI (k / 256))), (0, .ref h0), (1, .int (nI k)), (2, .long ck)]) hx hb dX0_lackedActor_23 hl (by decide) rfl (fun ls hl => ?_)
    have loop : ∀ (n : Nat) (a : Nat), a + n = 8 → lkS g ck (k / 256) n a = lk g k ck → ∀ ls : Array Slot, lv_has ls 6 [(0, .ref h0), (1, .int (nI k)), (2, .long ck), (4, .int (nI (k / 256))), (5, .int (nI a))] → W p l e (headSpec wsX0_lackedActor ({ frames := 2, cells := 0, slots := 0, locals := 43 })).room s m args below meth c s.heap [] 0 0 (MQ below (QcRead (oI (lk g k ck))) args s 0 0 (fun _ => False)) (F0 m 25 ls []) := by
      intro n
      induction n with
      | zero =>
        intro a ha hk9 ls hl
        refine lv_iload hx hb dX0_lackedActor_25 (lv_at hl 4 rfl) ?_
        refine lv_bipush (v := 8) hx hb dX0_lackedActor_27 (by decide) ?_
        refine tp_i (y := nI 8) (rfl) ?_
        refine lv_icmp_ge (tgt := 66) hx hb dX0_lackedActor_29 (by decide) (fun c_29 => ?_) (fun c_29 => ?_)
        · refine lv_iconst (v := -1) hx hb dX0_lackedActor_66 (by decide) ?_
          exact ri_ret hx hb hr hlocks (by rw [← hk9]; rfl) dX0_lackedActor_67
        · exact absurd (nI_le (by omega) (by omega)) c_29
      | succ n ih =>
        intro a ha hk9 ls hl
        refine lv_iload hx hb dX0_lackedActor_25 (lv_at hl 4 rfl) ?_
        refine lv_bipush (v := 8) hx hb dX0_lackedActor_27 (by decide) ?_
        refine tp_i (y := nI 8) (rfl) ?_
        refine lv_icmp_ge (tgt := 66) hx hb dX0_lackedActor_29 (by decide) (fun c_29 => ?_) (fun c_29 => ?_)
        · exact absurd ((nI_leI (by omega) (by omega)).mp c_29) (by omega)
        · refine lv_iload hx hb dX0_lackedActor_32 (lv_at hl 4 rfl) ?_
          refine lv_iload hx hb dX0_lackedActor_34 (lv_at hl 3 rfl) ?_
          refine lv_icmp_eq (tgt := 60) hx hb dX0_lackedActor_36 (by decide) (fun c_36 => ?_) (fun c_36 => ?_)
          · have c7 : ¬ (a ≠ k / 256 ∧ by_ g a < by_ ck a) := fun q => q.1 ((nI_eq (by omega) (by omega)).mp c_36)
            refine lv_iinc (v := (nI (a + 1))) (lv' := [(5, .int (nI (a + 1))), (0, .ref h0), (1, .int (nI k)), (2, .long ck), (4, .int (nI (k / 256)))]) hx hb dX0_lackedActor_60 hl (k := 4) rfl (nI_1 a) (by decide) rfl (fun ls hl => ?_)
            refine lv_goto (tgt := 25) hx hb dX0_lackedActor_63 (by decide) ?_
            exact ih (a + 1) (by omega) (by rw [← hk9]; simp only [lkS]; rw [if_neg c7]) ls (lv_sub hl [1, 2, 3, 4, 0] rfl)
          · have c8 : a ≠ k / 256 := fun q => c_36 (by rw [q])
            refine lv_lload_n hx hb dX0_lackedActor_39 rfl (lv_at hl 2 rfl) ?_
            refine lv_iload hx hb dX0_lackedActor_40 (lv_at hl 4 rfl) ?_
            refine rd_i (W.runS (As := [.long ck, .int (nI a)]) (rest := []) ⟨hx, hb, hml, hown, hts⟩ (k_byteOf l ck a (by omega)) (va_cwS 2 hts gX0_lackedActor_X0_byteOf rfl rfl rfl (by decide +kernel) ⟨Nat.le_of_ble_eq_true rfl, Nat.le_of_ble_eq_true rfl⟩) preEq rfl rfl hl.1 rfl (lv_room (Nat.le_of_ble_eq_true rfl)) dX0_lackedActor_42 ⟨Nat.zero_le _, Nat.zero_le _⟩) ?_
            refine lv_aload_n hx hb dX0_lackedActor_45 rfl (lv_at hl 0 rfl) ?_
            refine va_get (D := (dC, dI)) (ci := 0) (v := .long g) (C := RX0) (T := TX0) (N := 10) hx hb hts in_X0_lackedActor_X0 hown hK hP 0 rfl rfl 7 (by decide) (hts (.fieldLink RX0 33 "CausalGate" "gateClock" "J") (by decide +kernel)) (fun _ h9 => h9) rfl dX0_lackedActor_46 ?_
            refine lv_iload hx hb dX0_lackedActor_49 (lv_at hl 4 rfl) ?_
            refine rd_i (W.runS (As := [.long g, .int (nI a)]) (rest := [.int (nI (by_ ck a))]) ⟨hx, hb, hml, hown, hts⟩ (k_byteOf l g a (by omega)) (va_cwS 2 hts gX0_lackedActor_X0_byteOf rfl rfl rfl (by decide +kernel) ⟨Nat.le_of_ble_eq_true rfl, Nat.le_of_ble_eq_true rfl⟩) preEq rfl rfl hl.1 rfl (lv_room (Nat.le_of_ble_eq_true rfl)) dX0_lackedActor_51 ⟨Nat.zero_le _, Nat.zero_le _⟩) ?_
            refine lv_icmp_le (tgt := 60) hx hb dX0_lackedActor_54 (by decide) (fun c_54 => ?_) (fun c_54 => ?_)
            · have c7 : ¬ (a ≠ k / 256 ∧ by_ g a < by_ ck a) := fun q => absurd ((nI_leI (by have := by_lt ck a; omega) (by have := by_lt g a; omega)).mp c_54) (by have := q.2; omega)
              refine lv_iinc (v := (nI (a + 1))) (lv' := [(5, .int (nI (a + 1))), (0, .ref h0), (1, .int (nI k)), (2, .long ck), (4, .int (nI (k / 256)))]) hx hb dX0_lackedActor_60 hl (k := 4) rfl (nI_1 a) (by decide) rfl (fun ls hl => ?_)
              refine lv_goto (tgt := 25) hx hb dX0_lackedActor_63 (by decide) ?_
              exact ih (a + 1) (by omega) (by rw [← hk9]; simp only [lkS]; rw [if_neg c7]) ls (lv_sub hl [1, 2, 3, 4, 0] rfl)
            · have c7 : a ≠ k / 256 ∧ by_ g a < by_ ck a := ⟨c8, Nat.lt_of_not_le fun q => c_54 (nI_le q (by have := by_lt g a; omega))⟩
              refine lv_iload hx hb dX0_lackedActor_57 (lv_at hl 4 rfl) ?_
              exact ri_ret hx hb hr hlocks (by rw [← hk9]; simp only [lkS]; rw [if_pos c7]; rfl) dX0_lackedActor_59
    exact loop 8 0 (by omega) (by simp [lk, c9]) ls (lv_sub hl [2, 3, 4, 1, 0] rfl)
  · have c9 : ¬ k % 256 = by_ g (k / 256) + 1 := fun q => c_16 (by rw [q])
    refine lv_iload hx hb dX0_lackedActor_19 (lv_at hl 0 rfl) ?_
    exact ri_ret hx hb hr hlocks (by simp [lk, c9, oI]) dX0_lackedActor_21

set_option maxRecDepth 20000 in
theorem in_X0_canComeThrough_X0 : ∀ w ∈ wsX00, w ∈ wsX0_canComeThrough := by decide +kernel

set_option maxHeartbeats 4000000 in
set_option maxRecDepth 100000 in
theorem k_canComeThrough (l : Launch) (dC : Nat → ClassId) (dI : Nat → Nat → Nat) (ca : Nat → ClassId) (h0 a0 a1 a2 a3 a4 : Nat) (t : TF) (tn : Nat) (w : WF) (wn : Nat) (g : Int64) (ko mw : Nat) (k : Nat) (ck : Int64) (hk : k < 2048) (htn : tn ≤ 512) : Met l yX0_canComeThrough wsX0_canComeThrough ({ frames := 3, cells := 0, slots := 0, locals := 68 }) (Pr [.ref h0, .int (nI k), .long ck] (dC, dI) clS [(ca 0, .int), (ca 1, .int), (ca 2, .int), (ca 3, .long), (ca 4, .int)] [(h0, .inr (0, [.ref a0, .ref a1, .int (nI tn), .ref a2, .ref a3, .ref a4, .int (nI wn), .long g, .int (nI ko), .int (nI mw)])), (a0, .inl (ca 0, 512, .inl (fun z9 => nI (t z9).1))), (a1, .inl (ca 1, 512, .inl (fun z9 => (t z9).2))), (a2, .inl (ca 2, 65, .inl (fun z9 => nI (w z9).1))), (a3, .inl (ca 3, 65, .inr (.inl (fun z9 => (w z9).2.1)))), (a4, .inl (ca 4, 65, .inl (fun z9 => (w z9).2.2)))]) (QcRead (bI (cn tn g k ck))) 0 0 (fun _ => False) := by
  refine Met.ofW (cc := cX0_canComeThrough) (maxL := 4) (ret := (some .boolean)) (by decide) rfl ?_
  intro p e s m args below meth c s₁ B hml hv
  obtain ⟨hargs, hP, hK⟩ := hv
  have hx := B.exec
  have hb := B.bytes
  have hr := B.returns
  have hts := atoms_spec (ws := wsX0_canComeThrough) B.pre
  have hown : s.vm.findClass RX0 = some m.cls := findClass_of_methodNamed B.named
  have hlocks := B.notSynchronized
  have hP : va_P (dC, dI) clS [(h0, .inr (0, [.ref a0, .ref a1, .int (nI tn), .ref a2, .ref a3, .ref a4, .int (nI wn), .long g, .int (nI ko), .int (nI mw)])), (a0, .inl (ca 0, 512, .inl (fun z9 => nI (t z9).1))), (a1, .inl (ca 1, 512, .inl (fun z9 => (t z9).2))), (a2, .inl (ca 2, 65, .inl (fun z9 => nI (w z9).1))), (a3, .inl (ca 3, 65, .inr (.inl (fun z9 => (w z9).2.1)))), (a4, .inl (ca 4, 65, .inl (fun z9 => (w z9).2.2)))] s.heap := hP
  have hl := lv_entry ([.ref h0, .int (nI k), .long ck]) (n := 4) (Nat.le_of_ble_eq_true rfl)
  have hE : entryFrame m args 4 = F0 m 0 ((lg_sl ([.ref h0, .int (nI k), .long ck]) ++ List.replicate (4 - (lg_sl ([.ref h0, .int (nI k), .long ck])).length) Slot.unset).toArray) [] := by rw [hargs]; exact lg_entry_eq m ([.ref h0, .int (nI k), .long ck]) 4
  rw [hE]
  generalize (lg_sl ([.ref h0, .int (nI k), .long ck]) ++ List.replicate (4 - (lg_sl ([.ref h0, .int (nI k), .long ck])).length) Slot.unset).toArray = ls at hl ⊢
  have hl : lv_has ls 4 [(0, .ref h0), (1, .int (nI k)), (2, .long ck)] := hl
  refine lv_aload_n hx hb dX0_canComeThrough_0 rfl (lv_at hl 0 rfl) ?_
  refine va_get (D := (dC, dI)) (ci := 0) (v := .int (nI tn)) (C := RX0) (T := TX0) (N := 10) hx hb hts in_X0_canComeThrough_X0 hown hK hP 0 rfl rfl 2 (by decide) (hts (.fieldLink RX0 26 "CausalGate" "throughCount" "I") (by decide +kernel)) (fun _ h9 => h9) rfl dX0_canComeThrough_1 ?_
  refine lv_sipush (v := 512) hx hb dX0_canComeThrough_4 (by decide) ?_
  refine tp_i (y := nI 512) (rfl) ?_
  refine lv_icmp_ge (tgt := 24) hx hb dX0_canComeThrough_7 (by decide) (fun c_7 => ?_) (fun c_7 => ?_)
  · have c9 : ¬ tn < 512 := Nat.not_lt.mpr ((nI_leI (by omega) (by omega)).mp c_7)
    refine lv_iconst (v := 0) hx hb dX0_canComeThrough_24 (by decide) ?_
    exact rz_ret hx hb hr hlocks (rfl) (by simp [cn, bI, *]) dX0_canComeThrough_25
  · have c9 : tn < 512 := Nat.lt_of_not_le fun q => c_7 (nI_le q (by omega))
    refine lv_aload_n hx hb dX0_canComeThrough_10 rfl (lv_at hl 0 rfl) ?_
    refine lv_iload_n hx hb dX0_canComeThrough_11 rfl (lv_at hl 1 rfl) ?_
    refine lv_lload_n hx hb dX0_canComeThrough_12 rfl (lv_at hl 2 rfl) ?_
    refine rd_i (W.runV (As := [.int (nI k), .long ck]) (rest := []) ⟨hx, hb, hml, hown, hts⟩ (k_lackedActor l dC dI ca h0 a0 a1 a2 a3 a4 t tn w wn g ko mw k ck (by omega)) (cwV 2 hts gX0_canComeThrough_X0_lackedActor rfl rfl rfl (by decide +kernel) ⟨Nat.le_of_ble_eq_true rfl, Nat.le_of_ble_eq_true rfl⟩) (pr_V (ci := 0) (q0 := 0) hK hP rfl rfl) rfl rfl hl.1 rfl (lv_room (Nat.le_of_ble_eq_true rfl)) dX0_canComeThrough_13 ⟨Nat.zero_le _, Nat.zero_le _⟩) ?_
    refine lv_iconst (v := -1) hx hb dX0_canComeThrough_16 (by decide) ?_
    refine lv_icmp_ne (tgt := 24) hx hb dX0_canComeThrough_17 (by decide) (fun c_17 => ?_) (fun c_17 => ?_)
    · have c8 : ¬ lk g k ck = none := fun q => c_17 (by rw [q]; rfl)
      refine lv_iconst (v := 0) hx hb dX0_canComeThrough_24 (by decide) ?_
      exact rz_ret hx hb hr hlocks (rfl) (by simp [cn, bI, *]) dX0_canComeThrough_25
    · have c8 : lk g k ck = none := (oI_m1 (fun a h => Nat.lt_of_lt_of_le (lk_lt hk h) (by decide))).mp c_17
      refine lv_iconst (v := 1) hx hb dX0_canComeThrough_20 (by decide) ?_
      refine lv_goto (tgt := 25) hx hb dX0_canComeThrough_21 (by decide) ?_
      exact rz_ret hx hb hr hlocks (rfl) (by simp [cn, bI, *]) dX0_canComeThrough_25

set_option maxRecDepth 20000 in
theorem in_X0_firstThatCanComeThrough_X0 : ∀ w ∈ wsX00, w ∈ wsX0_firstThatCanComeThrough := by decide +kernel

set_option maxHeartbeats 4000000 in
set_option maxRecDepth 100000 in
theorem k_firstThatCanComeThrough (l : Launch) (dC : Nat → ClassId) (dI : Nat → Nat → Nat) (ca : Nat → ClassId) (h0 a0 a1 a2 a3 a4 : Nat) (t : TF) (tn : Nat) (w : WF) (wn : Nat) (g : Int64) (ko mw : Nat) (hwn : wn ≤ 65) (hw : ∀ j, j < wn → (w j).1 < 2048) (htn : tn ≤ 512) : Met l yX0_firstThatCanComeThrough wsX0_firstThatCanComeThrough ({ frames := 4, cells := 0, slots := 0, locals := 91 }) (Pr [.ref h0] (dC, dI) clS [(ca 0, .int), (ca 1, .int), (ca 2, .int), (ca 3, .long), (ca 4, .int)] [(h0, .inr (0, [.ref a0, .ref a1, .int (nI tn), .ref a2, .ref a3, .ref a4, .int (nI wn), .long g, .int (nI ko), .int (nI mw)])), (a0, .inl (ca 0, 512, .inl (fun z9 => nI (t z9).1))), (a1, .inl (ca 1, 512, .inl (fun z9 => (t z9).2))), (a2, .inl (ca 2, 65, .inl (fun z9 => nI (w z9).1))), (a3, .inl (ca 3, 65, .inr (.inl (fun z9 => (w z9).2.1)))), (a4, .inl (ca 4, 65, .inl (fun z9 => (w z9).2.2)))]) (QcRead (oI (fs tn g w wn 0))) 0 0 (fun _ => False) := by
  refine Met.ofW (cc := cX0_firstThatCanComeThrough) (maxL := 2) (ret := (some .int)) (by decide) rfl ?_
  intro p e s m args below meth c s₁ B hml hv
  obtain ⟨hargs, hP, hK⟩ := hv
  have hx := B.exec
  have hb := B.bytes
  have hr := B.returns
  have hts := atoms_spec (ws := wsX0_firstThatCanComeThrough) B.pre
  have hown : s.vm.findClass RX0 = some m.cls := findClass_of_methodNamed B.named
  have hlocks := B.notSynchronized
  have hP : va_P (dC, dI) clS [(h0, .inr (0, [.ref a0, .ref a1, .int (nI tn), .ref a2, .ref a3, .ref a4, .int (nI wn), .long g, .int (nI ko), .int (nI mw)])), (a0, .inl (ca 0, 512, .inl (fun z9 => nI (t z9).1))), (a1, .inl (ca 1, 512, .inl (fun z9 => (t z9).2))), (a2, .inl (ca 2, 65, .inl (fun z9 => nI (w z9).1))), (a3, .inl (ca 3, 65, .inr (.inl (fun z9 => (w z9).2.1)))), (a4, .inl (ca 4, 65, .inl (fun z9 => (w z9).2.2)))] s.heap := hP
  have hl := lv_entry ([.ref h0]) (n := 2) (Nat.le_of_ble_eq_true rfl)
  have hE : entryFrame m args 2 = F0 m 0 ((lg_sl ([.ref h0]) ++ List.replicate (2 - (lg_sl ([.ref h0])).length) Slot.unset).toArray) [] := by rw [hargs]; exact lg_entry_eq m ([.ref h0]) 2
  rw [hE]
  generalize (lg_sl ([.ref h0]) ++ List.replicate (2 - (lg_sl ([.ref h0])).length) Slot.unset).toArray = ls at hl ⊢
  have hl : lv_has ls 2 [(0, .ref h0)] := hl
  refine lv_iconst (v := 0) hx hb dX0_firstThatCanComeThrough_0 (by decide) ?_
  refine tp_i (y := nI 0) (nI_0.symm) ?_
  refine lv_istore_n (lv' := [(1, .int (nI 0)), (0, .ref h0)]) hx hb dX0_firstThatCanComeThrough_1 rfl hl (by decide) rfl (fun ls hl => ?_)
  have loop : ∀ (n : Nat) (j : Nat), j + n = wn → fs tn g w n j = fs tn g w wn 0 → ∀ ls : Array Slot, lv_has ls 2 [(0, .ref h0), (1, .int (nI j))] → W p l e (headSpec wsX0_firstThatCanComeThrough ({ frames := 4, cells := 0, slots := 0, locals := 91 })).room s m args below meth c s.heap [] 0 0 (MQ below (QcRead (oI (fs tn g w wn 0))) args s 0 0 (fun _ => False)) (F0 m 2 ls []) := by
    intro n
    induction n with
    | zero =>
      intro j hj hk9 ls hl
      refine lv_iload_n hx hb dX0_firstThatCanComeThrough_2 rfl (lv_at hl 1 rfl) ?_
      refine lv_aload_n hx hb dX0_firstThatCanComeThrough_3 rfl (lv_at hl 0 rfl) ?_
      refine va_get (D := (dC, dI)) (ci := 0) (v := .int (nI wn)) (C := RX0) (T := TX0) (N := 10) hx hb hts in_X0_firstThatCanComeThrough_X0 hown hK hP 0 rfl rfl 6 (by decide) (hts (.fieldLink RX0 30 "CausalGate" "waitCount" "I") (by decide +kernel)) (fun _ h9 => h9) rfl dX0_firstThatCanComeThrough_4 ?_
      refine lv_icmp_ge (tgt := 37) hx hb dX0_firstThatCanComeThrough_7 (by decide) (fun c_7 => ?_) (fun c_7 => ?_)
      · refine lv_iconst (v := -1) hx hb dX0_firstThatCanComeThrough_37 (by decide) ?_
        exact ri_ret hx hb hr hlocks (by rw [← hk9]; rfl) dX0_firstThatCanComeThrough_38
      · exact absurd (nI_le (by omega) (by omega)) c_7
    | succ n ih =>
      intro j hj hk9 ls hl
      refine lv_iload_n hx hb dX0_firstThatCanComeThrough_2 rfl (lv_at hl 1 rfl) ?_
      refine lv_aload_n hx hb dX0_firstThatCanComeThrough_3 rfl (lv_at hl 0 rfl) ?_
      refine va_get (D := (dC, dI)) (ci := 0) (v := .int (nI wn)) (C := RX0) (T := TX0) (N := 10) hx hb hts in_X0_firstThatCanComeThrough_X0 hown hK hP 0 rfl rfl 6 (by decide) (hts (.fieldLink RX0 30 "CausalGate" "waitCount" "I") (by decide +kernel)) (fun _ h9 => h9) rfl dX0_firstThatCanComeThrough_4 ?_
      refine lv_icmp_ge (tgt := 37) hx hb dX0_firstThatCanComeThrough_7 (by decide) (fun c_7 => ?_) (fun c_7 => ?_)
      · exact absurd ((nI_leI (by omega) (by omega)).mp c_7) (by omega)
      · refine lv_aload_n hx hb dX0_firstThatCanComeThrough_10 rfl (lv_at hl 0 rfl) ?_
        refine lv_aload_n hx hb dX0_firstThatCanComeThrough_11 rfl (lv_at hl 0 rfl) ?_
        refine va_get (D := (dC, dI)) (ci := 0) (v := .ref a2) (C := RX0) (T := TX0) (N := 10) hx hb hts in_X0_firstThatCanComeThrough_X0 hown hK hP 0 rfl rfl 3 (by decide) (hts (.fieldLink RX0 16 "CausalGate" "waitKeys" "[I") (by decide +kernel)) (fun _ h9 => h9) rfl dX0_firstThatCanComeThrough_12 ?_
        refine lv_iload_n hx hb dX0_firstThatCanComeThrough_15 rfl (lv_at hl 1 rfl) ?_
        refine va_iald hx hb hK hP 3 2 rfl rfl (vp_in_nI (by omega) (by decide)) dX0_firstThatCanComeThrough_16 ?_
        refine tp_i (y := nI (w j).1) (by rw [nI_clamp (by omega)]) ?_
        have hwj := hw _ (show j < wn by omega)
        refine lv_aload_n hx hb dX0_firstThatCanComeThrough_17 rfl (lv_at hl 0 rfl) ?_
        refine va_get (D := (dC, dI)) (ci := 0) (v := .ref a3) (C := RX0) (T := TX0) (N := 10) hx hb hts in_X0_firstThatCanComeThrough_X0 hown hK hP 0 rfl rfl 4 (by decide) (hts (.fieldLink RX0 19 "CausalGate" "waitClocks" "[J") (by decide +kernel)) (fun _ h9 => h9) rfl dX0_firstThatCanComeThrough_18 ?_
        refine lv_iload_n hx hb dX0_firstThatCanComeThrough_21 rfl (lv_at hl 1 rfl) ?_
        refine va_lald hx hb hK hP 4 3 rfl rfl (vp_in_nI (by omega) (by decide)) dX0_firstThatCanComeThrough_22 ?_
        refine tp_l (y := (w j).2.1) (by rw [nI_clamp (by omega)]) ?_
        refine rd_i (W.runV (As := [.int (nI (w j).1), .long ((w j).2.1)]) (rest := []) ⟨hx, hb, hml, hown, hts⟩ (k_canComeThrough l dC dI ca h0 a0 a1 a2 a3 a4 t tn w wn g ko mw ((w j).1) ((w j).2.1) (by omega) (by omega)) (cwV 2 hts gX0_firstThatCanComeThrough_X0_canComeThrough rfl rfl rfl (by decide +kernel) ⟨Nat.le_of_ble_eq_true rfl, Nat.le_of_ble_eq_true rfl⟩) (pr_V (ci := 0) (q0 := 0) hK hP rfl rfl) rfl rfl hl.1 rfl (lv_room (Nat.le_of_ble_eq_true rfl)) dX0_firstThatCanComeThrough_23 ⟨Nat.zero_le _, Nat.zero_le _⟩) ?_
        refine lv_if_eq (tgt := 31) hx hb dX0_firstThatCanComeThrough_26 (by decide) (fun c_26 => ?_) (fun c_26 => ?_)
        · have c8 : ¬ cn tn g (w j).1 (w j).2.1 = true := by rw [bI_0.mp c_26]; decide
          refine lv_iinc (v := (nI (j + 1))) (lv' := [(1, .int (nI (j + 1))), (0, .ref h0)]) hx hb dX0_firstThatCanComeThrough_31 hl (k := 1) rfl (nI_1 j) (by decide) rfl (fun ls hl => ?_)
          refine lv_goto (tgt := 2) hx hb dX0_firstThatCanComeThrough_34 (by decide) ?_
          exact ih (j + 1) (by omega) (by rw [← hk9]; simp only [fs]; rw [if_neg c8]) ls (lv_sub hl [1, 0] rfl)
        · have c8 : cn tn g (w j).1 (w j).2.1 = true := by cases hq : cn tn g (w j).1 (w j).2.1; exact absurd (by rw [hq]; rfl) c_26; rfl
          refine lv_iload_n hx hb dX0_firstThatCanComeThrough_29 rfl (lv_at hl 1 rfl) ?_
          exact ri_ret hx hb hr hlocks (by rw [← hk9]; simp only [fs]; rw [if_pos c8]; rfl) dX0_firstThatCanComeThrough_30
  exact loop wn 0 (by omega) rfl ls (lv_sub hl [1, 0] rfl)
