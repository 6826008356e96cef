set_option maxHeartbeats 4000000 in
set_option maxRecDepth 100000 in
theorem kY_part (l : Launch) (ck : Int64) (a : Nat) (ha : a < 8) : Met l yY_part wsY_part ({ frames := 0, cells := 0, slots := 0, locals := 0 }) (fun v _ => v = ([.long ck, .int (nI a)] : List Value).toArray) (QcRead (nI (by_ ck a))) 0 0 (fun _ => False) := by
  refine Met.ofW (cc := cY_part) (maxL := 3) (ret := (some .int)) (by decide) rfl ?_
  intro p e s m args below meth c s₁ B hml hv
  have hargs : args = ([.long ck, .int (nI a)] : List Value).toArray := hv
  have hx := B.exec
  have hb := B.bytes
  have hr := B.returns
  have hts := atoms_spec (ws := wsY_part) B.pre
  have hown : s.vm.findClass RY = some m.cls := findClass_of_methodNamed B.named
  have hlocks := B.notSynchronized
  have hl := lv_entry ([.long ck, .int (nI a)]) (n := 3) (Nat.le_of_ble_eq_true rfl)
  have hE : entryFrame m args 3 = F0 m 0 ((lg_sl ([.long ck, .int (nI a)]) ++ List.replicate (3 - (lg_sl ([.long ck, .int (nI a)])).length) Slot.unset).toArray) [] := by rw [hargs]; exact lg_entry_eq m ([.long ck, .int (nI a)]) 3
  rw [hE]
  generalize (lg_sl ([.long ck, .int (nI a)]) ++ List.replicate (3 - (lg_sl ([.long ck, .int (nI a)])).length) Slot.unset).toArray = ls at hl ⊢
  have hl : lv_has ls 3 [(0, .long ck), (2, .int (nI a))] := hl
  refine lv_lload_n hx hb dY_part_0 rfl (lv_at hl 0 rfl) ?_
  refine lv_bipush (v := 8) hx hb dY_part_1 (by decide) ?_
  refine lv_iload_n hx hb dY_part_3 rfl (lv_at hl 1 rfl) ?_
  refine lv_imul hx hb dY_part_4 ?_
  refine tp_i (y := nI (8 * a)) (pk_mul 8 a) ?_
  refine lv_lshr (v := ck >>> ((nI (8 * a)).toInt64 &&& 63)) hx hb dY_part_5 (rfl) ?_
  refine lv_ldc2 (v := 255) hx hb hown (hts (.constantLong RY 39 255) (by decide +kernel)) dY_part_6 ?_
  refine lv_land hx hb dY_part_9 ?_
  refine lv_l2i (v := nI (by_ ck a)) hx hb dY_part_10 (pt_eq ck ha) ?_
  exact ri_ret hx hb hr hlocks (rfl) dY_part_11

set_option maxRecDepth 20000 in
theorem in_Y_thrown_Y : ∀ w ∈ wsY0, w ∈ wsY_thrown := by decide +kernel

set_option maxHeartbeats 4000000 in
set_option maxRecDepth 100000 in
theorem kY_thrown (l : Launch) (dC : Nat → ClassId) (dI : Nat → Nat → Nat) (cb : Nat → ClassId) (r0 b0 b1 b2 b3 b4 b5 b6 b7 : Nat) (th : Int32) (cl : Nat → Nat) (t : TF) (tn : Nat) (w : WF) (wn : Nat) (ko mw : Nat)  : Met l yY_thrown wsY_thrown ({ frames := 0, cells := 0, slots := 0, locals := 0 }) (Pr [.ref r0] (dC, dI) clS [(cb 0, .int), (cb 1, .int), (cb 2, .int), (cb 3, .int), (cb 4, .int), (cb 5, .int), (cb 6, .long), (cb 7, .int)] [(r0, .inr (1, [.int th, .ref b0, .int (nI tn), .ref b1, .ref b2, .ref b3, .int (nI wn), .ref b4, .ref b5, .ref b6, .ref b7, .int (nI ko), .int (nI mw)])), (b0, .inl (cb 0, 8, .inl (fun z9 => nI (cl z9)))), (b1, .inl (cb 1, 2040, .inl (fun z9 => nI ((t z9).1 / 256)))), (b2, .inl (cb 2, 2040, .inl (fun z9 => nI ((t z9).1 % 256)))), (b3, .inl (cb 3, 2040, .inl (fun z9 => (t z9).2))), (b4, .inl (cb 4, 65, .inl (fun z9 => nI ((w z9).1 / 256)))), (b5, .inl (cb 5, 65, .inl (fun z9 => nI ((w z9).1 % 256)))), (b6, .inl (cb 6, 65, .inr (.inl (fun z9 => (w z9).2.1)))), (b7, .inl (cb 7, 65, .inl (fun z9 => (w z9).2.2)))]) (QcRead th) 0 0 (fun _ => False) := by
  refine Met.ofW (cc := cY_thrown) (maxL := 1) (ret := (some .int)) (by decide) rfl ?_
  intro p e s m args below meth c s₁ B hml hv
  obtain ⟨hargs, hP, hK⟩ := hv
  have hx := B.exec
  have hb := B.bytes
  have hr := B.returns
  have hts := atoms_spec (ws := wsY_thrown) B.pre
  have hown : s.vm.findClass RY = some m.cls := findClass_of_methodNamed B.named
  have hlocks := B.notSynchronized
  have hP : va_P (dC, dI) clS [(r0, .inr (1, [.int th, .ref b0, .int (nI tn), .ref b1, .ref b2, .ref b3, .int (nI wn), .ref b4, .ref b5, .ref b6, .ref b7, .int (nI ko), .int (nI mw)])), (b0, .inl (cb 0, 8, .inl (fun z9 => nI (cl z9)))), (b1, .inl (cb 1, 2040, .inl (fun z9 => nI ((t z9).1 / 256)))), (b2, .inl (cb 2, 2040, .inl (fun z9 => nI ((t z9).1 % 256)))), (b3, .inl (cb 3, 2040, .inl (fun z9 => (t z9).2))), (b4, .inl (cb 4, 65, .inl (fun z9 => nI ((w z9).1 / 256)))), (b5, .inl (cb 5, 65, .inl (fun z9 => nI ((w z9).1 % 256)))), (b6, .inl (cb 6, 65, .inr (.inl (fun z9 => (w z9).2.1)))), (b7, .inl (cb 7, 65, .inl (fun z9 => (w z9).2.2)))] s.heap := hP
  have hl := lv_entry ([.ref r0]) (n := 1) (Nat.le_of_ble_eq_true rfl)
  have hE : entryFrame m args 1 = F0 m 0 ((lg_sl ([.ref r0]) ++ List.replicate (1 - (lg_sl ([.ref r0])).length) Slot.unset).toArray) [] := by rw [hargs]; exact lg_entry_eq m ([.ref r0]) 1
  rw [hE]
  generalize (lg_sl ([.ref r0]) ++ List.replicate (1 - (lg_sl ([.ref r0])).length) Slot.unset).toArray = ls at hl ⊢
  have hl : lv_has ls 1 [(0, .ref r0)] := hl
  refine lv_aload_n hx hb dY_thrown_0 rfl (lv_at hl 0 rfl) ?_
  refine va_get (D := (dC, dI)) (ci := 1) (v := .int th) (C := RY) (T := TY) (N := 13) hx hb hts in_Y_thrown_Y hown hK hP 0 rfl rfl 0 (by decide) (hts (.fieldLink RY 35 "CausalGateModel" "thrown" "I") (by decide +kernel)) (fun _ h9 => h9) rfl dY_thrown_1 ?_
  exact ri_ret hx hb hr hlocks (rfl) dY_thrown_4

set_option maxRecDepth 20000 in
theorem in_Y_lacking_Y : ∀ w ∈ wsY0, w ∈ wsY_lacking := by decide +kernel

set_option maxHeartbeats 4000000 in
set_option maxRecDepth 100000 in
theorem kY_lacking (l : Launch) (dC : Nat → ClassId) (dI : Nat → Nat → Nat) (cb : Nat → ClassId) (r0 b0 b1 b2 b3 b4 b5 b6 b7 : Nat) (th : Int32) (cl : Nat → Nat) (t : TF) (tn : Nat) (w : WF) (wn : Nat) (ko mw : Nat) (hcl : ∀ a, a < 8 → cl a < 256) (act : Nat) (ck : Int64) (hact : act < 8) : Met l yY_lacking wsY_lacking ({ frames := 1, cells := 0, slots := 0, locals := 22 }) (Pr [.ref r0, .int (nI act), .long ck] (dC, dI) clS [(cb 0, .int), (cb 1, .int), (cb 2, .int), (cb 3, .int), (cb 4, .int), (cb 5, .int), (cb 6, .long), (cb 7, .int)] [(r0, .inr (1, [.int th, .ref b0, .int (nI tn), .ref b1, .ref b2, .ref b3, .int (nI wn), .ref b4, .ref b5, .ref b6, .ref b7, .int (nI ko), .int (nI mw)])), (b0, .inl (cb 0, 8, .inl (fun z9 => nI (cl z9)))), (b1, .inl (cb 1, 2040, .inl (fun z9 => nI ((t z9).1 / 256)))), (b2, .inl (cb 2, 2040, .inl (fun z9 => nI ((t z9).1 % 256)))), (b3, .inl (cb 3, 2040, .inl (fun z9 => (t z9).2))), (b4, .inl (cb 4, 65, .inl (fun z9 => nI ((w z9).1 / 256)))), (b5, .inl (cb 5, 65, .inl (fun z9 => nI ((w z9).1 % 256)))), (b6, .inl (cb 6, 65, .inr (.inl (fun z9 => (w z9).2.1)))), (b7, .inl (cb 7, 65, .inl (fun z9 => (w z9).2.2)))]) (QcRead (oI (lkB cl ck act 8 none))) 0 0 (fun _ => False) := by
  refine Met.ofW (cc := cY_lacking) (maxL := 6) (ret := (some .int)) (by decide) rfl ?_
  intro p e s m args below meth c s₁ B hml hv
  obtain ⟨hargs, hP, hK⟩ := hv
  have hx := B.exec
  have hb := B.bytes
  have hr := B.returns
  have hts := atoms_spec (ws := wsY_lacking) B.pre
  have hown : s.vm.findClass RY = some m.cls := findClass_of_methodNamed B.named
  have hlocks := B.notSynchronized
  have hP : va_P (dC, dI) clS [(r0, .inr (1, [.int th, .ref b0, .int (nI tn), .ref b1, .ref b2, .ref b3, .int (nI wn), .ref b4, .ref b5, .ref b6, .ref b7, .int (nI ko), .int (nI mw)])), (b0, .inl (cb 0, 8, .inl (fun z9 => nI (cl z9)))), (b1, .inl (cb 1, 2040, .inl (fun z9 => nI ((t z9).1 / 256)))), (b2, .inl (cb 2, 2040, .inl (fun z9 => nI ((t z9).1 % 256)))), (b3, .inl (cb 3, 2040, .inl (fun z9 => (t z9).2))), (b4, .inl (cb 4, 65, .inl (fun z9 => nI ((w z9).1 / 256)))), (b5, .inl (cb 5, 65, .inl (fun z9 => nI ((w z9).1 % 256)))), (b6, .inl (cb 6, 65, .inr (.inl (fun z9 => (w z9).2.1)))), (b7, .inl (cb 7, 65, .inl (fun z9 => (w z9).2.2)))] s.heap := hP
  have hl := lv_entry ([.ref r0, .int (nI act), .long ck]) (n := 6) (Nat.le_of_ble_eq_true rfl)
  have hE : entryFrame m args 6 = F0 m 0 ((lg_sl ([.ref r0, .int (nI act), .long ck]) ++ List.replicate (6 - (lg_sl ([.ref r0, .int (nI act), .long ck])).length) Slot.unset).toArray) [] := by rw [hargs]; exact lg_entry_eq m ([.ref r0, .int (nI act), .long ck]) 6
  rw [hE]
  generalize (lg_sl ([.ref r0, .int (nI act), .long ck]) ++ List.replicate (6 - (lg_sl ([.ref r0, .int (nI act), .long ck])).length) Slot.unset).toArray = ls at hl ⊢
  have hl : lv_has ls 6 [(0, .ref r0), (1, .int (nI act)), (2, .long ck)] := hl
  refine lv_iconst (v := -1) hx hb dY_lacking_0 (by decide) ?_
  refine tp_i (y := oI none) (rfl) ?_
  refine lv_istore (lv' := [(4, .int (oI none)), (0, .ref r0), (1, .int (nI act)), (2, .long ck)]) hx hb dY_lacking_1 hl (by decide) rfl (fun ls hl => ?_)
  refine lv_bipush (v := 7) hx hb dY_lacking_3 (by decide) ?_
  refine tp_i (y := dN 8) (rfl) ?_
  refine lv_istore (lv' := [(5, .int (dN 8)), (4, .int (oI none)), (0, .ref r0), (1, .int (nI act)), (2, .long ck)]) hx hb dY_lacking_5 hl (by decide) rfl (fun ls hl => ?_)
  have loop : ∀ (n : Nat) (f : Option Nat), n ≤ 8 → lkB cl ck act n f = lkB cl ck act 8 none → ∀ ls : Array Slot, lv_has ls 6 [(0, .ref r0), (1, .int (nI act)), (2, .long ck), (4, .int (oI f)), (5, .int (dN n))] → W p l e (headSpec wsY_lacking ({ frames := 1, cells := 0, slots := 0, locals := 22 })).room s m args below meth c s.heap [] 0 0 (MQ below (QcRead (oI (lkB cl ck act 8 none))) args s 0 0 (fun _ => False)) (F0 m 7 ls []) := by
    intro n
    induction n with
    | zero =>
      intro f hn hk9 ls hl
      have hl : lv_has ls 6 [(0, .ref r0), (1, .int (nI act)), (2, .long ck), (4, .int (oI f)), (5, .int (-1))] := hl
      refine lv_iload hx hb dY_lacking_7 (lv_at hl 4 rfl) ?_
      refine lv_if_lt (tgt := 49) hx hb dY_lacking_9 (by decide) (fun c_9 => ?_) (fun c_9 => ?_)
      · refine lv_iload hx hb dY_lacking_49 (lv_at hl 3 rfl) ?_
        exact ri_ret hx hb hr hlocks (by rw [← hk9]; rfl) dY_lacking_51
      · exact absurd (by decide) c_9
    | succ n ih =>
      intro f hn hk9 ls hl
      have hl : lv_has ls 6 [(0, .ref r0), (1, .int (nI act)), (2, .long ck), (4, .int (oI f)), (5, .int (nI n))] := hl
      refine lv_iload hx hb dY_lacking_7 (lv_at hl 4 rfl) ?_
      refine lv_if_lt (tgt := 49) hx hb dY_lacking_9 (by decide) (fun c_9 => ?_) (fun c_9 => ?_)
      · exact absurd c_9 (nI_pos (by omega))
      · refine lv_iload hx hb dY_lacking_12 (lv_at hl 4 rfl) ?_
        refine lv_iload_n hx hb dY_lacking_14 rfl (lv_at hl 1 rfl) ?_
        refine lv_icmp_eq (tgt := 39) hx hb dY_lacking_15 (by decide) (fun c_15 => ?_) (fun c_15 => ?_)
        · have c7 : ¬ (n ≠ act ∧ cl n < by_ ck n) := fun q => q.1 ((nI_eq (by omega) (by omega)).mp c_15)
          refine lv_iload hx hb dY_lacking_39 (lv_at hl 3 rfl) ?_
          refine tp_i (y := oI (if n ≠ act ∧ cl n < by_ ck n then some n else f)) (by rw [if_neg c7]) ?_
          refine lv_istore (lv' := [(4, .int (oI (if n ≠ act ∧ cl n < by_ ck n then some n else f))), (0, .ref r0), (1, .int (nI act)), (2, .long ck), (5, .int (nI n))]) hx hb dY_lacking_41 hl (by decide) rfl (fun ls hl => ?_)
          refine lv_iinc (v := (dN n)) (lv' := [(5, .int (dN n)), (4, .int (oI (if n ≠ act ∧ cl n < by_ ck n then some n else f))), (0, .ref r0), (1, .int (nI act)), (2, .long ck)]) hx hb dY_lacking_43 hl (k := 4) rfl (dN_dec n) (by decide) rfl (fun ls hl => ?_)
          refine lv_goto (tgt := 7) hx hb dY_lacking_46 (by decide) ?_
          exact ih _ (by omega) (by rw [← hk9]; rfl) ls (lv_sub hl [2, 3, 4, 1, 0] rfl)
        · have c8 : n ≠ act := fun q => c_15 (by rw [q])
          refine lv_lload_n hx hb dY_lacking_18 rfl (lv_at hl 2 rfl) ?_
          refine lv_iload hx hb dY_lacking_19 (lv_at hl 4 rfl) ?_
          refine rd_i (W.runS (As := [.long ck, .int (nI n)]) (rest := []) ⟨hx, hb, hml, hown, hts⟩ (kY_part l ck n (by omega)) (va_cwS 2 hts gY_lacking_Y_part rfl rfl rfl (by decide +kernel) ⟨Nat.le_of_ble_eq_true rfl, Nat.le_of_ble_eq_true rfl⟩) preEq rfl rfl hl.1 rfl (lv_room (Nat.le_of_ble_eq_true rfl)) dY_lacking_21 ⟨Nat.zero_le _, Nat.zero_le _⟩) ?_
          refine lv_aload_n hx hb dY_lacking_24 rfl (lv_at hl 0 rfl) ?_
          refine va_get (D := (dC, dI)) (ci := 1) (v := .ref b0) (C := RY) (T := TY) (N := 13) hx hb hts in_Y_lacking_Y hown hK hP 0 rfl rfl 1 (by decide) (hts (.fieldLink RY 7 "CausalGateModel" "clock" "[I") (by decide +kernel)) (fun _ h9 => h9) rfl dY_lacking_25 ?_
          refine lv_iload hx hb dY_lacking_28 (lv_at hl 4 rfl) ?_
          refine va_iald hx hb hK hP 1 0 rfl rfl (vp_in_nI (by omega) (by decide)) dY_lacking_30 ?_
          refine tp_i (y := nI (cl n)) (by rw [nI_clamp (by omega)]) ?_
          refine lv_icmp_le (tgt := 39) hx hb dY_lacking_31 (by decide) (fun c_31 => ?_) (fun c_31 => ?_)
          · have c7 : ¬ (n ≠ act ∧ cl n < by_ ck n) := fun q => absurd ((nI_leI (by have := hcl n (by omega); have := by_lt ck n; omega) (by have := hcl n (by omega); have := by_lt ck n; omega)).mp c_31) (by have := q.2; omega)
            refine lv_iload hx hb dY_lacking_39 (lv_at hl 3 rfl) ?_
            refine tp_i (y := oI (if n ≠ act ∧ cl n < by_ ck n then some n else f)) (by rw [if_neg c7]) ?_
            refine lv_istore (lv' := [(4, .int (oI (if n ≠ act ∧ cl n < by_ ck n then some n else f))), (0, .ref r0), (1, .int (nI act)), (2, .long ck), (5, .int (nI n))]) hx hb dY_lacking_41 hl (by decide) rfl (fun ls hl => ?_)
            refine lv_iinc (v := (dN n)) (lv' := [(5, .int (dN n)), (4, .int (oI (if n ≠ act ∧ cl n < by_ ck n then some n else f))), (0, .ref r0), (1, .int (nI act)), (2, .long ck)]) hx hb dY_lacking_43 hl (k := 4) rfl (dN_dec n) (by decide) rfl (fun ls hl => ?_)
            refine lv_goto (tgt := 7) hx hb dY_lacking_46 (by decide) ?_
            exact ih _ (by omega) (by rw [← hk9]; rfl) ls (lv_sub hl [2, 3, 4, 1, 0] rfl)
          · have c7 : n ≠ act ∧ cl n < by_ ck n := ⟨c8, Nat.lt_of_not_le fun q => c_31 (nI_le q (by have := hcl n (by omega); have := by_lt ck n; omega))⟩
            refine lv_iload hx hb dY_lacking_34 (lv_at hl 4 rfl) ?_
            refine lv_goto (tgt := 41) hx hb dY_lacking_36 (by decide) ?_
            refine tp_i (y := oI (if n ≠ act ∧ cl n < by_ ck n then some n else f)) (by rw [if_pos c7]; rfl) ?_
            refine lv_istore (lv' := [(4, .int (oI (if n ≠ act ∧ cl n < by_ ck n then some n else f))), (0, .ref r0), (1, .int (nI act)), (2, .long ck), (5, .int (nI n))]) hx hb dY_lacking_41 hl (by decide) rfl (fun ls hl => ?_)
            refine lv_iinc (v := (dN n)) (lv' := [(5, .int (dN n)), (4, .int (oI (if n ≠ act ∧ cl n < by_ ck n then some n else f))), (0, .ref r0), (1, .int (nI act)), (2, .long ck)]) hx hb dY_lacking_43 hl (k := 4) rfl (dN_dec n) (by decide) rfl (fun ls hl => ?_)
            refine lv_goto (tgt := 7) hx hb dY_lacking_46 (by decide) ?_
            exact ih _ (by omega) (by rw [← hk9]; rfl) ls (lv_sub hl [2, 3, 4, 1, 0] rfl)
  exact loop 8 none (Nat.le_refl _) rfl ls (lv_sub hl [2, 3, 4, 1, 0] rfl)

set_option maxRecDepth 20000 in
theorem in_Y_canCome_Y : ∀ w ∈ wsY0, w ∈ wsY_canCome := by decide +kernel

set_option maxHeartbeats 4000000 in
set_option maxRecDepth 100000 in
theorem kY_canCome (l : Launch) (dC : Nat → ClassId) (dI : Nat → Nat → Nat) (cb : Nat → ClassId) (r0 b0 b1 b2 b3 b4 b5 b6 b7 : Nat) (th : Int32) (cl : Nat → Nat) (t : TF) (tn : Nat) (w : WF) (wn : Nat) (ko mw : Nat) (hcl : ∀ a, a < 8 → cl a < 256) (act q : Nat) (ck : Int64) (hact : act < 8) (hq : q < 256) : Met l yY_canCome wsY_canCome ({ frames := 2, cells := 0, slots := 0, locals := 47 }) (Pr [.ref r0, .int (nI act), .int (nI q), .long ck] (dC, dI) clS [(cb 0, .int), (cb 1, .int), (cb 2, .int), (cb 3, .int), (cb 4, .int), (cb 5, .int), (cb 6, .long), (cb 7, .int)] [(r0, .inr (1, [.int th, .ref b0, .int (nI tn), .ref b1, .ref b2, .ref b3, .int (nI wn), .ref b4, .ref b5, .ref b6, .ref b7, .int (nI ko), .int (nI mw)])), (b0, .inl (cb 0, 8, .inl (fun z9 => nI (cl z9)))), (b1, .inl (cb 1, 2040, .inl (fun z9 => nI ((t z9).1 / 256)))), (b2, .inl (cb 2, 2040, .inl (fun z9 => nI ((t z9).1 % 256)))), (b3, .inl (cb 3, 2040, .inl (fun z9 => (t z9).2))), (b4, .inl (cb 4, 65, .inl (fun z9 => nI ((w z9).1 / 256)))), (b5, .inl (cb 5, 65, .inl (fun z9 => nI ((w z9).1 % 256)))), (b6, .inl (cb 6, 65, .inr (.inl (fun z9 => (w z9).2.1)))), (b7, .inl (cb 7, 65, .inl (fun z9 => (w z9).2.2)))]) (QcRead (bI (cnM cl act q ck))) 0 0 (fun _ => False) := by
  refine Met.ofW (cc := cY_canCome) (maxL := 5) (ret := (some .boolean)) (by decide) rfl ?_
  intro p e s m args below meth c s₁ B hml hv
  obtain ⟨hargs, hP, hK⟩ := hv
  have hx := B.exec
  have hb := B.bytes
  have hr := B.returns
  have hts := atoms_spec (ws := wsY_canCome) B.pre
  have hown : s.vm.findClass RY = some m.cls := findClass_of_methodNamed B.named
  have hlocks := B.notSynchronized
  have hP : va_P (dC, dI) clS [(r0, .inr (1, [.int th, .ref b0, .int (nI tn), .ref b1, .ref b2, .ref b3, .int (nI wn), .ref b4, .ref b5, .ref b6, .ref b7, .int (nI ko), .int (nI mw)])), (b0, .inl (cb 0, 8, .inl (fun z9 => nI (cl z9)))), (b1, .inl (cb 1, 2040, .inl (fun z9 => nI ((t z9).1 / 256)))), (b2, .inl (cb 2, 2040, .inl (fun z9 => nI ((t z9).1 % 256)))), (b3, .inl (cb 3, 2040, .inl (fun z9 => (t z9).2))), (b4, .inl (cb 4, 65, .inl (fun z9 => nI ((w z9).1 / 256)))), (b5, .inl (cb 5, 65, .inl (fun z9 => nI ((w z9).1 % 256)))), (b6, .inl (cb 6, 65, .inr (.inl (fun z9 => (w z9).2.1)))), (b7, .inl (cb 7, 65, .inl (fun z9 => (w z9).2.2)))] s.heap := hP
  have hl := lv_entry ([.ref r0, .int (nI act), .int (nI q), .long ck]) (n := 5) (Nat.le_of_ble_eq_true rfl)
  have hE : entryFrame m args 5 = F0 m 0 ((lg_sl ([.ref r0, .int (nI act), .int (nI q), .long ck]) ++ List.replicate (5 - (lg_sl ([.ref r0, .int (nI act), .int (nI q), .long ck])).length) Slot.unset).toArray) [] := by rw [hargs]; exact lg_entry_eq m ([.ref r0, .int (nI act), .int (nI q), .long ck]) 5
  rw [hE]
  generalize (lg_sl ([.ref r0, .int (nI act), .int (nI q), .long ck]) ++ List.replicate (5 - (lg_sl ([.ref r0, .int (nI act), .int (nI q), .long ck])).length) Slot.unset).toArray = ls at hl ⊢
  have hl : lv_has ls 5 [(0, .ref r0), (1, .int (nI act)), (2, .int (nI q)), (3, .long ck)] := hl
  refine lv_iload_n hx hb dY_canCome_0 rfl (lv_at hl 2 rfl) ?_
  refine lv_aload_n hx hb dY_canCome_1 rfl (lv_at hl 0 rfl) ?_
  refine va_get (D := (dC, dI)) (ci := 1) (v := .ref b0) (C := RY) (T := TY) (N := 13) hx hb hts in_Y_canCome_Y hown hK hP 0 rfl rfl 1 (by decide) (hts (.fieldLink RY 7 "CausalGateModel" "clock" "[I") (by decide +kernel)) (fun _ h9 => h9) rfl dY_canCome_2 ?_
  refine lv_iload_n hx hb dY_canCome_5 rfl (lv_at hl 1 rfl) ?_
  refine va_iald hx hb hK hP 1 0 rfl rfl (vp_in_nI (by omega) (by decide)) dY_canCome_6 ?_
  refine tp_i (y := nI (cl act)) (by rw [nI_clamp (by omega)]) ?_
  refine lv_iconst (v := 1) hx hb dY_canCome_7 (by decide) ?_
  refine lv_iadd hx hb dY_canCome_8 ?_
  refine tp_i (y := nI (cl act + 1)) (nI_1 _) ?_
  refine lv_icmp_ne (tgt := 25) hx hb dY_canCome_9 (by decide) (fun c_9 => ?_) (fun c_9 => ?_)
  · have c9 : ¬ q = cl act + 1 := fun z => c_9 (by rw [z])
    refine lv_iconst (v := 0) hx hb dY_canCome_25 (by decide) ?_
    exact rz_ret hx hb hr hlocks (rfl) (by simp [cnM, bI, *]) dY_canCome_26
  · have c9 : q = cl act + 1 := (nI_eq (by omega) (by have := hcl act hact; omega)).mp c_9
    refine lv_aload_n hx hb dY_canCome_12 rfl (lv_at hl 0 rfl) ?_
    refine lv_iload_n hx hb dY_canCome_13 rfl (lv_at hl 1 rfl) ?_
    refine lv_lload_n hx hb dY_canCome_14 rfl (lv_at hl 3 rfl) ?_
    refine rd_i (W.runV (As := [.int (nI act), .long ck]) (rest := []) ⟨hx, hb, hml, hown, hts⟩ (kY_lacking l dC dI cb r0 b0 b1 b2 b3 b4 b5 b6 b7 th cl t tn w wn ko mw hcl act ck (by omega)) (cwV 2 hts gY_canCome_Y_lacking rfl rfl rfl (by decide +kernel) ⟨Nat.le_of_ble_eq_true rfl, Nat.le_of_ble_eq_true rfl⟩) (pr_V (ci := 1) (q0 := 0) hK hP rfl rfl) rfl rfl hl.1 rfl (lv_room (Nat.le_of_ble_eq_true rfl)) dY_canCome_15 ⟨Nat.zero_le _, Nat.zero_le _⟩) ?_
    refine lv_if_ge (tgt := 25) hx hb dY_canCome_18 (by decide) (fun c_18 => ?_) (fun c_18 => ?_)
    · have c8 : ¬ lkB cl ck act 8 none = none := (oI_ge (fun a h => Nat.lt_of_lt_of_le (lkB_lt (Nat.le_refl _) (fun x hx => by cases hx) h) (by decide))).mp c_18
      refine lv_iconst (v := 0) hx hb dY_canCome_25 (by decide) ?_
      exact rz_ret hx hb hr hlocks (rfl) (by simp [cnM, bI, *]) dY_canCome_26
    · have c8 : lkB cl ck act 8 none = none := Classical.byContradiction fun z => c_18 ((oI_ge (fun a h => Nat.lt_of_lt_of_le (lkB_lt (Nat.le_refl _) (fun x hx => by cases hx) h) (by decide))).mpr z)
      refine lv_iconst (v := 1) hx hb dY_canCome_21 (by decide) ?_
      refine lv_goto (tgt := 26) hx hb dY_canCome_22 (by decide) ?_
      exact rz_ret hx hb hr hlocks (rfl) (by simp [cnM, bI, *]) dY_canCome_26

set_option maxRecDepth 20000 in
theorem in_Y_isKnown_Y : ∀ w ∈ wsY0, w ∈ wsY_isKnown := by decide +kernel

set_option maxHeartbeats 4000000 in
set_option maxRecDepth 100000 in
theorem kY_isKnown (l : Launch) (dC : Nat → ClassId) (dI : Nat → Nat → Nat) (cb : Nat → ClassId) (r0 b0 b1 b2 b3 b4 b5 b6 b7 : Nat) (th : Int32) (cl : Nat → Nat) (t : TF) (tn : Nat) (w : WF) (wn : Nat) (ko mw : Nat) (hcl : ∀ a, a < 8 → cl a < 256) (hwn : wn ≤ 65) (hw : ∀ j, j < wn → (w j).1 < 2048) (act q : Nat) (hact : act < 8) (hq : q < 256) : Met l yY_isKnown wsY_isKnown ({ frames := 0, cells := 0, slots := 0, locals := 0 }) (Pr [.ref r0, .int (nI act), .int (nI q)] (dC, dI) clS [(cb 0, .int), (cb 1, .int), (cb 2, .int), (cb 3, .int), (cb 4, .int), (cb 5, .int), (cb 6, .long), (cb 7, .int)] [(r0, .inr (1, [.int th, .ref b0, .int (nI tn), .ref b1, .ref b2, .ref b3, .int (nI wn), .ref b4, .ref b5, .ref b6, .ref b7, .int (nI ko), .int (nI mw)])), (b0, .inl (cb 0, 8, .inl (fun z9 => nI (cl z9)))), (b1, .inl (cb 1, 2040, .inl (fun z9 => nI ((t z9).1 / 256)))), (b2, .inl (cb 2, 2040, .inl (fun z9 => nI ((t z9).1 % 256)))), (b3, .inl (cb 3, 2040, .inl (fun z9 => (t z9).2))), (b4, .inl (cb 4, 65, .inl (fun z9 => nI ((w z9).1 / 256)))), (b5, .inl (cb 5, 65, .inl (fun z9 => nI ((w z9).1 % 256)))), (b6, .inl (cb 6, 65, .inr (.inl (fun z9 => (w z9).2.1)))), (b7, .inl (cb 7, 65, .inl (fun z9 => (w z9).2.2)))]) (QcRead (bI (knM cl w wn act q))) 0 0 (fun _ => False) := by
  refine Met.ofW (cc := cY_isKnown) (maxL := 5) (ret := (some .boolean)) (by decide) rfl ?_
  intro p e s m args below meth c s₁ B hml hv
  obtain ⟨hargs, hP, hK⟩ := hv
  have hx := B.exec
  have hb := B.bytes
  have hr := B.returns
  have hts := atoms_spec (ws := wsY_isKnown) B.pre
  have hown : s.vm.findClass RY = some m.cls := findClass_of_methodNamed B.named
  have hlocks := B.notSynchronized
  have hP : va_P (dC, dI) clS [(r0, .inr (1, [.int th, .ref b0, .int (nI tn), .ref b1, .ref b2, .ref b3, .int (nI wn), .ref b4, .ref b5, .ref b6, .ref b7, .int (nI ko), .int (nI mw)])), (b0, .inl (cb 0, 8, .inl (fun z9 => nI (cl z9)))), (b1, .inl (cb 1, 2040, .inl (fun z9 => nI ((t z9).1 / 256)))), (b2, .inl (cb 2, 2040, .inl (fun z9 => nI ((t z9).1 % 256)))), (b3, .inl (cb 3, 2040, .inl (fun z9 => (t z9).2))), (b4, .inl (cb 4, 65, .inl (fun z9 => nI ((w z9).1 / 256)))), (b5, .inl (cb 5, 65, .inl (fun z9 => nI ((w z9).1 % 256)))), (b6, .inl (cb 6, 65, .inr (.inl (fun z9 => (w z9).2.1)))), (b7, .inl (cb 7, 65, .inl (fun z9 => (w z9).2.2)))] s.heap := hP
  have hl := lv_entry ([.ref r0, .int (nI act), .int (nI q)]) (n := 5) (Nat.le_of_ble_eq_true rfl)
  have hE : entryFrame m args 5 = F0 m 0 ((lg_sl ([.ref r0, .int (nI act), .int (nI q)]) ++ List.replicate (5 - (lg_sl ([.ref r0, .int (nI act), .int (nI q)])).length) Slot.unset).toArray) [] := by rw [hargs]; exact lg_entry_eq m ([.ref r0, .int (nI act), .int (nI q)]) 5
  rw [hE]
  generalize (lg_sl ([.ref r0, .int (nI act), .int (nI q)]) ++ List.replicate (5 - (lg_sl ([.ref r0, .int (nI act), .int (nI q)])).length) Slot.unset).toArray = ls at hl ⊢
  have hl : lv_has ls 5 [(0, .ref r0), (1, .int (nI act)), (2, .int (nI q))] := hl
  refine lv_iload_n hx hb dY_isKnown_0 rfl (lv_at hl 2 rfl) ?_
  refine lv_aload_n hx hb dY_isKnown_1 rfl (lv_at hl 0 rfl) ?_
  refine va_get (D := (dC, dI)) (ci := 1) (v := .ref b0) (C := RY) (T := TY) (N := 13) hx hb hts in_Y_isKnown_Y hown hK hP 0 rfl rfl 1 (by decide) (hts (.fieldLink RY 7 "CausalGateModel" "clock" "[I") (by decide +kernel)) (fun _ h9 => h9) rfl dY_isKnown_2 ?_
  refine lv_iload_n hx hb dY_isKnown_5 rfl (lv_at hl 1 rfl) ?_
  refine va_iald hx hb hK hP 1 0 rfl rfl (vp_in_nI (by omega) (by decide)) dY_isKnown_6 ?_
  refine tp_i (y := nI (cl act)) (by rw [nI_clamp (by omega)]) ?_
  refine lv_icmp_gt (tgt := 14) hx hb dY_isKnown_7 (by decide) (fun c_7 => ?_) (fun c_7 => ?_)
  · have c9 : decide (q ≤ cl act) = false := decide_eq_false fun z => absurd c_7 (nI_nlt z (by have := hcl act hact; omega))
    refine lv_iconst (v := 0) hx hb dY_isKnown_14 (by decide) ?_
    refine tp_i (y := bI (decide (q ≤ cl act))) (by rw [c9]; rfl) ?_
    refine lv_istore_n (lv' := [(3, .int (bI (decide (q ≤ cl act)))), (0, .ref r0), (1, .int (nI act)), (2, .int (nI q))]) hx hb dY_isKnown_15 rfl hl (by decide) rfl (fun ls hl => ?_)
    refine lv_iconst (v := 0) hx hb dY_isKnown_16 (by decide) ?_
    refine tp_i (y := nI 0) (nI_0.symm) ?_
    refine lv_istore (lv' := [(4, .int (nI 0)), (3, .int (bI (decide (q ≤ cl act)))), (0, .ref r0), (1, .int (nI act)), (2, .int (nI q))]) hx hb dY_isKnown_17 hl (by decide) rfl (fun ls hl => ?_)
    have loop : ∀ (n : Nat) (j : Nat) (b9 : Bool), j + n = wn → kmS w act q n j b9 = knM cl w wn act q → ∀ ls : Array Slot, lv_has ls 5 [(0, .ref r0), (1, .int (nI act)), (2, .int (nI q)), (3, .int (bI b9)), (4, .int (nI j))] → W p l e (headSpec wsY_isKnown ({ frames := 0, cells := 0, slots := 0, locals := 0 })).room s m args below meth c s.heap [] 0 0 (MQ below (QcRead (bI (knM cl w wn act q))) args s 0 0 (fun _ => False)) (F0 m 19 ls []) := by
      intro n
      induction n with
      | zero =>
        intro j b9 hj hk9 ls hl
        refine lv_iload hx hb dY_isKnown_19 (lv_at hl 4 rfl) ?_
        refine lv_aload_n hx hb dY_isKnown_21 rfl (lv_at hl 0 rfl) ?_
        refine va_get (D := (dC, dI)) (ci := 1) (v := .int (nI wn)) (C := RY) (T := TY) (N := 13) hx hb hts in_Y_isKnown_Y hown hK hP 0 rfl rfl 6 (by decide) (hts (.fieldLink RY 49 "CausalGateModel" "waiting" "I") (by decide +kernel)) (fun _ h9 => h9) rfl dY_isKnown_22 ?_
        refine lv_icmp_ge (tgt := 66) hx hb dY_isKnown_25 (by decide) (fun c_25 => ?_) (fun c_25 => ?_)
        · refine lv_iload_n hx hb dY_isKnown_66 rfl (lv_at hl 3 rfl) ?_
          exact rz_ret hx hb hr hlocks (bI_n _) (by rw [← hk9]; rfl) dY_isKnown_67
        · exact absurd (nI_le (by omega) (by omega)) c_25
      | succ n ih =>
        intro j b9 hj hk9 ls hl
        refine lv_iload hx hb dY_isKnown_19 (lv_at hl 4 rfl) ?_
        refine lv_aload_n hx hb dY_isKnown_21 rfl (lv_at hl 0 rfl) ?_
        refine va_get (D := (dC, dI)) (ci := 1) (v := .int (nI wn)) (C := RY) (T := TY) (N := 13) hx hb hts in_Y_isKnown_Y hown hK hP 0 rfl rfl 6 (by decide) (hts (.fieldLink RY 49 "CausalGateModel" "waiting" "I") (by decide +kernel)) (fun _ h9 => h9) rfl dY_isKnown_22 ?_
        refine lv_icmp_ge (tgt := 66) hx hb dY_isKnown_25 (by decide) (fun c_25 => ?_) (fun c_25 => ?_)
        · exact absurd ((nI_leI (by omega) (by omega)).mp c_25) (by omega)
        · refine lv_iload_n hx hb dY_isKnown_28 rfl (lv_at hl 3 rfl) ?_
          refine lv_if_ne (tgt := 54) hx hb dY_isKnown_29 (by decide) (fun c_29 => ?_) (fun c_29 => ?_)
          · have hb9 : b9 = true := by cases b9; exact absurd rfl c_29; rfl
            have e8 : (b9 || (decide ((w j).1 / 256 = act) && decide ((w j).1 % 256 = q))) = true := by simp [hb9]
            refine lv_iconst (v := 1) hx hb dY_isKnown_54 (by decide) ?_
            refine tp_i (y := bI (b9 || (decide ((w j).1 / 256 = act) && decide ((w j).1 % 256 = q)))) (by rw [e8]; rfl) ?_
            refine lv_goto (tgt := 59) hx hb dY_isKnown_55 (by decide) ?_
            refine lv_istore_n (lv' := [(3, .int (bI (b9 || (decide ((w j).1 / 256 = act) && decide ((w j).1 % 256 = q))))), (0, .ref r0), (1, .int (nI act)), (2, .int (nI q)), (4, .int (nI j))]) hx hb dY_isKnown_59 rfl hl (by decide) rfl (fun ls hl => ?_)
            refine lv_iinc (v := (nI (j + 1))) (lv' := [(4, .int (nI (j + 1))), (3, .int (bI (b9 || (decide ((w j).1 / 256 = act) && decide ((w j).1 % 256 = q))))), (0, .ref r0), (1, .int (nI act)), (2, .int (nI q))]) hx hb dY_isKnown_60 hl (k := 4) rfl (nI_1 j) (by decide) rfl (fun ls hl => ?_)
            refine lv_goto (tgt := 19) hx hb dY_isKnown_63 (by decide) ?_
            exact ih (j + 1) (b9 || (decide ((w j).1 / 256 = act) && decide ((w j).1 % 256 = q))) (by omega) (by rw [← hk9]; rfl) ls (lv_sub hl [2, 3, 4, 1, 0] rfl)
          · have hb9 : b9 = false := bI_0.mp c_29
            refine lv_aload_n hx hb dY_isKnown_32 rfl (lv_at hl 0 rfl) ?_
            refine va_get (D := (dC, dI)) (ci := 1) (v := .ref b4) (C := RY) (T := TY) (N := 13) hx hb hts in_Y_isKnown_Y hown hK hP 0 rfl rfl 7 (by decide) (hts (.fieldLink RY 22 "CausalGateModel" "wActors" "[I") (by decide +kernel)) (fun _ h9 => h9) rfl dY_isKnown_33 ?_
            refine lv_iload hx hb dY_isKnown_36 (lv_at hl 4 rfl) ?_
            refine va_iald hx hb hK hP 5 4 rfl rfl (vp_in_nI (by omega) (by decide)) dY_isKnown_38 ?_
            refine tp_i (y := nI ((w j).1 / 256)) (by rw [nI_clamp (by omega)]) ?_
            have hwj := hw j (by omega)
            refine lv_iload_n hx hb dY_isKnown_39 rfl (lv_at hl 1 rfl) ?_
            refine lv_icmp_ne (tgt := 58) hx hb dY_isKnown_40 (by decide) (fun c_40 => ?_) (fun c_40 => ?_)
            · have e8 : (b9 || (decide ((w j).1 / 256 = act) && decide ((w j).1 % 256 = q))) = false := by simp [hb9]; exact fun z => absurd (by rw [z]) c_40
              refine lv_iconst (v := 0) hx hb dY_isKnown_58 (by decide) ?_
              refine tp_i (y := bI (b9 || (decide ((w j).1 / 256 = act) && decide ((w j).1 % 256 = q)))) (by rw [e8]; rfl) ?_
              refine lv_istore_n (lv' := [(3, .int (bI (b9 || (decide ((w j).1 / 256 = act) && decide ((w j).1 % 256 = q))))), (0, .ref r0), (1, .int (nI act)), (2, .int (nI q)), (4, .int (nI j))]) hx hb dY_isKnown_59 rfl hl (by decide) rfl (fun ls hl => ?_)
              refine lv_iinc (v := (nI (j + 1))) (lv' := [(4, .int (nI (j + 1))), (3, .int (bI (b9 || (decide ((w j).1 / 256 = act) && decide ((w j).1 % 256 = q))))), (0, .ref r0), (1, .int (nI act)), (2, .int (nI q))]) hx hb dY_isKnown_60 hl (k := 4) rfl (nI_1 j) (by decide) rfl (fun ls hl => ?_)
              refine lv_goto (tgt := 19) hx hb dY_isKnown_63 (by decide) ?_
              exact ih (j + 1) (b9 || (decide ((w j).1 / 256 = act) && decide ((w j).1 % 256 = q))) (by omega) (by rw [← hk9]; rfl) ls (lv_sub hl [2, 3, 4, 1, 0] rfl)
            · have c7 : (w j).1 / 256 = act := (nI_eq (by omega) (by omega)).mp c_40
              refine lv_aload_n hx hb dY_isKnown_43 rfl (lv_at hl 0 rfl) ?_
              refine va_get (D := (dC, dI)) (ci := 1) (v := .ref b5) (C := RY) (T := TY) (N := 13) hx hb hts in_Y_isKnown_Y hown hK hP 0 rfl rfl 8 (by decide) (hts (.fieldLink RY 25 "CausalGateModel" "wSeqs" "[I") (by decide +kernel)) (fun _ h9 => h9) rfl dY_isKnown_44 ?_
              refine lv_iload hx hb dY_isKnown_47 (lv_at hl 4 rfl) ?_
              refine va_iald hx hb hK hP 6 5 rfl rfl (vp_in_nI (by omega) (by decide)) dY_isKnown_49 ?_
              refine tp_i (y := nI ((w j).1 % 256)) (by rw [nI_clamp (by omega)]) ?_
              refine lv_iload_n hx hb dY_isKnown_50 rfl (lv_at hl 2 rfl) ?_
              refine lv_icmp_ne (tgt := 58) hx hb dY_isKnown_51 (by decide) (fun c_51 => ?_) (fun c_51 => ?_)
              · have e8 : (b9 || (decide ((w j).1 / 256 = act) && decide ((w j).1 % 256 = q))) = false := by simp [hb9]; exact fun _ z => absurd (by rw [z]) c_51
                refine lv_iconst (v := 0) hx hb dY_isKnown_58 (by decide) ?_
                refine tp_i (y := bI (b9 || (decide ((w j).1 / 256 = act) && decide ((w j).1 % 256 = q)))) (by rw [e8]; rfl) ?_
                refine lv_istore_n (lv' := [(3, .int (bI (b9 || (decide ((w j).1 / 256 = act) && decide ((w j).1 % 256 = q))))), (0, .ref r0), (1, .int (nI act)), (2, .int (nI q)), (4, .int (nI j))]) hx hb dY_isKnown_59 rfl hl (by decide) rfl (fun ls hl => ?_)
                refine lv_iinc (v := (nI (j + 1))) (lv' := [(4, .int (nI (j + 1))), (3, .int (bI (b9 || (decide ((w j).1 / 256 = act) && decide ((w j).1 % 256 = q))))), (0, .ref r0), (1, .int (nI act)), (2, .int (nI q))]) hx hb dY_isKnown_60 hl (k := 4) rfl (nI_1 j) (by decide) rfl (fun ls hl => ?_)
                refine lv_goto (tgt := 19) hx hb dY_isKnown_63 (by decide) ?_
                exact ih (j + 1) (b9 || (decide ((w j).1 / 256 = act) && decide ((w j).1 % 256 = q))) (by omega) (by rw [← hk9]; rfl) ls (lv_sub hl [2, 3, 4, 1, 0] rfl)
              · have e8 : (b9 || (decide ((w j).1 / 256 = act) && decide ((w j).1 % 256 = q))) = true := by simp [hb9, c7, (nI_eq (by omega) (by omega)).mp c_51]
                refine lv_iconst (v := 1) hx hb dY_isKnown_54 (by decide) ?_
                refine tp_i (y := bI (b9 || (decide ((w j).1 / 256 = act) && decide ((w j).1 % 256 = q)))) (by rw [e8]; rfl) ?_
                refine lv_goto (tgt := 59) hx hb dY_isKnown_55 (by decide) ?_
                refine lv_istore_n (lv' := [(3, .int (bI (b9 || (decide ((w j).1 / 256 = act) && decide ((w j).1 % 256 = q))))), (0, .ref r0), (1, .int (nI act)), (2, .int (nI q)), (4, .int (nI j))]) hx hb dY_isKnown_59 rfl hl (by decide) rfl (fun ls hl => ?_)
                refine lv_iinc (v := (nI (j + 1))) (lv' := [(4, .int (nI (j + 1))), (3, .int (bI (b9 || (decide ((w j).1 / 256 = act) && decide ((w j).1 % 256 = q))))), (0, .ref r0), (1, .int (nI act)), (2, .int (nI q))]) hx hb dY_isKnown_60 hl (k := 4) rfl (nI_1 j) (by decide) rfl (fun ls hl => ?_)
                refine lv_goto (tgt := 19) hx hb dY_isKnown_63 (by decide) ?_
                exact ih (j + 1) (b9 || (decide ((w j).1 / 256 = act) && decide ((w j).1 % 256 = q))) (by omega) (by rw [← hk9]; rfl) ls (lv_sub hl [2, 3, 4, 1, 0] rfl)
    exact loop wn 0 _ (by omega) rfl ls (lv_sub hl [2, 3, 4, 1, 0] rfl)
  · have c9 : decide (q ≤ cl act) = true := decide_eq_true (Nat.le_of_not_lt fun z => c_7 (nI_lt z (by omega)))
    refine lv_iconst (v := 1) hx hb dY_isKnown_10 (by decide) ?_
    refine tp_i (y := bI (decide (q ≤ cl act))) (by rw [c9]; rfl) ?_
    refine lv_goto (tgt := 15) hx hb dY_isKnown_11 (by decide) ?_
    refine lv_istore_n (lv' := [(3, .int (bI (decide (q ≤ cl act)))), (0, .ref r0), (1, .int (nI act)), (2, .int (nI q))]) hx hb dY_isKnown_15 rfl hl (by decide) rfl (fun ls hl => ?_)
    refine lv_iconst (v := 0) hx hb dY_isKnown_16 (by decide) ?_
    refine tp_i (y := nI 0) (nI_0.symm) ?_
    refine lv_istore (lv' := [(4, .int (nI 0)), (3, .int (bI (decide (q ≤ cl act)))), (0, .ref r0), (1, .int (nI act)), (2, .int (nI q))]) hx hb dY_isKnown_17 hl (by decide) rfl (fun ls hl => ?_)
    have loop : ∀ (n : Nat) (j : Nat) (b9 : Bool), j + n = wn → kmS w act q n j b9 = knM cl w wn act q → ∀ ls : Array Slot, lv_has ls 5 [(0, .ref r0), (1, .int (nI act)), (2, .int (nI q)), (3, .int (bI b9)), (4, .int (nI j))] → W p l e (headSpec wsY_isKnown ({ frames := 0, cells := 0, slots := 0, locals := 0 })).room s m args below meth c s.heap [] 0 0 (MQ below (QcRead (bI (knM cl w wn act q))) args s 0 0 (fun _ => False)) (F0 m 19 ls []) := by
      intro n
      induction n with
      | zero =>
        intro j b9 hj hk9 ls hl
        refine lv_iload hx hb dY_isKnown_19 (lv_at hl 4 rfl) ?_
        refine lv_aload_n hx hb dY_isKnown_21 rfl (lv_at hl 0 rfl) ?_
        refine va_get (D := (dC, dI)) (ci := 1) (v := .int (nI wn)) (C := RY) (T := TY) (N := 13) hx hb hts in_Y_isKnown_Y hown hK hP 0 rfl rfl 6 (by decide) (hts (.fieldLink RY 49 "CausalGateModel" "waiting" "I") (by decide +kernel)) (fun _ h9 => h9) rfl dY_isKnown_22 ?_
        refine lv_icmp_ge (tgt := 66) hx hb dY_isKnown_25 (by decide) (fun c_25 => ?_) (fun c_25 => ?_)
        · refine lv_iload_n hx hb dY_isKnown_66 rfl (lv_at hl 3 rfl) ?_
          exact rz_ret hx hb hr hlocks (bI_n _) (by rw [← hk9]; rfl) dY_isKnown_67
        · exact absurd (nI_le (by omega) (by omega)) c_25
      | succ n ih =>
        intro j b9 hj hk9 ls hl
        refine lv_iload hx hb dY_isKnown_19 (lv_at hl 4 rfl) ?_
        refine lv_aload_n hx hb dY_isKnown_21 rfl (lv_at hl 0 rfl) ?_
        refine va_get (D := (dC, dI)) (ci := 1) (v := .int (nI wn)) (C := RY) (T := TY) (N := 13) hx hb hts in_Y_isKnown_Y hown hK hP 0 rfl rfl 6 (by decide) (hts (.fieldLink RY 49 "CausalGateModel" "waiting" "I") (by decide +kernel)) (fun _ h9 => h9) rfl dY_isKnown_22 ?_
        refine lv_icmp_ge (tgt := 66) hx hb dY_isKnown_25 (by decide) (fun c_25 => ?_) (fun c_25 => ?_)
        · exact absurd ((nI_leI (by omega) (by omega)).mp c_25) (by omega)
        · refine lv_iload_n hx hb dY_isKnown_28 rfl (lv_at hl 3 rfl) ?_
          refine lv_if_ne (tgt := 54) hx hb dY_isKnown_29 (by decide) (fun c_29 => ?_) (fun c_29 => ?_)
          · have hb9 : b9 = true := by cases b9; exact absurd rfl c_29; rfl
            have e8 : (b9 || (decide ((w j).1 / 256 = act) && decide ((w j).1 % 256 = q))) = true := by simp [hb9]
            refine lv_iconst (v := 1) hx hb dY_isKnown_54 (by decide) ?_
            refine tp_i (y := bI (b9 || (decide ((w j).1 / 256 = act) && decide ((w j).1 % 256 = q)))) (by rw [e8]; rfl) ?_
            refine lv_goto (tgt := 59) hx hb dY_isKnown_55 (by decide) ?_
            refine lv_istore_n (lv' := [(3, .int (bI (b9 || (decide ((w j).1 / 256 = act) && decide ((w j).1 % 256 = q))))), (0, .ref r0), (1, .int (nI act)), (2, .int (nI q)), (4, .int (nI j))]) hx hb dY_isKnown_59 rfl hl (by decide) rfl (fun ls hl => ?_)
            refine lv_iinc (v := (nI (j + 1))) (lv' := [(4, .int (nI (j + 1))), (3, .int (bI (b9 || (decide ((w j).1 / 256 = act) && decide ((w j).1 % 256 = q))))), (0, .ref r0), (1, .int (nI act)), (2, .int (nI q))]) hx hb dY_isKnown_60 hl (k := 4) rfl (nI_1 j) (by decide) rfl (fun ls hl => ?_)
            refine lv_goto (tgt := 19) hx hb dY_isKnown_63 (by decide) ?_
            exact ih (j + 1) (b9 || (decide ((w j).1 / 256 = act) && decide ((w j).1 % 256 = q))) (by omega) (by rw [← hk9]; rfl) ls (lv_sub hl [2, 3, 4, 1, 0] rfl)
          · have hb9 : b9 = false := bI_0.mp c_29
            refine lv_aload_n hx hb dY_isKnown_32 rfl (lv_at hl 0 rfl) ?_
            refine va_get (D := (dC, dI)) (ci := 1) (v := .ref b4) (C := RY) (T := TY) (N := 13) hx hb hts in_Y_isKnown_Y hown hK hP 0 rfl rfl 7 (by decide) (hts (.fieldLink RY 22 "CausalGateModel" "wActors" "[I") (by decide +kernel)) (fun _ h9 => h9) rfl dY_isKnown_33 ?_
            refine lv_iload hx hb dY_isKnown_36 (lv_at hl 4 rfl) ?_
            refine va_iald hx hb hK hP 5 4 rfl rfl (vp_in_nI (by omega) (by decide)) dY_isKnown_38 ?_
            refine tp_i (y := nI ((w j).1 / 256)) (by rw [nI_clamp (by omega)]) ?_
            have hwj := hw j (by omega)
            refine lv_iload_n hx hb dY_isKnown_39 rfl (lv_at hl 1 rfl) ?_
            refine lv_icmp_ne (tgt := 58) hx hb dY_isKnown_40 (by decide) (fun c_40 => ?_) (fun c_40 => ?_)
            · have e8 : (b9 || (decide ((w j).1 / 256 = act) && decide ((w j).1 % 256 = q))) = false := by simp [hb9]; exact fun z => absurd (by rw [z]) c_40
              refine lv_iconst (v := 0) hx hb dY_isKnown_58 (by decide) ?_
              refine tp_i (y := bI (b9 || (decide ((w j).1 / 256 = act) && decide ((w j).1 % 256 = q)))) (by rw [e8]; rfl) ?_
              refine lv_istore_n (lv' := [(3, .int (bI (b9 || (decide ((w j).1 / 256 = act) && decide ((w j).1 % 256 = q))))), (0, .ref r0), (1, .int (nI act)), (2, .int (nI q)), (4, .int (nI j))]) hx hb dY_isKnown_59 rfl hl (by decide) rfl (fun ls hl => ?_)
              refine lv_iinc (v := (nI (j + 1))) (lv' := [(4, .int (nI (j + 1))), (3, .int (bI (b9 || (decide ((w j).1 / 256 = act) && decide ((w j).1 % 256 = q))))), (0, .ref r0), (1, .int (nI act)), (2, .int (nI q))]) hx hb dY_isKnown_60 hl (k := 4) rfl (nI_1 j) (by decide) rfl (fun ls hl => ?_)
              refine lv_goto (tgt := 19) hx hb dY_isKnown_63 (by decide) ?_
              exact ih (j + 1) (b9 || (decide ((w j).1 / 256 = act) && decide ((w j).1 % 256 = q))) (by omega) (by rw [← hk9]; rfl) ls (lv_sub hl [2, 3, 4, 1, 0] rfl)
            · have c7 : (w j).1 / 256 = act := (nI_eq (by omega) (by omega)).mp c_40
              refine lv_aload_n hx hb dY_isKnown_43 rfl (lv_at hl 0 rfl) ?_
              refine va_get (D := (dC, dI)) (ci := 1) (v := .ref b5) (C := RY) (T := TY) (N := 13) hx hb hts in_Y_isKnown_Y hown hK hP 0 rfl rfl 8 (by decide) (hts (.fieldLink RY 25 "CausalGateModel" "wSeqs" "[I") (by decide +kernel)) (fun _ h9 => h9) rfl dY_isKnown_44 ?_
              refine lv_iload hx hb dY_isKnown_47 (lv_at hl 4 rfl) ?_
              refine va_iald hx hb hK hP 6 5 rfl rfl (vp_in_nI (by omega) (by decide)) dY_isKnown_49 ?_
              refine tp_i (y := nI ((w j).1 % 256)) (by rw [nI_clamp (by omega)]) ?_
              refine lv_iload_n hx hb dY_isKnown_50 rfl (lv_at hl 2 rfl) ?_
              refine lv_icmp_ne (tgt := 58) hx hb dY_isKnown_51 (by decide) (fun c_51 => ?_) (fun c_51 => ?_)
              · have e8 : (b9 || (decide ((w j).1 / 256 = act) && decide ((w j).1 % 256 = q))) = false := by simp [hb9]; exact fun _ z => absurd (by rw [z]) c_51
                refine lv_iconst (v := 0) hx hb dY_isKnown_58 (by decide) ?_
                refine tp_i (y := bI (b9 || (decide ((w j).1 / 256 = act) && decide ((w j).1 % 256 = q)))) (by rw [e8]; rfl) ?_
                refine lv_istore_n (lv' := [(3, .int (bI (b9 || (decide ((w j).1 / 256 = act) && decide ((w j).1 % 256 = q))))), (0, .ref r0), (1, .int (nI act)), (2, .int (nI q)), (4, .int (nI j))]) hx hb dY_isKnown_59 rfl hl (by decide) rfl (fun ls hl => ?_)
                refine lv_iinc (v := (nI (j + 1))) (lv' := [(4, .int (nI (j + 1))), (3, .int (bI (b9 || (decide ((w j).1 / 256 = act) && decide ((w j).1 % 256 = q))))), (0, .ref r0), (1, .int (nI act)), (2, .int (nI q))]) hx hb dY_isKnown_60 hl (k := 4) rfl (nI_1 j) (by decide) rfl (fun ls hl => ?_)
                refine lv_goto (tgt := 19) hx hb dY_isKnown_63 (by decide) ?_
                exact ih (j + 1) (b9 || (decide ((w j).1 / 256 = act) && decide ((w j).1 % 256 = q))) (by omega) (by rw [← hk9]; rfl) ls (lv_sub hl [2, 3, 4, 1, 0] rfl)
              · have e8 : (b9 || (decide ((w j).1 / 256 = act) && decide ((w j).1 % 256 = q))) = true := by simp [hb9, c7, (nI_eq (by omega) (by omega)).mp c_51]
                refine lv_iconst (v := 1) hx hb dY_isKnown_54 (by decide) ?_
                refine tp_i (y := bI (b9 || (decide ((w j).1 / 256 = act) && decide ((w j).1 % 256 = q)))) (by rw [e8]; rfl) ?_
                refine lv_goto (tgt := 59) hx hb dY_isKnown_55 (by decide) ?_
                refine lv_istore_n (lv' := [(3, .int (bI (b9 || (decide ((w j).1 / 256 = act) && decide ((w j).1 % 256 = q))))), (0, .ref r0), (1, .int (nI act)), (2, .int (nI q)), (4, .int (nI j))]) hx hb dY_isKnown_59 rfl hl (by decide) rfl (fun ls hl => ?_)
                refine lv_iinc (v := (nI (j + 1))) (lv' := [(4, .int (nI (j + 1))), (3, .int (bI (b9 || (decide ((w j).1 / 256 = act) && decide ((w j).1 % 256 = q))))), (0, .ref r0), (1, .int (nI act)), (2, .int (nI q))]) hx hb dY_isKnown_60 hl (k := 4) rfl (nI_1 j) (by decide) rfl (fun ls hl => ?_)
                refine lv_goto (tgt := 19) hx hb dY_isKnown_63 (by decide) ?_
                exact ih (j + 1) (b9 || (decide ((w j).1 / 256 = act) && decide ((w j).1 % 256 = q))) (by omega) (by rw [← hk9]; rfl) ls (lv_sub hl [2, 3, 4, 1, 0] rfl)
    exact loop wn 0 _ (by omega) rfl ls (lv_sub hl [2, 3, 4, 1, 0] rfl)

set_option maxRecDepth 20000 in
theorem in_Y_ready_Y : ∀ w ∈ wsY0, w ∈ wsY_ready := by decide +kernel

set_option maxHeartbeats 4000000 in
set_option maxRecDepth 100000 in
theorem kY_ready (l : Launch) (dC : Nat → ClassId) (dI : Nat → Nat → Nat) (cb : Nat → ClassId) (r0 b0 b1 b2 b3 b4 b5 b6 b7 : Nat) (th : Int32) (cl : Nat → Nat) (t : TF) (tn : Nat) (w : WF) (wn : Nat) (ko mw : Nat) (hcl : ∀ a, a < 8 → cl a < 256) (hwn : wn ≤ 65) (hw : ∀ j, j < wn → (w j).1 < 2048)  : Met l yY_ready wsY_ready ({ frames := 3, cells := 0, slots := 0, locals := 71 }) (Pr [.ref r0] (dC, dI) clS [(cb 0, .int), (cb 1, .int), (cb 2, .int), (cb 3, .int), (cb 4, .int), (cb 5, .int), (cb 6, .long), (cb 7, .int)] [(r0, .inr (1, [.int th, .ref b0, .int (nI tn), .ref b1, .ref b2, .ref b3, .int (nI wn), .ref b4, .ref b5, .ref b6, .ref b7, .int (nI ko), .int (nI mw)])), (b0, .inl (cb 0, 8, .inl (fun z9 => nI (cl z9)))), (b1, .inl (cb 1, 2040, .inl (fun z9 => nI ((t z9).1 / 256)))), (b2, .inl (cb 2, 2040, .inl (fun z9 => nI ((t z9).1 % 256)))), (b3, .inl (cb 3, 2040, .inl (fun z9 => (t z9).2))), (b4, .inl (cb 4, 65, .inl (fun z9 => nI ((w z9).1 / 256)))), (b5, .inl (cb 5, 65, .inl (fun z9 => nI ((w z9).1 % 256)))), (b6, .inl (cb 6, 65, .inr (.inl (fun z9 => (w z9).2.1)))), (b7, .inl (cb 7, 65, .inl (fun z9 => (w z9).2.2)))]) (QcRead (oI (rdS cl w wn none))) 0 0 (fun _ => False) := by
  refine Met.ofW (cc := cY_ready) (maxL := 3) (ret := (some .int)) (by decide) rfl ?_
  intro p e s m args below meth c s₁ B hml hv
  obtain ⟨hargs, hP, hK⟩ := hv
  have hx := B.exec
  have hb := B.bytes
  have hr := B.returns
  have hts := atoms_spec (ws := wsY_ready) B.pre
  have hown : s.vm.findClass RY = some m.cls := findClass_of_methodNamed B.named
  have hlocks := B.notSynchronized
  have hP : va_P (dC, dI) clS [(r0, .inr (1, [.int th, .ref b0, .int (nI tn), .ref b1, .ref b2, .ref b3, .int (nI wn), .ref b4, .ref b5, .ref b6, .ref b7, .int (nI ko), .int (nI mw)])), (b0, .inl (cb 0, 8, .inl (fun z9 => nI (cl z9)))), (b1, .inl (cb 1, 2040, .inl (fun z9 => nI ((t z9).1 / 256)))), (b2, .inl (cb 2, 2040, .inl (fun z9 => nI ((t z9).1 % 256)))), (b3, .inl (cb 3, 2040, .inl (fun z9 => (t z9).2))), (b4, .inl (cb 4, 65, .inl (fun z9 => nI ((w z9).1 / 256)))), (b5, .inl (cb 5, 65, .inl (fun z9 => nI ((w z9).1 % 256)))), (b6, .inl (cb 6, 65, .inr (.inl (fun z9 => (w z9).2.1)))), (b7, .inl (cb 7, 65, .inl (fun z9 => (w z9).2.2)))] s.heap := hP
  have hl := lv_entry ([.ref r0]) (n := 3) (Nat.le_of_ble_eq_true rfl)
  have hE : entryFrame m args 3 = F0 m 0 ((lg_sl ([.ref r0]) ++ List.replicate (3 - (lg_sl ([.ref r0])).length) Slot.unset).toArray) [] := by rw [hargs]; exact lg_entry_eq m ([.ref r0]) 3
  rw [hE]
  generalize (lg_sl ([.ref r0]) ++ List.replicate (3 - (lg_sl ([.ref r0])).length) Slot.unset).toArray = ls at hl ⊢
  have hl : lv_has ls 3 [(0, .ref r0)] := hl
  refine lv_iconst (v := -1) hx hb dY_ready_0 (by decide) ?_
  refine tp_i (y := oI none) (rfl) ?_
  refine lv_istore_n (lv' := [(1, .int (oI none)), (0, .ref r0)]) hx hb dY_ready_1 rfl hl (by decide) rfl (fun ls hl => ?_)
  refine lv_aload_n hx hb dY_ready_2 rfl (lv_at hl 1 rfl) ?_
  refine va_get (D := (dC, dI)) (ci := 1) (v := .int (nI wn)) (C := RY) (T := TY) (N := 13) hx hb hts in_Y_ready_Y hown hK hP 0 rfl rfl 6 (by decide) (hts (.fieldLink RY 49 "CausalGateModel" "waiting" "I") (by decide +kernel)) (fun _ h9 => h9) rfl dY_ready_3 ?_
  refine lv_iconst (v := 1) hx hb dY_ready_6 (by decide) ?_
  refine lv_isub hx hb dY_ready_7 ?_
  refine tp_i (y := dN wn) (dN_sub wn) ?_
  refine lv_istore_n (lv' := [(2, .int (dN wn)), (1, .int (oI none)), (0, .ref r0)]) hx hb dY_ready_8 rfl hl (by decide) rfl (fun ls hl => ?_)
  have loop : ∀ (n : Nat) (f : Option Nat), n ≤ wn → rdS cl w n f = rdS cl w wn none → ∀ ls : Array Slot, lv_has ls 3 [(0, .ref r0), (1, .int (oI f)), (2, .int (dN n))] → W p l e (headSpec wsY_ready ({ frames := 3, cells := 0, slots := 0, locals := 71 })).room s m args below meth c s.heap [] 0 0 (MQ below (QcRead (oI (rdS cl w wn none))) args s 0 0 (fun _ => False)) (F0 m 9 ls []) := by
    intro n
    induction n with
    | zero =>
      intro f hn hk9 ls hl
      have hl : lv_has ls 3 [(0, .ref r0), (1, .int (oI f)), (2, .int (-1))] := hl
      refine lv_iload_n hx hb dY_ready_9 rfl (lv_at hl 2 rfl) ?_
      refine lv_if_lt (tgt := 50) hx hb dY_ready_10 (by decide) (fun c_10 => ?_) (fun c_10 => ?_)
      · refine lv_iload_n hx hb dY_ready_50 rfl (lv_at hl 1 rfl) ?_
        exact ri_ret hx hb hr hlocks (by rw [← hk9]; rfl) dY_ready_51
      · exact absurd (by decide) c_10
    | succ n ih =>
      intro f hn hk9 ls hl
      have hl : lv_has ls 3 [(0, .ref r0), (1, .int (oI f)), (2, .int (nI n))] := hl
      refine lv_iload_n hx hb dY_ready_9 rfl (lv_at hl 2 rfl) ?_
      refine lv_if_lt (tgt := 50) hx hb dY_ready_10 (by decide) (fun c_10 => ?_) (fun c_10 => ?_)
      · exact absurd c_10 (nI_pos (by omega))
      · refine lv_aload_n hx hb dY_ready_13 rfl (lv_at hl 0 rfl) ?_
        refine lv_aload_n hx hb dY_ready_14 rfl (lv_at hl 0 rfl) ?_
        refine va_get (D := (dC, dI)) (ci := 1) (v := .ref b4) (C := RY) (T := TY) (N := 13) hx hb hts in_Y_ready_Y hown hK hP 0 rfl rfl 7 (by decide) (hts (.fieldLink RY 22 "CausalGateModel" "wActors" "[I") (by decide +kernel)) (fun _ h9 => h9) rfl dY_ready_15 ?_
        refine lv_iload_n hx hb dY_ready_18 rfl (lv_at hl 2 rfl) ?_
        refine va_iald hx hb hK hP 5 4 rfl rfl (vp_in_nI (by omega) (by decide)) dY_ready_19 ?_
        refine tp_i (y := nI ((w n).1 / 256)) (by rw [nI_clamp (by omega)]) ?_
        have hwj := hw n (by omega)
        refine lv_aload_n hx hb dY_ready_20 rfl (lv_at hl 0 rfl) ?_
        refine va_get (D := (dC, dI)) (ci := 1) (v := .ref b5) (C := RY) (T := TY) (N := 13) hx hb hts in_Y_ready_Y hown hK hP 0 rfl rfl 8 (by decide) (hts (.fieldLink RY 25 "CausalGateModel" "wSeqs" "[I") (by decide +kernel)) (fun _ h9 => h9) rfl dY_ready_21 ?_
        refine lv_iload_n hx hb dY_ready_24 rfl (lv_at hl 2 rfl) ?_
        refine va_iald hx hb hK hP 6 5 rfl rfl (vp_in_nI (by omega) (by decide)) dY_ready_25 ?_
        refine tp_i (y := nI ((w n).1 % 256)) (by rw [nI_clamp (by omega)]) ?_
        refine lv_aload_n hx hb dY_ready_26 rfl (lv_at hl 0 rfl) ?_
        refine va_get (D := (dC, dI)) (ci := 1) (v := .ref b6) (C := RY) (T := TY) (N := 13) hx hb hts in_Y_ready_Y hown hK hP 0 rfl rfl 9 (by decide) (hts (.fieldLink RY 28 "CausalGateModel" "wClocks" "[J") (by decide +kernel)) (fun _ h9 => h9) rfl dY_ready_27 ?_
        refine lv_iload_n hx hb dY_ready_30 rfl (lv_at hl 2 rfl) ?_
        refine va_lald hx hb hK hP 7 6 rfl rfl (vp_in_nI (by omega) (by decide)) dY_ready_31 ?_
        refine tp_l (y := (w n).2.1) (by rw [nI_clamp (by omega)]) ?_
        refine rd_i (W.runV (As := [.int (nI ((w n).1 / 256)), .int (nI ((w n).1 % 256)), .long ((w n).2.1)]) (rest := []) ⟨hx, hb, hml, hown, hts⟩ (kY_canCome l dC dI cb r0 b0 b1 b2 b3 b4 b5 b6 b7 th cl t tn w wn ko mw hcl ((w n).1 / 256) ((w n).1 % 256) ((w n).2.1) (by omega) (by omega)) (cwV 3 hts gY_ready_Y_canCome rfl rfl rfl (by decide +kernel) ⟨Nat.le_of_ble_eq_true rfl, Nat.le_of_ble_eq_true rfl⟩) (pr_V (ci := 1) (q0 := 0) hK hP rfl rfl) rfl rfl hl.1 rfl (lv_room (Nat.le_of_ble_eq_true rfl)) dY_ready_32 ⟨Nat.zero_le _, Nat.zero_le _⟩) ?_
        refine lv_if_eq (tgt := 42) hx hb dY_ready_35 (by decide) (fun c_35 => ?_) (fun c_35 => ?_)
        · have c7 : ¬ (cnM cl ((w n).1 / 256) ((w n).1 % 256) (w n).2.1 = true) := by rw [bI_0.mp c_35]; decide
          refine lv_iload_n hx hb dY_ready_42 rfl (lv_at hl 1 rfl) ?_
          refine tp_i (y := oI (if cnM cl ((w n).1 / 256) ((w n).1 % 256) (w n).2.1 = true then some n else f)) (by rw [if_neg c7]) ?_
          refine lv_istore_n (lv' := [(1, .int (oI (if cnM cl ((w n).1 / 256) ((w n).1 % 256) (w n).2.1 = true then some n else f))), (0, .ref r0), (2, .int (nI n))]) hx hb dY_ready_43 rfl hl (by decide) rfl (fun ls hl => ?_)
          refine lv_iinc (v := (dN n)) (lv' := [(2, .int (dN n)), (1, .int (oI (if cnM cl ((w n).1 / 256) ((w n).1 % 256) (w n).2.1 = true then some n else f))), (0, .ref r0)]) hx hb dY_ready_44 hl (k := 2) rfl (dN_dec n) (by decide) rfl (fun ls hl => ?_)
          refine lv_goto (tgt := 9) hx hb dY_ready_47 (by decide) ?_
          exact ih _ (by omega) (by rw [← hk9]; rfl) ls (lv_sub hl [2, 1, 0] rfl)
        · have c7 : cnM cl ((w n).1 / 256) ((w n).1 % 256) (w n).2.1 = true := by cases hq : cnM cl ((w n).1 / 256) ((w n).1 % 256) (w n).2.1; exact absurd (by rw [hq]; rfl) c_35; rfl
          refine lv_iload_n hx hb dY_ready_38 rfl (lv_at hl 2 rfl) ?_
          refine lv_goto (tgt := 43) hx hb dY_ready_39 (by decide) ?_
          refine tp_i (y := oI (if cnM cl ((w n).1 / 256) ((w n).1 % 256) (w n).2.1 = true then some n else f)) (by rw [if_pos c7]; rfl) ?_
          refine lv_istore_n (lv' := [(1, .int (oI (if cnM cl ((w n).1 / 256) ((w n).1 % 256) (w n).2.1 = true then some n else f))), (0, .ref r0), (2, .int (nI n))]) hx hb dY_ready_43 rfl hl (by decide) rfl (fun ls hl => ?_)
          refine lv_iinc (v := (dN n)) (lv' := [(2, .int (dN n)), (1, .int (oI (if cnM cl ((w n).1 / 256) ((w n).1 % 256) (w n).2.1 = true then some n else f))), (0, .ref r0)]) hx hb dY_ready_44 hl (k := 2) rfl (dN_dec n) (by decide) rfl (fun ls hl => ?_)
          refine lv_goto (tgt := 9) hx hb dY_ready_47 (by decide) ?_
          exact ih _ (by omega) (by rw [← hk9]; rfl) ls (lv_sub hl [2, 1, 0] rfl)
  exact loop wn none (Nat.le_refl _) rfl ls (lv_sub hl [2, 1, 0] rfl)

set_option maxRecDepth 20000 in
theorem in_Y_lacks_Y : ∀ w ∈ wsY0, w ∈ wsY_lacks := by decide +kernel

set_option maxHeartbeats 4000000 in
set_option maxRecDepth 100000 in
theorem kY_lacks (l : Launch) (dC : Nat → ClassId) (dI : Nat → Nat → Nat) (cb : Nat → ClassId) (r0 b0 b1 b2 b3 b4 b5 b6 b7 : Nat) (th : Int32) (cl : Nat → Nat) (t : TF) (tn : Nat) (w : WF) (wn : Nat) (ko mw : Nat) (htn : tn ≤ 2040) (ht : ∀ j, j < tn → (t j).1 < 2048) (ck : Int64) (j : Nat) (hj : j < tn) : Met l yY_lacks wsY_lacks ({ frames := 1, cells := 0, slots := 0, locals := 22 }) (Pr [.ref r0, .long ck, .int (nI j)] (dC, dI) clS [(cb 0, .int), (cb 1, .int), (cb 2, .int), (cb 3, .int), (cb 4, .int), (cb 5, .int), (cb 6, .long), (cb 7, .int)] [(r0, .inr (1, [.int th, .ref b0, .int (nI tn), .ref b1, .ref b2, .ref b3, .int (nI wn), .ref b4, .ref b5, .ref b6, .ref b7, .int (nI ko), .int (nI mw)])), (b0, .inl (cb 0, 8, .inl (fun z9 => nI (cl z9)))), (b1, .inl (cb 1, 2040, .inl (fun z9 => nI ((t z9).1 / 256)))), (b2, .inl (cb 2, 2040, .inl (fun z9 => nI ((t z9).1 % 256)))), (b3, .inl (cb 3, 2040, .inl (fun z9 => (t z9).2))), (b4, .inl (cb 4, 65, .inl (fun z9 => nI ((w z9).1 / 256)))), (b5, .inl (cb 5, 65, .inl (fun z9 => nI ((w z9).1 % 256)))), (b6, .inl (cb 6, 65, .inr (.inl (fun z9 => (w z9).2.1)))), (b7, .inl (cb 7, 65, .inl (fun z9 => (w z9).2.2)))]) (QcRead (bI (lcM t ck j))) 0 0 (fun _ => False) := by
  refine Met.ofW (cc := cY_lacks) (maxL := 4) (ret := (some .boolean)) (by decide) rfl ?_
  intro p e s m args below meth c s₁ B hml hv
  obtain ⟨hargs, hP, hK⟩ := hv
  have hx := B.exec
  have hb := B.bytes
  have hr := B.returns
  have hts := atoms_spec (ws := wsY_lacks) B.pre
  have hown : s.vm.findClass RY = some m.cls := findClass_of_methodNamed B.named
  have hlocks := B.notSynchronized
  have hP : va_P (dC, dI) clS [(r0, .inr (1, [.int th, .ref b0, .int (nI tn), .ref b1, .ref b2, .ref b3, .int (nI wn), .ref b4, .ref b5, .ref b6, .ref b7, .int (nI ko), .int (nI mw)])), (b0, .inl (cb 0, 8, .inl (fun z9 => nI (cl z9)))), (b1, .inl (cb 1, 2040, .inl (fun z9 => nI ((t z9).1 / 256)))), (b2, .inl (cb 2, 2040, .inl (fun z9 => nI ((t z9).1 % 256)))), (b3, .inl (cb 3, 2040, .inl (fun z9 => (t z9).2))), (b4, .inl (cb 4, 65, .inl (fun z9 => nI ((w z9).1 / 256)))), (b5, .inl (cb 5, 65, .inl (fun z9 => nI ((w z9).1 % 256)))), (b6, .inl (cb 6, 65, .inr (.inl (fun z9 => (w z9).2.1)))), (b7, .inl (cb 7, 65, .inl (fun z9 => (w z9).2.2)))] s.heap := hP
  have hl := lv_entry ([.ref r0, .long ck, .int (nI j)]) (n := 4) (Nat.le_of_ble_eq_true rfl)
  have hE : entryFrame m args 4 = F0 m 0 ((lg_sl ([.ref r0, .long ck, .int (nI j)]) ++ List.replicate (4 - (lg_sl ([.ref r0, .long ck, .int (nI j)])).length) Slot.unset).toArray) [] := by rw [hargs]; exact lg_entry_eq m ([.ref r0, .long ck, .int (nI j)]) 4
  rw [hE]
  generalize (lg_sl ([.ref r0, .long ck, .int (nI j)]) ++ List.replicate (4 - (lg_sl ([.ref r0, .long ck, .int (nI j)])).length) Slot.unset).toArray = ls at hl ⊢
  have hl : lv_has ls 4 [(0, .ref r0), (1, .long ck), (3, .int (nI j))] := hl
  have htj := ht j hj
  refine lv_aload_n hx hb dY_lacks_0 rfl (lv_at hl 0 rfl) ?_
  refine va_get (D := (dC, dI)) (ci := 1) (v := .ref b2) (C := RY) (T := TY) (N := 13) hx hb hts in_Y_lacks_Y hown hK hP 0 rfl rfl 4 (by decide) (hts (.fieldLink RY 16 "CausalGateModel" "seqs" "[I") (by decide +kernel)) (fun _ h9 => h9) rfl dY_lacks_1 ?_
  refine lv_iload_n hx hb dY_lacks_4 rfl (lv_at hl 2 rfl) ?_
  refine va_iald hx hb hK hP 3 2 rfl rfl (vp_in_nI (by omega) (by decide)) dY_lacks_5 ?_
  refine tp_i (y := nI ((t j).1 % 256)) (by rw [nI_clamp (by omega)]) ?_
  refine lv_lload_n hx hb dY_lacks_6 rfl (lv_at hl 1 rfl) ?_
  refine lv_aload_n hx hb dY_lacks_7 rfl (lv_at hl 0 rfl) ?_
  refine va_get (D := (dC, dI)) (ci := 1) (v := .ref b1) (C := RY) (T := TY) (N := 13) hx hb hts in_Y_lacks_Y hown hK hP 0 rfl rfl 3 (by decide) (hts (.fieldLink RY 13 "CausalGateModel" "actors" "[I") (by decide +kernel)) (fun _ h9 => h9) rfl dY_lacks_8 ?_
  refine lv_iload_n hx hb dY_lacks_11 rfl (lv_at hl 2 rfl) ?_
  refine va_iald hx hb hK hP 2 1 rfl rfl (vp_in_nI (by omega) (by decide)) dY_lacks_12 ?_
  refine tp_i (y := nI ((t j).1 / 256)) (by rw [nI_clamp (by omega)]) ?_
  refine rd_i (W.runS (As := [.long ck, .int (nI ((t j).1 / 256))]) (rest := [.int (nI ((t j).1 % 256))]) ⟨hx, hb, hml, hown, hts⟩ (kY_part l ck ((t j).1 / 256) (by omega)) (va_cwS 2 hts gY_lacks_Y_part rfl rfl rfl (by decide +kernel) ⟨Nat.le_of_ble_eq_true rfl, Nat.le_of_ble_eq_true rfl⟩) preEq rfl rfl hl.1 rfl (lv_room (Nat.le_of_ble_eq_true rfl)) dY_lacks_13 ⟨Nat.zero_le _, Nat.zero_le _⟩) ?_
  refine lv_icmp_le (tgt := 23) hx hb dY_lacks_16 (by decide) (fun c_16 => ?_) (fun c_16 => ?_)
  · have c9 : lcM t ck j = false := decide_eq_false (Nat.not_lt.mpr ((nI_leI (by have := by_lt ck ((t j).1 / 256); omega) (by have := by_lt ck ((t j).1 / 256); omega)).mp c_16))
    refine lv_iconst (v := 0) hx hb dY_lacks_23 (by decide) ?_
    exact rz_ret hx hb hr hlocks (rfl) (by rw [c9]; rfl) dY_lacks_24
  · have c9 : lcM t ck j = true := decide_eq_true (Nat.lt_of_not_le fun z => c_16 (nI_le z (by have := by_lt ck ((t j).1 / 256); omega)))
    refine lv_iconst (v := 1) hx hb dY_lacks_19 (by decide) ?_
    refine lv_goto (tgt := 24) hx hb dY_lacks_20 (by decide) ?_
    exact rz_ret hx hb hr hlocks (rfl) (by rw [c9]; rfl) dY_lacks_24
