theorem lim_gt {L k : Nat} (hL : L ≤ 3072) (hk : k ≤ 600) : (Int32.ofNat L - 6 < nI (6 * k)) ↔ L < 6 * k + 6 := by
  have e : Int32.ofNat L - 6 = nI L - nI 6 := rfl
  rw [e, Int32.lt_iff_toInt_lt, pk_sub_toInt (by omega) (by omega), nI_toInt (by omega)]
  omega
set_option maxHeartbeats 4000000 in
set_option maxRecDepth 100000 in
theorem law_loop {p : Program} {l : Launch} {e : Env} {s : State} {m : MethodId} {below : List Frame} {meth : Method} {c : Code} {dC : Nat → ClassId} {dI : Nat → Nat → Nat} {b L : Nat} {xs : Nat → Int32} {sa1 sa2 sa3 : Nat} (htr : l.stackTraces = false) (hL : L ≤ 3072) (C0 : lw_At p s m meth c b L xs) (F9 : lw_F s sa1 sa2 sa3) {ca : Nat → ClassId} {h0 a0 a1 a2 a3 a4 : Nat} {cb : Nat → ClassId} {r0 b0 b1 b2 b3 b4 b5 b6 b7 : Nat} {co : ClassId} {o0 : Nat} (hK : va_K (dC, dI) clS [(ca 0, .int), (ca 1, .int), (ca 2, .int), (ca 3, .long), (ca 4, .int), (cb 0, .int), (cb 1, .int), (cb 2, .int), (cb 3, .int), (cb 4, .int), (cb 5, .int), (cb 6, .long), (cb 7, .int), (co, .long)] s) : ∀ (n k : Nat), 6 * (k + n) ≤ L → L < 6 * (k + n) + 6 → ∀ (t : TF) (tn : Nat) (w : WF) (wn : Nat) (g : Int64) (ko mw : Nat) (th : Int32) (w2 : WF) (cl : Nat → Nat) (fo : Nat → Int64), Iv (k) t tn w wn g w2 cl mw → ∀ (H : Heap) (locs : List Loc), va_P (dC, dI) clS [(h0, .inr (0, [.ref a0, .ref a1, .int (nI tn), .ref a2, .ref a3, .ref a4, .int (nI wn), .long g, .int (nI ko), .int (nI mw)])), (a0, .inl (ca 0, 512, .inl (fun z9 => nI (t z9).1))), (a1, .inl (ca 1, 512, .inl (fun z9 => (t z9).2))), (a2, .inl (ca 2, 65, .inl (fun z9 => nI (w z9).1))), (a3, .inl (ca 3, 65, .inr (.inl (fun z9 => (w z9).2.1)))), (a4, .inl (ca 4, 65, .inl (fun z9 => (w z9).2.2))), (r0, .inr (1, [.int th, .ref b0, .int (nI tn), .ref b1, .ref b2, .ref b3, .int (nI wn), .ref b4, .ref b5, .ref b6, .ref b7, .int (nI ko), .int (nI mw)])), (b0, .inl (cb 0, 8, .inl (fun z9 => nI (cl z9)))), (b1, .inl (cb 1, 2040, .inl (fun z9 => nI ((t z9).1 / 256)))), (b2, .inl (cb 2, 2040, .inl (fun z9 => nI ((t z9).1 % 256)))), (b3, .inl (cb 3, 2040, .inl (fun z9 => (t z9).2))), (b4, .inl (cb 4, 65, .inl (fun z9 => nI ((w2 z9).1 / 256)))), (b5, .inl (cb 5, 65, .inl (fun z9 => nI ((w2 z9).1 % 256)))), (b6, .inl (cb 6, 65, .inr (.inl (fun z9 => (w2 z9).2.1)))), (b7, .inl (cb 7, 65, .inl (fun z9 => (w2 z9).2.2))), (o0, .inl (co, 1, .inr (.inl fo)))] H → va_D (fun q : Nat => s.heap.size ≤ q) [(h0, .inr (0, [.ref a0, .ref a1, .int (nI tn), .ref a2, .ref a3, .ref a4, .int (nI wn), .long g, .int (nI ko), .int (nI mw)])), (a0, .inl (ca 0, 512, .inl (fun z9 => nI (t z9).1))), (a1, .inl (ca 1, 512, .inl (fun z9 => (t z9).2))), (a2, .inl (ca 2, 65, .inl (fun z9 => nI (w z9).1))), (a3, .inl (ca 3, 65, .inr (.inl (fun z9 => (w z9).2.1)))), (a4, .inl (ca 4, 65, .inl (fun z9 => (w z9).2.2))), (r0, .inr (1, [.int th, .ref b0, .int (nI tn), .ref b1, .ref b2, .ref b3, .int (nI wn), .ref b4, .ref b5, .ref b6, .ref b7, .int (nI ko), .int (nI mw)])), (b0, .inl (cb 0, 8, .inl (fun z9 => nI (cl z9)))), (b1, .inl (cb 1, 2040, .inl (fun z9 => nI ((t z9).1 / 256)))), (b2, .inl (cb 2, 2040, .inl (fun z9 => nI ((t z9).1 % 256)))), (b3, .inl (cb 3, 2040, .inl (fun z9 => (t z9).2))), (b4, .inl (cb 4, 65, .inl (fun z9 => nI ((w2 z9).1 / 256)))), (b5, .inl (cb 5, 65, .inl (fun z9 => nI ((w2 z9).1 % 256)))), (b6, .inl (cb 6, 65, .inr (.inl (fun z9 => (w2 z9).2.1)))), (b7, .inl (cb 7, 65, .inl (fun z9 => (w2 z9).2.2))), (o0, .inl (co, 1, .inr (.inl fo)))] → va_S (fun q : Nat => s.heap.size ≤ q) s.heap H locs → ∀ ls : Array Slot, lv_has ls 7 [(0, .ref b), (1, .ref h0), (2, .ref r0), (3, .ref o0), (4, .int (nI (6 * k)))] → W p l e room_1 s m #[Value.ref b] below meth c H locs (16 + k) (7631 + 6 * k) (lw_Z below #[Value.ref b] s) (F0 m 23 ls []) := by
  obtain ⟨hx, hb, hr, hml, hown, hts, hX, hbl, hlocks, hgv⟩ := id C0
  have hown : s.vm.findClass RL = some m.cls := hown
  have hA : ∀ q : Nat, s.heap.size ≤ q → (fun q : Nat => s.heap.size ≤ q) q := fun _ h => h
  have hbA : ¬ (fun q : Nat => s.heap.size ≤ q) b := Nat.not_le.mpr hbl
  intro n
  induction n with
  | zero =>
    intro k h1 h2 t tn w wn g ko mw th w2 cl fo hI H locs hP hD hS ls hl
    refine lv_iload hx hb dL_law_23 (lv_at hl 4 rfl) ?_
    refine lv_aload_n hx hb dL_law_25 rfl (lv_at hl 0 rfl) ?_
    refine va_slen hx hb hX hbl hbA hS dL_law_26 ?_
    refine lv_bipush (v := 6) hx hb dL_law_27 (by decide) ?_
    refine lv_isub hx hb dL_law_29 ?_
    refine lv_icmp_gt (tgt := 661) hx hb dL_law_30 (by decide) (fun c_30 => ?_) (fun c_30 => ?_)
    · refine lv_iconst (v := 1) hx hb dL_law_661 (by decide) ?_
      refine va_forget hS.2.2 ?_
      refine W.widen (k := 1044) (n := 15847) (by omega) (by omega) ?_
      exact lw_ret hx hb hr hlocks dL_law_662
    · exact absurd ((lim_gt hL (by omega)).mpr (by omega)) c_30
  | succ n ih =>
    intro k h1 h2 t tn w wn g ko mw th w2 cl fo hI H locs hP hD hS ls hl
    have kk : ∀ (t : TF) (tn : Nat) (w : WF) (wn : Nat) (g : Int64) (ko mw : Nat) (th : Int32) (w2 : WF) (cl : Nat → Nat) (fo : Nat → Int64), Iv (k + 1) t tn w wn g w2 cl mw → ∀ (H : Heap) (locs : List Loc), va_P (dC, dI) clS [(h0, .inr (0, [.ref a0, .ref a1, .int (nI tn), .ref a2, .ref a3, .ref a4, .int (nI wn), .long g, .int (nI ko), .int (nI mw)])), (a0, .inl (ca 0, 512, .inl (fun z9 => nI (t z9).1))), (a1, .inl (ca 1, 512, .inl (fun z9 => (t z9).2))), (a2, .inl (ca 2, 65, .inl (fun z9 => nI (w z9).1))), (a3, .inl (ca 3, 65, .inr (.inl (fun z9 => (w z9).2.1)))), (a4, .inl (ca 4, 65, .inl (fun z9 => (w z9).2.2))), (r0, .inr (1, [.int th, .ref b0, .int (nI tn), .ref b1, .ref b2, .ref b3, .int (nI wn), .ref b4, .ref b5, .ref b6, .ref b7, .int (nI ko), .int (nI mw)])), (b0, .inl (cb 0, 8, .inl (fun z9 => nI (cl z9)))), (b1, .inl (cb 1, 2040, .inl (fun z9 => nI ((t z9).1 / 256)))), (b2, .inl (cb 2, 2040, .inl (fun z9 => nI ((t z9).1 % 256)))), (b3, .inl (cb 3, 2040, .inl (fun z9 => (t z9).2))), (b4, .inl (cb 4, 65, .inl (fun z9 => nI ((w2 z9).1 / 256)))), (b5, .inl (cb 5, 65, .inl (fun z9 => nI ((w2 z9).1 % 256)))), (b6, .inl (cb 6, 65, .inr (.inl (fun z9 => (w2 z9).2.1)))), (b7, .inl (cb 7, 65, .inl (fun z9 => (w2 z9).2.2))), (o0, .inl (co, 1, .inr (.inl fo)))] H → va_D (fun q : Nat => s.heap.size ≤ q) [(h0, .inr (0, [.ref a0, .ref a1, .int (nI tn), .ref a2, .ref a3, .ref a4, .int (nI wn), .long g, .int (nI ko), .int (nI mw)])), (a0, .inl (ca 0, 512, .inl (fun z9 => nI (t z9).1))), (a1, .inl (ca 1, 512, .inl (fun z9 => (t z9).2))), (a2, .inl (ca 2, 65, .inl (fun z9 => nI (w z9).1))), (a3, .inl (ca 3, 65, .inr (.inl (fun z9 => (w z9).2.1)))), (a4, .inl (ca 4, 65, .inl (fun z9 => (w z9).2.2))), (r0, .inr (1, [.int th, .ref b0, .int (nI tn), .ref b1, .ref b2, .ref b3, .int (nI wn), .ref b4, .ref b5, .ref b6, .ref b7, .int (nI ko), .int (nI mw)])), (b0, .inl (cb 0, 8, .inl (fun z9 => nI (cl z9)))), (b1, .inl (cb 1, 2040, .inl (fun z9 => nI ((t z9).1 / 256)))), (b2, .inl (cb 2, 2040, .inl (fun z9 => nI ((t z9).1 % 256)))), (b3, .inl (cb 3, 2040, .inl (fun z9 => (t z9).2))), (b4, .inl (cb 4, 65, .inl (fun z9 => nI ((w2 z9).1 / 256)))), (b5, .inl (cb 5, 65, .inl (fun z9 => nI ((w2 z9).1 % 256)))), (b6, .inl (cb 6, 65, .inr (.inl (fun z9 => (w2 z9).2.1)))), (b7, .inl (cb 7, 65, .inl (fun z9 => (w2 z9).2.2))), (o0, .inl (co, 1, .inr (.inl fo)))] → va_S (fun q : Nat => s.heap.size ≤ q) s.heap H locs → ∀ ls : Array Slot, lv_has ls 7 [(0, .ref b), (1, .ref h0), (2, .ref r0), (3, .ref o0), (4, .int (nI (6 * k)))] → W p l e room_1 s m #[Value.ref b] below meth c H locs (16 + (k + 1)) (7631 + 6 * (k + 1)) (lw_Z below #[Value.ref b] s) (F0 m 655 ls []) := by
      intro t tn w wn g ko mw th w2 cl fo hI H locs hP hD hS ls hl
      refine lv_iinc (v := (nI (6 * (k + 1)))) (lv' := [(4, .int (nI (6 * (k + 1)))), (0, .ref b), (1, .ref h0), (2, .ref r0), (3, .ref o0)]) hx hb dL_law_655 hl (k := 4) rfl (by show _ = nI (6 * k + 6); exact nI_add (6 * k) 6) (by decide) rfl (fun ls hl => ?_)
      refine lv_goto (tgt := 23) hx hb dL_law_658 (by decide) ?_
      exact ih (k + 1) (by omega) (by omega) t tn w wn g ko mw th w2 cl fo hI H locs hP hD hS ls (lv_sub hl [1, 2, 3, 4, 0] rfl)
    have hk6 : 6 * k + 6 ≤ L := by omega
    refine lv_iload hx hb dL_law_23 (lv_at hl 4 rfl) ?_
    refine lv_aload_n hx hb dL_law_25 rfl (lv_at hl 0 rfl) ?_
    refine va_slen hx hb hX hbl hbA hS dL_law_26 ?_
    refine lv_bipush (v := 6) hx hb dL_law_27 (by decide) ?_
    refine lv_isub hx hb dL_law_29 ?_
    refine lv_icmp_gt (tgt := 661) hx hb dL_law_30 (by decide) (fun c_30 => ?_) (fun c_30 => ?_)
    · exact absurd ((lim_gt hL (by omega)).mp c_30) (by omega)
    · refine lv_aload_n hx hb dL_law_33 rfl (lv_at hl 0 rfl) ?_
      refine lv_iload hx hb dL_law_34 (lv_at hl 4 rfl) ?_
      refine va_sld hx hb hX hbl hbA hS (vp_in_nI (by omega) (by omega)) dL_law_36 ?_
      refine tp_i (y := xs (6 * k)) (by rw [nI_clamp (by omega)]) ?_
      refine lv_bipush (v := 15) hx hb dL_law_37 (by decide) ?_
      refine lv_iand hx hb dL_law_39 ?_
      refine lv_topi (fun x9 ex9 => ?_)
      by_cases s40_0 : x9 = 0
      · refine lv_tableIn (off := 60) (tgt := 100) hx hb dL_law_40 (by rw [s40_0]; decide) (by rw [s40_0]; decide) (by rw [s40_0]; rfl) (by decide) ?_
        exact law_c0 htr hL C0 F9 hK k hk6 t tn w wn g ko mw th w2 cl fo hI H locs hP hD hS ls hl kk
      by_cases s40_1 : x9 = 1
      · refine lv_tableIn (off := 71) (tgt := 111) hx hb dL_law_40 (by rw [s40_1]; decide) (by rw [s40_1]; decide) (by rw [s40_1]; rfl) (by decide) ?_
        exact law_c1 htr hL C0 F9 hK k hk6 t tn w wn g ko mw th w2 cl fo hI H locs hP hD hS ls hl kk
      by_cases s40_2 : x9 = 2
      · refine lv_tableIn (off := 195) (tgt := 235) hx hb dL_law_40 (by rw [s40_2]; decide) (by rw [s40_2]; decide) (by rw [s40_2]; rfl) (by decide) ?_
        exact law_c2 htr hL C0 F9 hK k hk6 t tn w wn g ko mw th w2 cl fo hI H locs hP hD hS ls hl kk
      by_cases s40_3 : x9 = 3
      · refine lv_tableIn (off := 232) (tgt := 272) hx hb dL_law_40 (by rw [s40_3]; decide) (by rw [s40_3]; decide) (by rw [s40_3]; rfl) (by decide) ?_
        exact law_c3 htr hL C0 F9 hK k hk6 t tn w wn g ko mw th w2 cl fo hI H locs hP hD hS ls hl kk
      by_cases s40_4 : x9 = 4
      · refine lv_tableIn (off := 246) (tgt := 286) hx hb dL_law_40 (by rw [s40_4]; decide) (by rw [s40_4]; decide) (by rw [s40_4]; rfl) (by decide) ?_
        exact law_c4 htr hL C0 F9 hK k hk6 t tn w wn g ko mw th w2 cl fo hI H locs hP hD hS ls hl kk
      by_cases s40_5 : x9 = 5
      · refine lv_tableIn (off := 314) (tgt := 354) hx hb dL_law_40 (by rw [s40_5]; decide) (by rw [s40_5]; decide) (by rw [s40_5]; rfl) (by decide) ?_
        exact law_c5 htr hL C0 F9 hK k hk6 t tn w wn g ko mw th w2 cl fo hI H locs hP hD hS ls hl kk
      by_cases s40_6 : x9 = 6
      · refine lv_tableIn (off := 382) (tgt := 422) hx hb dL_law_40 (by rw [s40_6]; decide) (by rw [s40_6]; decide) (by rw [s40_6]; rfl) (by decide) ?_
        exact law_c6 htr hL C0 F9 hK k hk6 t tn w wn g ko mw th w2 cl fo hI H locs hP hD hS ls hl kk
      by_cases s40_7 : x9 = 7
      · refine lv_tableIn (off := 439) (tgt := 479) hx hb dL_law_40 (by rw [s40_7]; decide) (by rw [s40_7]; decide) (by rw [s40_7]; rfl) (by decide) ?_
        exact law_c7 htr hL C0 F9 hK k hk6 t tn w wn g ko mw th w2 cl fo hI H locs hP hD hS ls hl kk
      by_cases s40_8 : x9 = 8
      · refine lv_tableIn (off := 508) (tgt := 548) hx hb dL_law_40 (by rw [s40_8]; decide) (by rw [s40_8]; decide) (by rw [s40_8]; rfl) (by decide) ?_
        exact law_c8 htr hL C0 F9 hK k hk6 t tn w wn g ko mw th w2 cl fo hI H locs hP hD hS ls hl kk
      by_cases s40_9 : x9 = 9
      · refine lv_tableIn (off := 565) (tgt := 605) hx hb dL_law_40 (by rw [s40_9]; decide) (by rw [s40_9]; decide) (by rw [s40_9]; rfl) (by decide) ?_
        exact law_c9 htr hL C0 F9 hK k hk6 t tn w wn g ko mw th w2 cl fo hI H locs hP hD hS ls hl kk
      by_cases s40_10 : x9 = 10
      · refine lv_tableIn (off := 590) (tgt := 630) hx hb dL_law_40 (by rw [s40_10]; decide) (by rw [s40_10]; decide) (by rw [s40_10]; rfl) (by decide) ?_
        exact law_c10 htr hL C0 F9 hK k hk6 t tn w wn g ko mw th w2 cl fo hI H locs hP hD hS ls hl kk
      refine lv_tableOut (tgt := 655) hx hb dL_law_40 (by have := lv_neT s40_0 (a := 0) (by decide); have := lv_neT s40_1 (a := 1) (by decide); have := lv_neT s40_2 (a := 2) (by decide); have := lv_neT s40_3 (a := 3) (by decide); have := lv_neT s40_4 (a := 4) (by decide); have := lv_neT s40_5 (a := 5) (by decide); have := lv_neT s40_6 (a := 6) (by decide); have := lv_neT s40_7 (a := 7) (by decide); have := lv_neT s40_8 (a := 8) (by decide); have := lv_neT s40_9 (a := 9) (by decide); have := lv_neT s40_10 (a := 10) (by decide); omega) (by decide) ?_
      refine W.widen (k := 16 + (k + 1)) (n := 7631 + 6 * (k + 1)) (by omega) (by omega) ?_
      exact kk t tn w wn g ko mw th w2 cl fo (Iv_up hI) H locs hP hD hS ls hl
