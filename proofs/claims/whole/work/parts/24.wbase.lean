section KB3
variable {p : Program} {l : Launch} {e : Env} {R : Room} {s : State} {m : MethodId} {args : Array Value} {below : List Frame} {meth : Method} {c : Code} {H : Heap} {locs : List Loc} {cells slots : Nat} {Q : State → Prop}
variable {pc : Nat} {ls : Array Slot} {rest st0 : List Value}
theorem tx_i {D : va_G} {cl : List vw_C} {ws wc wr : va_W} {A : Nat → Prop} {H0 : Heap} {a : Array Value} {E : String} (isC isR : List Nat) (hP : va_P D cl ws H) (hD : va_D A ws) (hS : va_S A H0 H locs) (hA : ∀ q, H0.size ≤ q → A q) (hC : isC.map (fun i => ws[i]?) = wc.map some) (hR : isR.map (fun i => ws[i]?) = wr.map some) (hn : va_nd isR = true) (hdis : ∀ i ∈ isR, i ∉ isC)
    (hr : vx_Run p l e R s m args below meth c H locs cells slots 1 6 (F0 m pc ls st0) rest (Qn wc H.size a) (Xc D cl wc H.size E) (va_A wc H.size))
    (kx : ∀ (ce : Cell) (q9 : Addr) (H1 : Heap) (locs1 : List Loc), va_P D cl (wr ++ wc) H1 → va_D A (wr ++ wc) → va_S A H0 H1 locs1 → H1[q9]? = some ce → ce.vm = .none → s.vm.findClass E = some ce.cls → vx_W p l e R s m args below meth c H1 locs1 (cells + 1) (slots + 6) Q (F0 m pc ls rest) q9) : W p l e R s m args below meth c H locs cells slots Q (F0 m pc ls st0) := by
  have hF := va_free hD hS hA isC hC
  refine vx_calli hr hS (fun q _ h => hF q h) hF (fun q _ h => hF q h) (fun E' ce q9 u t H1 locs1 ht hvm hpx hB hz1 hk1 hS1 hce hcv hcl => ?_) (fun r u t H1 locs1 ht hvm hw hB => hw.elim)
  obtain ⟨hEe, hP1, hD1⟩ := hB
  subst hEe
  rw [ht] at hP1
  obtain ⟨hP2, hD2⟩ := va_join hP hD isC isR hC hR hn hdis hk1 hF hP1 hD1
  exact kx ce q9 H1 locs1 hP2 hD2 hS1 hce hcv hcl
theorem px_V {As : List Value} {D : va_G} {cl : List vw_C} {tys : List (ClassId × FieldType)} {ws : va_W} {A : Nat → Prop} {b q0 ci : Nat} {q : vw_C} {fs : List Value} {own : String} {k : Nat} {tx : String} {sa : Nat} {E : String} (hK : va_K D cl tys s) (hP : va_P D cl ws H) (hD : va_D A ws) (hc : cl[ci]? = some q) (he : ws[q0]? = some (b, .inr (ci, fs)))
    (hstr : vk_R own k tx sa s) (hcast : va_Nw (.castable E E) s ∧ Dc s) (hU : vx_Zq Bundle.tN "UNASSIGNED_STACK" Bundle.steD A s s.heap) (hN : vx_Zq Bundle.tN "SUPPRESSED_SENTINEL" Bundle.listD A s s.heap) (hS : va_S A s.heap H locs) (hF : ∀ q, va_A ws H.size q → A q) :
    PreV s H q.1 b (Px (.ref b :: As) D cl tys ws H.size own k tx sa E) As :=
  ⟨Px_blind, va_recv hK hP hc he, fun U hU' hW => ⟨rfl, ⟨by rw [hU'], by rw [hU']; exact hP, va_K.moved hW.alike hK, hD.weaken (fun _ _ _ _ => trivial)⟩, vk_R.warm hW hstr, ⟨va_Nw.warmC hW hcast.1, Dc.warm hW hcast.2⟩,
    by rw [hU']; exact ((vx_Zq.moved hW.alike (hU.kept hS.2.1)).narrow hF), by rw [hU']; exact ((vx_Zq.moved hW.alike (hN.kept hS.2.1)).narrow hF)⟩⟩
theorem px_S {As : List Value} {D : va_G} {cl : List vw_C} {tys : List (ClassId × FieldType)} {ws : va_W} {A : Nat → Prop} {own : String} {k : Nat} {tx : String} {sa : Nat} {E : String} (hK : va_K D cl tys s) (hP : va_P D cl ws H) (hD : va_D A ws)
    (hstr : vk_R own k tx sa s) (hcast : va_Nw (.castable E E) s ∧ Dc s) (hU : vx_Zq Bundle.tN "UNASSIGNED_STACK" Bundle.steD A s s.heap) (hN : vx_Zq Bundle.tN "SUPPRESSED_SENTINEL" Bundle.listD A s s.heap) (hS : va_S A s.heap H locs) (hF : ∀ q, va_A ws H.size q → A q) :
    PreS s H (Px As D cl tys ws H.size own k tx sa E) As :=
  ⟨Px_blind, fun U hU' hW => ⟨rfl, ⟨by rw [hU'], by rw [hU']; exact hP, va_K.moved hW.alike hK, hD.weaken (fun _ _ _ _ => trivial)⟩, vk_R.warm hW hstr, ⟨va_Nw.warmC hW hcast.1, Dc.warm hW hcast.2⟩,
    by rw [hU']; exact ((vx_Zq.moved hW.alike (hU.kept hS.2.1)).narrow hF), by rw [hU']; exact ((vx_Zq.moved hW.alike (hN.kept hS.2.1)).narrow hF)⟩⟩
def PxN (E E2 : String) (Pc : Array Value → State → Prop) : Array Value → State → Prop := fun v U => Pc v U ∧ va_Nc E E2 U
theorem PxN_blind {E E2 : String} {Pc : Array Value → State → Prop} (h : FrameBlind Pc) : FrameBlind (PxN E E2 Pc) := fun a U g mk q => ⟨h a U g mk q.1, va_Nc.moved (u := U) (U := U.calling g mk a) (Vm.Alike.refl U.vm) q.2⟩
theorem pxn_S {E E2 : String} {Pc : Array Value → State → Prop} {As : List Value} (h : PreS s H Pc As) (hn : va_Nc E E2 s) : PreS s H (PxN E E2 Pc) As :=
  ⟨PxN_blind h.1, fun U hU hW => ⟨h.2 U hU hW, va_Nc.moved hW.alike hn⟩⟩
end KB3
