def lst (w : WF) (n : Nat) : List (Nat × Int64 × Int32) := (List.range n).map w
theorem lst_len (w : WF) (n : Nat) : (lst w n).length = n := by simp [lst]
theorem lst_at (w : WF) {n j : Nat} (h : j < n) : (lst w n)[j]? = some (w j) := by simp [lst, h]
theorem lst_get (w : WF) {n j : Nat} (h : j < (lst w n).length) : (lst w n)[j] = w j := by simp [lst]
theorem lst_succ (w : WF) (n : Nat) : lst w (n + 1) = lst w n ++ [w n] := by simp [lst, List.range_succ]
theorem lst_congr {w v : WF} {n : Nat} (h : ∀ j, j < n → w j = v j) : lst w n = lst v n := by
  unfold lst
  exact List.map_congr_left (fun j hj => h j (List.mem_range.mp hj))
theorem lst_inj {w v : WF} {n m : Nat} (h : lst w n = lst v m) : n = m ∧ ∀ j, j < n → w j = v j := by
  have hl : n = m := by rw [← lst_len w n, h, lst_len]
  subst hl
  refine ⟨rfl, fun j hj => ?_⟩
  have h1 := lst_at w hj
  rw [h, lst_at v hj] at h1
  exact (Option.some.inj h1).symm
theorem srt_lst {w : WF} {n : Nat} : Srt w n ↔ (lst w n).Pairwise (fun a b => a.1 < b.1) := by
  rw [List.pairwise_iff_getElem]
  constructor
  · intro h i j hi hj hij
    rw [lst_get, lst_get]
    rw [lst_len] at hj
    exact h i j hij hj
  · intro h i j hij hj
    have := h i j (by rw [lst_len]; omega) (by rw [lst_len]; omega) hij
    rw [lst_get, lst_get] at this
    exact this
def kp_ (act : Int32) (e : Nat × Int64 × Int32) : Bool := !decide (nI (e.1 / 256) = act)
theorem fgS_l (act : Int32) (w : WF) : ∀ (n j kept : Nat) (v : WF), kept ≤ j → lst v kept = (lst w j).filter (kp_ act) → (∀ i, j ≤ i → v i = w i) → lst (fgS act n j kept v).1 (fgS act n j kept v).2 = (lst w (j + n)).filter (kp_ act) := by
  intro n
  induction n with
  | zero => intro j kept v _ h _; exact h
  | succ n ih =>
    intro j kept v hk h hv
    have hvj := hv j (Nat.le_refl _)
    by_cases q : nI ((v j).1 / 256) = act
    · have e : fgS act (n + 1) j kept v = fgS act n (j + 1) kept v := by simp only [fgS]; rw [if_pos q]
      rw [e, show j + (n + 1) = j + 1 + n by omega]
      refine ih (j + 1) kept v (by omega) ?_ (fun i hi => hv i (by omega))
      rw [lst_succ, List.filter_append, h]
      have : kp_ act (w j) = false := by rw [← hvj]; simp [kp_, q]
      simp [this]
    · have e : fgS act (n + 1) j kept v = fgS act n (j + 1) (kept + 1) (va_up v kept (v j)) := by simp only [fgS]; rw [if_neg q]
      rw [e, show j + (n + 1) = j + 1 + n by omega]
      refine ih (j + 1) (kept + 1) _ (by omega) ?_ (fun i hi => by rw [va_up_ne _ _ (by omega)]; exact hv i (by omega))
      rw [lst_succ, va_up_self, lst_congr (v := v) (fun i hi => va_up_ne _ _ (by omega)), lst_succ w j, List.filter_append, h]
      have : kp_ act (w j) = true := by rw [← hvj]; simp [kp_, q]
      simp [this, hvj]
theorem lst_rm (v : WF) {vn q : Nat} (hq : q < vn) : lst (rmS (vn - (q + 1)) (q + 1) v) (vn - 1) = lst v q ++ (lst v vn).drop (q + 1) := by
  apply List.ext_getElem?
  intro i
  by_cases hi : i < vn - 1
  · rw [lst_at _ hi, rmS_eq _ _ _ _ (by omega)]
    by_cases z : i < q
    · rw [if_neg (by omega), List.getElem?_append_left (by rw [lst_len]; exact z), lst_at _ z]
    · rw [if_pos (by omega), List.getElem?_append_right (by rw [lst_len]; omega), lst_len, List.getElem?_drop, lst_at _ (by omega)]
      congr 2
      omega
  · rw [List.getElem?_eq_none (by rw [lst_len]; omega), List.getElem?_eq_none]
    rw [List.length_append, List.length_drop, lst_len, lst_len]
    omega
theorem fgM_l (act : Int32) (w : WF) : ∀ (n vn x : Nat) (v : WF) (r : List (Nat × Int64 × Int32)), n ≤ vn → (∀ i, i < n → v i = w i) → lst v vn = lst w n ++ r →
    lst (fgM act n vn x v).1 (fgM act n vn x v).2.1 = (lst w n).filter (kp_ act) ++ r ∧ (fgM act n vn x v).2.2 + (fgM act n vn x v).2.1 = x + vn := by
  intro n
  induction n with
  | zero => intro vn x v r _ _ h; exact ⟨h, rfl⟩
  | succ n ih =>
    intro vn x v r hn hv h
    have hvn := hv n (by omega)
    by_cases q : nI ((v n).1 / 256) = act
    · have e : fgM act (n + 1) vn x v = fgM act n (vn - 1) (x + 1) (rmS (vn - (n + 1)) (n + 1) v) := by simp only [fgM]; rw [if_pos q]
      rw [e]
      obtain ⟨a1, a2⟩ := ih (vn - 1) (x + 1) (rmS (vn - (n + 1)) (n + 1) v) r (by omega) (fun i hi => by rw [rmS_eq _ _ _ _ (by omega), if_neg (by omega)]; exact hv i (by omega)) (by
        rw [lst_rm v (by omega), h, lst_congr (v := w) (fun i hi => hv i (by omega)), List.drop_append_of_le_length (by rw [lst_len]; omega), List.drop_eq_nil_of_le (by rw [lst_len]; omega), List.nil_append])
      refine ⟨?_, by omega⟩
      rw [a1, lst_succ, List.filter_append]
      have : kp_ act (w n) = false := by rw [← hvn]; simp [kp_, q]
      simp [this]
    · have e : fgM act (n + 1) vn x v = fgM act n vn x v := by simp only [fgM]; rw [if_neg q]
      rw [e]
      obtain ⟨a1, a2⟩ := ih vn x v (w n :: r) (by omega) (fun i hi => hv i (by omega)) (by rw [h, lst_succ]; simp)
      refine ⟨?_, a2⟩
      rw [a1, lst_succ, List.filter_append]
      have : kp_ act (w n) = true := by rw [← hvn]; simp [kp_, q]
      simp [this]
theorem fg_rel {t : TF} {tn : Nat} {w : WF} {wn : Nat} {g : Int64} {w2 : WF} {cl : Nat → Nat} (act : Int32) (h : Rl t tn w wn g w2 cl) (h7 : ∀ j, j < wn → ¬ lk g (w j).1 (w j).2.1 = none) :
    (fgM act wn wn 0 w2).2.1 = (fgS act wn 0 0 w).2 ∧ (fgM act wn wn 0 w2).2.2 = wn - (fgS act wn 0 0 w).2 ∧ (fgS act wn 0 0 w).2 ≤ wn ∧ Rl t tn (fgS act wn 0 0 w).1 (fgS act wn 0 0 w).2 g (fgM act wn wn 0 w2).1 cl ∧ ∀ j, j < (fgS act wn 0 0 w).2 → ¬ lk g ((fgS act wn 0 0 w).1 j).1 ((fgS act wn 0 0 w).1 j).2.1 = none := by
  obtain ⟨j1, j2, j3, j4, j5, j6, j7, j8⟩ := h
  have a := fgS_l act w wn 0 0 w (Nat.le_refl _) rfl (fun i _ => rfl)
  rw [Nat.zero_add] at a
  obtain ⟨b, b2⟩ := fgM_l act w2 wn wn 0 w2 [] (Nat.le_refl _) (fun i _ => rfl) (by simp)
  rw [List.append_nil, ← lst_congr j2, ← a] at b
  obtain ⟨e1, e2⟩ := lst_inj b
  have hm : ∀ j, j < (fgS act wn 0 0 w).2 → ∃ i, i < wn ∧ (fgS act wn 0 0 w).1 j = w i := fun j hj => by
    have h1 : (fgS act wn 0 0 w).1 j ∈ lst (fgS act wn 0 0 w).1 (fgS act wn 0 0 w).2 := List.mem_of_getElem? (lst_at _ hj)
    rw [a] at h1
    have h2 := (List.mem_filter.mp h1).1
    unfold lst at h2
    obtain ⟨i, hi, hie⟩ := List.mem_map.mp h2
    exact ⟨i, List.mem_range.mp hi, hie.symm⟩
  have hle : (fgS act wn 0 0 w).2 ≤ wn := by
    have h1 := congrArg List.length a
    rw [lst_len] at h1
    have h2 := List.length_filter_le (kp_ act) (lst w wn)
    rw [lst_len] at h2
    omega
  refine ⟨e1, by omega, hle, ⟨j1, fun j hj => (e2 j (by omega)).symm, fun j hj => ?_, ?_, j5, fun j hj => ?_, by omega, j8⟩, fun j hj => ?_⟩
  · obtain ⟨i, hi, e⟩ := hm j hj; rw [e]; exact j3 i hi
  · rw [srt_lst, a]; exact (srt_lst.mp j4).filter _
  · obtain ⟨i, hi, e⟩ := hm j hj; rw [e]; exact j6 i hi
  · obtain ⟨i, hi, e⟩ := hm j hj; rw [e]; exact h7 i hi
