def vf_X12_in (v : Int64) (lo : Int64) (hi : Int64) : Int32 := (if (lg_cmp v lo) < 0 then 0 else (if 0 < (lg_cmp v hi) then 0 else 1))
set_option maxHeartbeats 4000000 in
set_option maxRecDepth 100000 in
theorem c_X12_in (l : Launch) (dC : Nat → ClassId) (dI : Nat → Nat → Nat) (g : Nat × Nat × Nat) (v : Int64) (lo : Int64) (hi : Int64) (sz : Nat) : Met l yX12_in wsX12_in ({ frames := 0, cells := 0, slots := 0, locals := 0 } : Room) (va_Pc [.long v, .long lo, .long hi] (wIn dC dI g [] [] sz)) (va_Qi (fun (r : Int32) (u : Unit) => r = vf_X12_in v lo hi) (fun (u : Unit) (t : State) => wOut dC dI [] [] (va_A [] sz) t) (va_A [] sz)) 0 0 (va_A [] sz) := by
  refine Met.ofW (cc := cX12_in) (maxL := 6) (ret := (some .boolean)) (by decide) rfl ?_
  intro p e s m args below meth c s₁ B hml hv
  obtain ⟨rfl, hsz, hP, hK, hD0, hG⟩ := hv
  have hx := B.exec
  have hb := B.bytes
  have hr := B.returns
  have hts := atoms_spec (ws := wsX12_in) B.pre
  have hown : s.vm.findClass RX12 = some m.cls := findClass_of_methodNamed B.named
  have hlocks := B.notSynchronized
  subst hsz
  have hD := hD0.self (sz := s.heap.size)
  generalize hAe : va_A [] s.heap.size = A at hD hG ⊢
  have hN := hG.1
  have hA : ∀ q : Nat, s.heap.size ≤ q → A q := fun q h => by rw [← hAe]; exact Or.inr h
  have hS : va_S A s.heap s.heap [] := va_S.rf
  have hP : va_P (dC, dI) vwCl [] s.heap := hP
  have hl := lv_entry ([.long v, .long lo, .long hi]) (n := 6) (Nat.le_of_ble_eq_true rfl)
  rw [lg_entry_eq]
  generalize (lg_sl ([.long v, .long lo, .long hi]) ++ List.replicate (6 - (lg_sl ([.long v, .long lo, .long hi])).length) Slot.unset).toArray = ls at hl ⊢
  have hl : lv_has ls 6 [(0, .long v), (2, .long lo), (4, .long hi)] := hl
  refine lv_lload_n hx hb dX12_in_0 rfl (lv_at hl 0 rfl) ?_
  refine lv_lload_n hx hb dX12_in_1 rfl (lv_at hl 1 rfl) ?_
  refine W.lcmp hx hb dX12_in_2 ?_
  refine lv_if_lt (tgt := 17) hx hb dX12_in_3 (by decide) (fun c_3 => ?_) (fun c_3 => ?_)
  · refine lv_iconst (v := 0) hx hb dX12_in_17 (by decide) ?_
    have hP9 := hP.sub (ws' := []) [] rfl
    have hD9 := hD.sub (ws' := []) [] (by decide) rfl
    have hK9 := hK.sub (tys' := []) [] rfl
    exact W.zret (v := 0) hx hb hr (by first | rfl | decide) (fun t ht hW => ⟨⟨0, (), rfl, (by unfold vf_X12_in; rw [if_pos c_3]), wOut_at ht hW hP9 hK9 hD9⟩, hS.F ht⟩) hS.2.2 dX12_in_18
  · refine lv_lload_n hx hb dX12_in_6 rfl (lv_at hl 0 rfl) ?_
    refine lv_lload hx hb dX12_in_7 (lv_at hl 2 rfl) ?_
    refine W.lcmp hx hb dX12_in_9 ?_
    refine lv_if_gt (tgt := 17) hx hb dX12_in_10 (by decide) (fun c_10 => ?_) (fun c_10 => ?_)
    · refine lv_iconst (v := 0) hx hb dX12_in_17 (by decide) ?_
      have hP9 := hP.sub (ws' := []) [] rfl
      have hD9 := hD.sub (ws' := []) [] (by decide) rfl
      have hK9 := hK.sub (tys' := []) [] rfl
      exact W.zret (v := 0) hx hb hr (by first | rfl | decide) (fun t ht hW => ⟨⟨0, (), rfl, (by unfold vf_X12_in; rw [if_neg c_3, if_pos c_10]), wOut_at ht hW hP9 hK9 hD9⟩, hS.F ht⟩) hS.2.2 dX12_in_18
    · refine lv_iconst (v := 1) hx hb dX12_in_13 (by decide) ?_
      refine lv_goto (tgt := 18) hx hb dX12_in_14 (by decide) ?_
      have hP9 := hP.sub (ws' := []) [] rfl
      have hD9 := hD.sub (ws' := []) [] (by decide) rfl
      have hK9 := hK.sub (tys' := []) [] rfl
      exact W.zret (v := 1) hx hb hr (by first | rfl | decide) (fun t ht hW => ⟨⟨1, (), rfl, (by unfold vf_X12_in; rw [if_neg c_3, if_neg c_10]), wOut_at ht hW hP9 hK9 hD9⟩, hS.F ht⟩) hS.2.2 dX12_in_18
theorem vf_in_nar (v lo hi : Int64) : narrow .boolean (.int (vf_X12_in v lo hi)) = .int (vf_X12_in v lo hi) := by
  unfold vf_X12_in
  split
  · rfl
  · split <;> rfl
theorem in_bounds {x : Int32} {lo hi : Int64} {a b : Int} (hlo : lo.toInt = a) (hhi : hi.toInt = b) (h : ¬ vf_X12_in x.toInt64 lo hi = 0) : a ≤ x.toInt ∧ x.toInt ≤ b := by
  unfold vf_X12_in at h
  split at h
  · exact absurd rfl h
  · rename_i h1
    split at h
    · exact absurd rfl h
    · rename_i h2
      rw [lg_cmp_lt, Int64.lt_iff_toInt_lt, Int32.toInt_toInt64, hlo] at h1
      rw [lg_cmp_gt, Int64.lt_iff_toInt_lt, Int32.toInt_toInt64, hhi] at h2
      omega
theorem in_eq {x k : Int32} {n : Int} (hk : k.toInt = n) (h : x.toInt = n) : x = k := Int32.toInt_inj.mp (h.trans hk.symm)
theorem in_1_3 {x : Int32} (h : ¬ vf_X12_in x.toInt64 1 3 = 0) : x = 1 ∨ x = 2 ∨ x = 3 := by
  have hb := in_bounds (a := 1) (b := 3) rfl rfl h
  have h3 : x.toInt = 1 ∨ x.toInt = 2 ∨ x.toInt = 3 := by omega
  rcases h3 with h3 | h3 | h3
  · exact Or.inl (in_eq rfl h3)
  · exact Or.inr (Or.inl (in_eq rfl h3))
  · exact Or.inr (Or.inr (in_eq rfl h3))
theorem in_0_3 {x : Int32} (h : ¬ vf_X12_in x.toInt64 0 3 = 0) : x = 0 ∨ x = 1 ∨ x = 2 ∨ x = 3 := by
  have hb := in_bounds (a := 0) (b := 3) rfl rfl h
  have h3 : x.toInt = 0 ∨ x.toInt = 1 ∨ x.toInt = 2 ∨ x.toInt = 3 := by omega
  rcases h3 with h3 | h3 | h3 | h3
  · exact Or.inl (in_eq rfl h3)
  · exact Or.inr (Or.inl (in_eq rfl h3))
  · exact Or.inr (Or.inr (Or.inl (in_eq rfl h3)))
  · exact Or.inr (Or.inr (Or.inr (in_eq rfl h3)))
theorem in_0_7 {x : Int32} (h : ¬ vf_X12_in x.toInt64 0 7 = 0) : x = 0 ∨ x = 1 ∨ x = 2 ∨ x = 3 ∨ x = 4 ∨ x = 5 ∨ x = 6 ∨ x = 7 := by
  have hb := in_bounds (a := 0) (b := 7) rfl rfl h
  have h3 : x.toInt = 0 ∨ x.toInt = 1 ∨ x.toInt = 2 ∨ x.toInt = 3 ∨ x.toInt = 4 ∨ x.toInt = 5 ∨ x.toInt = 6 ∨ x.toInt = 7 := by omega
  rcases h3 with h3 | h3 | h3 | h3 | h3 | h3 | h3 | h3
  · exact Or.inl (in_eq rfl h3)
  · exact Or.inr (Or.inl (in_eq rfl h3))
  · exact Or.inr (Or.inr (Or.inl (in_eq rfl h3)))
  · exact Or.inr (Or.inr (Or.inr (Or.inl (in_eq rfl h3))))
  · exact Or.inr (Or.inr (Or.inr (Or.inr (Or.inl (in_eq rfl h3)))))
  · exact Or.inr (Or.inr (Or.inr (Or.inr (Or.inr (Or.inl (in_eq rfl h3))))))
  · exact Or.inr (Or.inr (Or.inr (Or.inr (Or.inr (Or.inr (Or.inl (in_eq rfl h3)))))))
  · exact Or.inr (Or.inr (Or.inr (Or.inr (Or.inr (Or.inr (Or.inr (in_eq rfl h3)))))))
theorem in_none (x : Int32) : vf_X12_in x.toInt64 0 (-1) = 0 := by
  by_cases h : vf_X12_in x.toInt64 0 (-1) = 0
  · exact h
  · have hb := in_bounds (a := 0) (b := -1) rfl rfl h
    omega
theorem in_nat {x : Int32} {hi : Int64} {n : Nat} (hhi : hi.toInt = n) (h : ¬ vf_X12_in x.toInt64 1 hi = 0) : ∃ N : Nat, N ≤ n ∧ x = nI N := by
  have hb := in_bounds (a := 1) rfl hhi h
  refine ⟨x.toInt.toNat, by omega, ?_⟩
  apply Int32.toInt_inj.mp
  have h1 := Int32.toInt_lt x
  rw [nI_toInt (by omega)]
  omega
set_option maxHeartbeats 4000000 in
set_option maxRecDepth 100000 in
theorem c_X12_isTimer (l : Launch) (dC : Nat → ClassId) (dI : Nat → Nat → Nat) (g : Nat × Nat × Nat) (x : Int32) (sz : Nat) : Met l yX12_isTimer wsX12_isTimer ({ frames := 1, cells := 0, slots := 0, locals := 25 } : Room) (va_Pc [.int x] (wIn dC dI g [] [] sz)) (va_Qi (fun (r : Int32) (u : Unit) => r = vf_X12_in ((x).toInt64) 0 3) (fun (u : Unit) (t : State) => wOut dC dI [] [] (va_A [] sz) t) (va_A [] sz)) 0 0 (va_A [] sz) := by
  refine Met.ofW (cc := cX12_isTimer) (maxL := 1) (ret := (some .boolean)) (by decide) rfl ?_
  intro p e s m args below meth c s₁ B hml hv
  obtain ⟨rfl, hsz, hP, hK, hD0, hG⟩ := hv
  have hx := B.exec
  have hb := B.bytes
  have hr := B.returns
  have hts := atoms_spec (ws := wsX12_isTimer) B.pre
  have hown : s.vm.findClass RX12 = some m.cls := findClass_of_methodNamed B.named
  have hlocks := B.notSynchronized
  subst hsz
  have hD := hD0.self (sz := s.heap.size)
  generalize hAe : va_A [] s.heap.size = A at hD hG ⊢
  have hN := hG.1
  have hA : ∀ q : Nat, s.heap.size ≤ q → A q := fun q h => by rw [← hAe]; exact Or.inr h
  have hS : va_S A s.heap s.heap [] := va_S.rf
  have hP : va_P (dC, dI) vwCl [] s.heap := hP
  have hw0 : (Cond.constantLong RX12 56 (3)).before _ s = true := hts _ (List.mem_cons_of_mem _ (List.mem_of_getElem? (i := 0) rfl))
  have hl := lv_entry ([.int x]) (n := 1) (Nat.le_of_ble_eq_true rfl)
  rw [lg_entry_eq]
  generalize (lg_sl ([.int x]) ++ List.replicate (1 - (lg_sl ([.int x])).length) Slot.unset).toArray = ls at hl ⊢
  have hl : lv_has ls 1 [(0, .int x)] := hl
  refine lv_iload_n hx hb dX12_isTimer_0 rfl (lv_at hl 0 rfl) ?_
  refine lv_i2l (v := (x).toInt64) hx hb dX12_isTimer_1 (by first | rfl | decide) ?_
  refine lv_lconst (v := 0) hx hb dX12_isTimer_2 rfl ?_
  refine lv_ldc2 (v := 3) hx hb hown hw0 dX12_isTimer_3 ?_
  have hPc := hP.sub (ws' := []) [] rfl
  have hDc := hD.sub (ws' := []) [] (by decide) rfl
  have hKc := hK.sub (tys' := []) [] rfl
  have hFc := va_free (wc := []) hD hS hA [] rfl
  refine va_calli (va_runS (As := [.long ((x).toInt64), .long 0, .long 3]) (rest := []) ⟨hx, hb, hml, hown, hts⟩ (c_X12_in l dC dI g ((x).toInt64) 0 3 s.heap.size) (va_cwS 3 hts gX12_isTimer_X12_in rfl rfl rfl (by decide +kernel) ⟨Nat.le_of_ble_eq_true rfl, Nat.le_of_ble_eq_true rfl⟩) ⟨wIn_blind, wIn_at hPc hKc hDc hG hS hFc⟩ rfl rfl hl.1 rfl (lv_room (Nat.le_of_ble_eq_true rfl)) dX12_isTimer_6 ⟨Nat.le_of_ble_eq_true rfl, Nat.le_of_ble_eq_true rfl⟩) hS (fun q _ h => hFc q h) hFc (fun r_1 u t H1 locs ht hvm hw hB hz1 hk1 hS => ?_)
  obtain ⟨hP1, hK1, hD1⟩ := hB
  rw [ht] at hP1
  obtain ⟨hP, hD⟩ := va_join (wr := []) (w1 := []) hP hD [] [] rfl rfl (by decide) (by decide) hk1 hFc hP1 hD1
  generalize H1 = H at hP hS ⊢
  have hP : va_P (dC, dI) vwCl [] H := hP
  have hD : va_D A [] := hD
  refine lt_ci (y := vf_X12_in ((x).toInt64) 0 3) hw ?_
  have hP9 := hP.sub (ws' := []) [] rfl
  have hD9 := hD.sub (ws' := []) [] (by decide) rfl
  have hK9 := hK.sub (tys' := []) [] rfl
  exact W.zret (v := vf_X12_in ((x).toInt64) 0 3) hx hb hr (vf_in_nar _ _ _) (fun t ht hW => ⟨⟨vf_X12_in ((x).toInt64) 0 3, (), rfl, rfl, wOut_at ht hW hP9 hK9 hD9⟩, hS.F ht⟩) hS.2.2 dX12_isTimer_9
set_option maxHeartbeats 4000000 in
set_option maxRecDepth 100000 in
theorem c_X12_isClock (l : Launch) (dC : Nat → ClassId) (dI : Nat → Nat → Nat) (g : Nat × Nat × Nat) (x : Int32) (sz : Nat) : Met l yX12_isClock wsX12_isClock ({ frames := 1, cells := 0, slots := 0, locals := 25 } : Room) (va_Pc [.int x] (wIn dC dI g [] [] sz)) (va_Qi (fun (r : Int32) (u : Unit) => r = vf_X12_in ((x).toInt64) 0 3) (fun (u : Unit) (t : State) => wOut dC dI [] [] (va_A [] sz) t) (va_A [] sz)) 0 0 (va_A [] sz) := by
  refine Met.ofW (cc := cX12_isClock) (maxL := 1) (ret := (some .boolean)) (by decide) rfl ?_
  intro p e s m args below meth c s₁ B hml hv
  obtain ⟨rfl, hsz, hP, hK, hD0, hG⟩ := hv
  have hx := B.exec
  have hb := B.bytes
  have hr := B.returns
  have hts := atoms_spec (ws := wsX12_isClock) B.pre
  have hown : s.vm.findClass RX12 = some m.cls := findClass_of_methodNamed B.named
  have hlocks := B.notSynchronized
  subst hsz
  have hD := hD0.self (sz := s.heap.size)
  generalize hAe : va_A [] s.heap.size = A at hD hG ⊢
  have hN := hG.1
  have hA : ∀ q : Nat, s.heap.size ≤ q → A q := fun q h => by rw [← hAe]; exact Or.inr h
  have hS : va_S A s.heap s.heap [] := va_S.rf
  have hP : va_P (dC, dI) vwCl [] s.heap := hP
  have hw0 : (Cond.constantLong RX12 56 (3)).before _ s = true := hts _ (List.mem_cons_of_mem _ (List.mem_of_getElem? (i := 0) rfl))
  have hl := lv_entry ([.int x]) (n := 1) (Nat.le_of_ble_eq_true rfl)
  rw [lg_entry_eq]
  generalize (lg_sl ([.int x]) ++ List.replicate (1 - (lg_sl ([.int x])).length) Slot.unset).toArray = ls at hl ⊢
  have hl : lv_has ls 1 [(0, .int x)] := hl
  refine lv_iload_n hx hb dX12_isClock_0 rfl (lv_at hl 0 rfl) ?_
  refine lv_i2l (v := (x).toInt64) hx hb dX12_isClock_1 (by first | rfl | decide) ?_
  refine lv_lconst (v := 0) hx hb dX12_isClock_2 rfl ?_
  refine lv_ldc2 (v := 3) hx hb hown hw0 dX12_isClock_3 ?_
  have hPc := hP.sub (ws' := []) [] rfl
  have hDc := hD.sub (ws' := []) [] (by decide) rfl
  have hKc := hK.sub (tys' := []) [] rfl
  have hFc := va_free (wc := []) hD hS hA [] rfl
  refine va_calli (va_runS (As := [.long ((x).toInt64), .long 0, .long 3]) (rest := []) ⟨hx, hb, hml, hown, hts⟩ (c_X12_in l dC dI g ((x).toInt64) 0 3 s.heap.size) (va_cwS 3 hts gX12_isClock_X12_in rfl rfl rfl (by decide +kernel) ⟨Nat.le_of_ble_eq_true rfl, Nat.le_of_ble_eq_true rfl⟩) ⟨wIn_blind, wIn_at hPc hKc hDc hG hS hFc⟩ rfl rfl hl.1 rfl (lv_room (Nat.le_of_ble_eq_true rfl)) dX12_isClock_6 ⟨Nat.le_of_ble_eq_true rfl, Nat.le_of_ble_eq_true rfl⟩) hS (fun q _ h => hFc q h) hFc (fun r_1 u t H1 locs ht hvm hw hB hz1 hk1 hS => ?_)
  obtain ⟨hP1, hK1, hD1⟩ := hB
  rw [ht] at hP1
  obtain ⟨hP, hD⟩ := va_join (wr := []) (w1 := []) hP hD [] [] rfl rfl (by decide) (by decide) hk1 hFc hP1 hD1
  generalize H1 = H at hP hS ⊢
  have hP : va_P (dC, dI) vwCl [] H := hP
  have hD : va_D A [] := hD
  refine lt_ci (y := vf_X12_in ((x).toInt64) 0 3) hw ?_
  have hP9 := hP.sub (ws' := []) [] rfl
  have hD9 := hD.sub (ws' := []) [] (by decide) rfl
  have hK9 := hK.sub (tys' := []) [] rfl
  exact W.zret (v := vf_X12_in ((x).toInt64) 0 3) hx hb hr (vf_in_nar _ _ _) (fun t ht hW => ⟨⟨vf_X12_in ((x).toInt64) 0 3, (), rfl, rfl, wOut_at ht hW hP9 hK9 hD9⟩, hS.F ht⟩) hS.2.2 dX12_isClock_9
set_option maxHeartbeats 4000000 in
set_option maxRecDepth 100000 in
theorem c_X12_isLine (l : Launch) (dC : Nat → ClassId) (dI : Nat → Nat → Nat) (g : Nat × Nat × Nat) (x : Int32) (sz : Nat) : Met l yX12_isLine wsX12_isLine ({ frames := 1, cells := 0, slots := 0, locals := 25 } : Room) (va_Pc [.int x] (wIn dC dI g [] [] sz)) (va_Qi (fun (r : Int32) (u : Unit) => r = vf_X12_in ((x).toInt64) 0 7) (fun (u : Unit) (t : State) => wOut dC dI [] [] (va_A [] sz) t) (va_A [] sz)) 0 0 (va_A [] sz) := by
  refine Met.ofW (cc := cX12_isLine) (maxL := 1) (ret := (some .boolean)) (by decide) rfl ?_
  intro p e s m args below meth c s₁ B hml hv
  obtain ⟨rfl, hsz, hP, hK, hD0, hG⟩ := hv
  have hx := B.exec
  have hb := B.bytes
  have hr := B.returns
  have hts := atoms_spec (ws := wsX12_isLine) B.pre
  have hown : s.vm.findClass RX12 = some m.cls := findClass_of_methodNamed B.named
  have hlocks := B.notSynchronized
  subst hsz
  have hD := hD0.self (sz := s.heap.size)
  generalize hAe : va_A [] s.heap.size = A at hD hG ⊢
  have hN := hG.1
  have hA : ∀ q : Nat, s.heap.size ≤ q → A q := fun q h => by rw [← hAe]; exact Or.inr h
  have hS : va_S A s.heap s.heap [] := va_S.rf
  have hP : va_P (dC, dI) vwCl [] s.heap := hP
  have hw0 : (Cond.constantLong RX12 62 (7)).before _ s = true := hts _ (List.mem_cons_of_mem _ (List.mem_of_getElem? (i := 0) rfl))
  have hl := lv_entry ([.int x]) (n := 1) (Nat.le_of_ble_eq_true rfl)
  rw [lg_entry_eq]
  generalize (lg_sl ([.int x]) ++ List.replicate (1 - (lg_sl ([.int x])).length) Slot.unset).toArray = ls at hl ⊢
  have hl : lv_has ls 1 [(0, .int x)] := hl
  refine lv_iload_n hx hb dX12_isLine_0 rfl (lv_at hl 0 rfl) ?_
  refine lv_i2l (v := (x).toInt64) hx hb dX12_isLine_1 (by first | rfl | decide) ?_
  refine lv_lconst (v := 0) hx hb dX12_isLine_2 rfl ?_
  refine lv_ldc2 (v := 7) hx hb hown hw0 dX12_isLine_3 ?_
  have hPc := hP.sub (ws' := []) [] rfl
  have hDc := hD.sub (ws' := []) [] (by decide) rfl
  have hKc := hK.sub (tys' := []) [] rfl
  have hFc := va_free (wc := []) hD hS hA [] rfl
  refine va_calli (va_runS (As := [.long ((x).toInt64), .long 0, .long 7]) (rest := []) ⟨hx, hb, hml, hown, hts⟩ (c_X12_in l dC dI g ((x).toInt64) 0 7 s.heap.size) (va_cwS 3 hts gX12_isLine_X12_in rfl rfl rfl (by decide +kernel) ⟨Nat.le_of_ble_eq_true rfl, Nat.le_of_ble_eq_true rfl⟩) ⟨wIn_blind, wIn_at hPc hKc hDc hG hS hFc⟩ rfl rfl hl.1 rfl (lv_room (Nat.le_of_ble_eq_true rfl)) dX12_isLine_6 ⟨Nat.le_of_ble_eq_true rfl, Nat.le_of_ble_eq_true rfl⟩) hS (fun q _ h => hFc q h) hFc (fun r_1 u t H1 locs ht hvm hw hB hz1 hk1 hS => ?_)
  obtain ⟨hP1, hK1, hD1⟩ := hB
  rw [ht] at hP1
  obtain ⟨hP, hD⟩ := va_join (wr := []) (w1 := []) hP hD [] [] rfl rfl (by decide) (by decide) hk1 hFc hP1 hD1
  generalize H1 = H at hP hS ⊢
  have hP : va_P (dC, dI) vwCl [] H := hP
  have hD : va_D A [] := hD
  refine lt_ci (y := vf_X12_in ((x).toInt64) 0 7) hw ?_
  have hP9 := hP.sub (ws' := []) [] rfl
  have hD9 := hD.sub (ws' := []) [] (by decide) rfl
  have hK9 := hK.sub (tys' := []) [] rfl
  exact W.zret (v := vf_X12_in ((x).toInt64) 0 7) hx hb hr (vf_in_nar _ _ _) (fun t ht hW => ⟨⟨vf_X12_in ((x).toInt64) 0 7, (), rfl, rfl, wOut_at ht hW hP9 hK9 hD9⟩, hS.F ht⟩) hS.2.2 dX12_isLine_9
set_option maxHeartbeats 4000000 in
set_option maxRecDepth 100000 in
theorem c_X12_isPin (l : Launch) (dC : Nat → ClassId) (dI : Nat → Nat → Nat) (g : Nat × Nat × Nat) (x : Int32) (sz : Nat) : Met l yX12_isPin wsX12_isPin ({ frames := 1, cells := 0, slots := 0, locals := 25 } : Room) (va_Pc [.int x] (wIn dC dI g [] [] sz)) (va_Qi (fun (r : Int32) (u : Unit) => r = vf_X12_in ((x).toInt64) 0 7) (fun (u : Unit) (t : State) => wOut dC dI [] [] (va_A [] sz) t) (va_A [] sz)) 0 0 (va_A [] sz) := by
  refine Met.ofW (cc := cX12_isPin) (maxL := 1) (ret := (some .boolean)) (by decide) rfl ?_
  intro p e s m args below meth c s₁ B hml hv
  obtain ⟨rfl, hsz, hP, hK, hD0, hG⟩ := hv
  have hx := B.exec
  have hb := B.bytes
  have hr := B.returns
  have hts := atoms_spec (ws := wsX12_isPin) B.pre
  have hown : s.vm.findClass RX12 = some m.cls := findClass_of_methodNamed B.named
  have hlocks := B.notSynchronized
  subst hsz
  have hD := hD0.self (sz := s.heap.size)
  generalize hAe : va_A [] s.heap.size = A at hD hG ⊢
  have hN := hG.1
  have hA : ∀ q : Nat, s.heap.size ≤ q → A q := fun q h => by rw [← hAe]; exact Or.inr h
  have hS : va_S A s.heap s.heap [] := va_S.rf
  have hP : va_P (dC, dI) vwCl [] s.heap := hP
  have hw0 : (Cond.constantLong RX12 62 (7)).before _ s = true := hts _ (List.mem_cons_of_mem _ (List.mem_of_getElem? (i := 0) rfl))
  have hl := lv_entry ([.int x]) (n := 1) (Nat.le_of_ble_eq_true rfl)
  rw [lg_entry_eq]
  generalize (lg_sl ([.int x]) ++ List.replicate (1 - (lg_sl ([.int x])).length) Slot.unset).toArray = ls at hl ⊢
  have hl : lv_has ls 1 [(0, .int x)] := hl
  refine lv_iload_n hx hb dX12_isPin_0 rfl (lv_at hl 0 rfl) ?_
  refine lv_i2l (v := (x).toInt64) hx hb dX12_isPin_1 (by first | rfl | decide) ?_
  refine lv_lconst (v := 0) hx hb dX12_isPin_2 rfl ?_
  refine lv_ldc2 (v := 7) hx hb hown hw0 dX12_isPin_3 ?_
  have hPc := hP.sub (ws' := []) [] rfl
  have hDc := hD.sub (ws' := []) [] (by decide) rfl
  have hKc := hK.sub (tys' := []) [] rfl
  have hFc := va_free (wc := []) hD hS hA [] rfl
  refine va_calli (va_runS (As := [.long ((x).toInt64), .long 0, .long 7]) (rest := []) ⟨hx, hb, hml, hown, hts⟩ (c_X12_in l dC dI g ((x).toInt64) 0 7 s.heap.size) (va_cwS 3 hts gX12_isPin_X12_in rfl rfl rfl (by decide +kernel) ⟨Nat.le_of_ble_eq_true rfl, Nat.le_of_ble_eq_true rfl⟩) ⟨wIn_blind, wIn_at hPc hKc hDc hG hS hFc⟩ rfl rfl hl.1 rfl (lv_room (Nat.le_of_ble_eq_true rfl)) dX12_isPin_6 ⟨Nat.le_of_ble_eq_true rfl, Nat.le_of_ble_eq_true rfl⟩) hS (fun q _ h => hFc q h) hFc (fun r_1 u t H1 locs ht hvm hw hB hz1 hk1 hS => ?_)
  obtain ⟨hP1, hK1, hD1⟩ := hB
  rw [ht] at hP1
  obtain ⟨hP, hD⟩ := va_join (wr := []) (w1 := []) hP hD [] [] rfl rfl (by decide) (by decide) hk1 hFc hP1 hD1
  generalize H1 = H at hP hS ⊢
  have hP : va_P (dC, dI) vwCl [] H := hP
  have hD : va_D A [] := hD
  refine lt_ci (y := vf_X12_in ((x).toInt64) 0 7) hw ?_
  have hP9 := hP.sub (ws' := []) [] rfl
  have hD9 := hD.sub (ws' := []) [] (by decide) rfl
  have hK9 := hK.sub (tys' := []) [] rfl
  exact W.zret (v := vf_X12_in ((x).toInt64) 0 7) hx hb hr (vf_in_nar _ _ _) (fun t ht hW => ⟨⟨vf_X12_in ((x).toInt64) 0 7, (), rfl, rfl, wOut_at ht hW hP9 hK9 hD9⟩, hS.F ht⟩) hS.2.2 dX12_isPin_9
def vf_X12_isAim (v3 : Int32) (v4 : Int32) : Int32 := (if v3 = 102 then (if ¬ v4 = 0 then 0 else 1) else (if v3 = 110 then (if ¬ v4 = 0 then 0 else 1) else (if v3 = 112 then vf_X12_in ((v4).toInt64) 0 7 else (if v3 = 115 then vf_X12_in ((v4).toInt64) 0 3 else (if v3 = 120 then vf_X12_in ((v4).toInt64) 0 3 else (if ¬ v3 = 113 then 0 else (if vf_X12_in ((v4).toInt64) 0 7 = 0 then 0 else 1)))))))
set_option maxHeartbeats 4000000 in
set_option maxRecDepth 100000 in
theorem c_X12_isAim (l : Launch) (dC : Nat → ClassId) (dI : Nat → Nat → Nat) (g : Nat × Nat × Nat) (v3 : Int32) (v4 : Int32) (sz : Nat) : Met l yX12_isAim wsX12_isAim ({ frames := 2, cells := 0, slots := 0, locals := 45 } : Room) (va_Pc [.int v3, .int v4] (wIn dC dI g [] [] sz)) (va_Qi (fun (r : Int32) (u : Unit) => r = vf_X12_isAim v3 v4) (fun (u : Unit) (t : State) => wOut dC dI [] [] (va_A [] sz) t) (va_A [] sz)) 0 0 (va_A [] sz) := by
  refine Met.ofW (cc := cX12_isAim) (maxL := 2) (ret := (some .boolean)) (by decide) rfl ?_
  intro p e s m args below meth c s₁ B hml hv
  obtain ⟨rfl, hsz, hP, hK, hD0, hG⟩ := hv
  have hx := B.exec
  have hb := B.bytes
  have hr := B.returns
  have hts := atoms_spec (ws := wsX12_isAim) B.pre
  have hown : s.vm.findClass RX12 = some m.cls := findClass_of_methodNamed B.named
  have hlocks := B.notSynchronized
  subst hsz
  have hD := hD0.self (sz := s.heap.size)
  generalize hAe : va_A [] s.heap.size = A at hD hG ⊢
  have hN := hG.1
  have hA : ∀ q : Nat, s.heap.size ≤ q → A q := fun q h => by rw [← hAe]; exact Or.inr h
  have hS : va_S A s.heap s.heap [] := va_S.rf
  have hP : va_P (dC, dI) vwCl [] s.heap := hP
  have hl := lv_entry ([.int v3, .int v4]) (n := 2) (Nat.le_of_ble_eq_true rfl)
  rw [lg_entry_eq]
  generalize (lg_sl ([.int v3, .int v4]) ++ List.replicate (2 - (lg_sl ([.int v3, .int v4])).length) Slot.unset).toArray = ls at hl ⊢
  have hl : lv_has ls 2 [(0, .int v3), (1, .int v4)] := hl
  refine lv_iload_n hx hb dX12_isAim_0 rfl (lv_at hl 0 rfl) ?_
  by_cases c_1_0 : v3 = 102
  · refine lv_lookup (off := 51) (tgt := 52) hx hb dX12_isAim_1 (by decide) (by show Op.lookupswitch.offset [(102, 51), (110, 51), (112, 61), (115, 66), (120, 66)] 71 v3.toInt = 51; rw [c_1_0]; decide) (by decide) ?_
    refine lv_iload_n hx hb dX12_isAim_52 rfl (lv_at hl 1 rfl) ?_
    refine lv_if_ne (tgt := 60) hx hb dX12_isAim_53 (by decide) (fun c_53 => ?_) (fun c_53 => ?_)
    · refine lv_iconst (v := 0) hx hb dX12_isAim_60 (by decide) ?_
      have hP9 := hP.sub (ws' := []) [] rfl
      have hD9 := hD.sub (ws' := []) [] (by decide) rfl
      have hK9 := hK.sub (tys' := []) [] rfl
      exact W.zret (v := 0) hx hb hr (by first | rfl | decide) (fun t ht hW => ⟨⟨0, (), rfl, (by unfold vf_X12_isAim; rw [if_pos c_1_0, if_pos c_53]), wOut_at ht hW hP9 hK9 hD9⟩, hS.F ht⟩) hS.2.2 dX12_isAim_61
    · refine lv_iconst (v := 1) hx hb dX12_isAim_56 (by decide) ?_
      refine lv_goto (tgt := 61) hx hb dX12_isAim_57 (by decide) ?_
      have hP9 := hP.sub (ws' := []) [] rfl
      have hD9 := hD.sub (ws' := []) [] (by decide) rfl
      have hK9 := hK.sub (tys' := []) [] rfl
      exact W.zret (v := 1) hx hb hr (by first | rfl | decide) (fun t ht hW => ⟨⟨1, (), rfl, (by unfold vf_X12_isAim; rw [if_pos c_1_0, if_neg (not_not_intro c_53)]), wOut_at ht hW hP9 hK9 hD9⟩, hS.F ht⟩) hS.2.2 dX12_isAim_61
  · by_cases c_1_1 : v3 = 110
    · refine lv_lookup (off := 51) (tgt := 52) hx hb dX12_isAim_1 (by decide) (by show Op.lookupswitch.offset [(102, 51), (110, 51), (112, 61), (115, 66), (120, 66)] 71 v3.toInt = 51; rw [lv_osw (a := 102) c_1_0 rfl, c_1_1]; decide) (by decide) ?_
      refine lv_iload_n hx hb dX12_isAim_52 rfl (lv_at hl 1 rfl) ?_
      refine lv_if_ne (tgt := 60) hx hb dX12_isAim_53 (by decide) (fun c_53 => ?_) (fun c_53 => ?_)
      · refine lv_iconst (v := 0) hx hb dX12_isAim_60 (by decide) ?_
        have hP9 := hP.sub (ws' := []) [] rfl
        have hD9 := hD.sub (ws' := []) [] (by decide) rfl
        have hK9 := hK.sub (tys' := []) [] rfl
        exact W.zret (v := 0) hx hb hr (by first | rfl | decide) (fun t ht hW => ⟨⟨0, (), rfl, (by unfold vf_X12_isAim; rw [if_neg c_1_0, if_pos c_1_1, if_pos c_53]), wOut_at ht hW hP9 hK9 hD9⟩, hS.F ht⟩) hS.2.2 dX12_isAim_61
      · refine lv_iconst (v := 1) hx hb dX12_isAim_56 (by decide) ?_
        refine lv_goto (tgt := 61) hx hb dX12_isAim_57 (by decide) ?_
        have hP9 := hP.sub (ws' := []) [] rfl
        have hD9 := hD.sub (ws' := []) [] (by decide) rfl
        have hK9 := hK.sub (tys' := []) [] rfl
        exact W.zret (v := 1) hx hb hr (by first | rfl | decide) (fun t ht hW => ⟨⟨1, (), rfl, (by unfold vf_X12_isAim; rw [if_neg c_1_0, if_pos c_1_1, if_neg (not_not_intro c_53)]), wOut_at ht hW hP9 hK9 hD9⟩, hS.F ht⟩) hS.2.2 dX12_isAim_61
    · by_cases c_1_2 : v3 = 112
      · refine lv_lookup (off := 61) (tgt := 62) hx hb dX12_isAim_1 (by decide) (by show Op.lookupswitch.offset [(102, 51), (110, 51), (112, 61), (115, 66), (120, 66)] 71 v3.toInt = 61; rw [lv_osw (a := 102) c_1_0 rfl, lv_osw (a := 110) c_1_1 rfl, c_1_2]; decide) (by decide) ?_
        refine lv_iload_n hx hb dX12_isAim_62 rfl (lv_at hl 1 rfl) ?_
        have hPc := hP.sub (ws' := []) [] rfl
        have hDc := hD.sub (ws' := []) [] (by decide) rfl
        have hKc := hK.sub (tys' := []) [] rfl
        have hFc := va_free (wc := []) hD hS hA [] rfl
        refine va_calli (va_runS (As := [.int v4]) (rest := []) ⟨hx, hb, hml, hown, hts⟩ (c_X12_isPin l dC dI g v4 s.heap.size) (va_cwS 1 hts gX12_isAim_X12_isPin rfl rfl rfl (by decide +kernel) ⟨Nat.le_of_ble_eq_true rfl, Nat.le_of_ble_eq_true rfl⟩) ⟨wIn_blind, wIn_at hPc hKc hDc hG hS hFc⟩ rfl rfl hl.1 rfl (lv_room (Nat.le_of_ble_eq_true rfl)) dX12_isAim_63 ⟨Nat.le_of_ble_eq_true rfl, Nat.le_of_ble_eq_true rfl⟩) hS (fun q _ h => hFc q h) hFc (fun r_1 u t H1 locs ht hvm hw hB hz1 hk1 hS => ?_)
        obtain ⟨hP1, hK1, hD1⟩ := hB
        rw [ht] at hP1
        obtain ⟨hP, hD⟩ := va_join (wr := []) (w1 := []) hP hD [] [] rfl rfl (by decide) (by decide) hk1 hFc hP1 hD1
        generalize H1 = H at hP hS ⊢
        have hP : va_P (dC, dI) vwCl [] H := hP
        have hD : va_D A [] := hD
        refine lt_ci (y := vf_X12_in ((v4).toInt64) 0 7) hw ?_
        have hP9 := hP.sub (ws' := []) [] rfl
        have hD9 := hD.sub (ws' := []) [] (by decide) rfl
        have hK9 := hK.sub (tys' := []) [] rfl
        exact W.zret (v := vf_X12_in ((v4).toInt64) 0 7) hx hb hr (vf_in_nar _ _ _) (fun t ht hW => ⟨⟨vf_X12_in ((v4).toInt64) 0 7, (), rfl, (by unfold vf_X12_isAim; rw [if_neg c_1_0, if_neg c_1_1, if_pos c_1_2]), wOut_at ht hW hP9 hK9 hD9⟩, hS.F ht⟩) hS.2.2 dX12_isAim_66
      · by_cases c_1_3 : v3 = 115
        · refine lv_lookup (off := 66) (tgt := 67) hx hb dX12_isAim_1 (by decide) (by show Op.lookupswitch.offset [(102, 51), (110, 51), (112, 61), (115, 66), (120, 66)] 71 v3.toInt = 66; rw [lv_osw (a := 102) c_1_0 rfl, lv_osw (a := 110) c_1_1 rfl, lv_osw (a := 112) c_1_2 rfl, c_1_3]; decide) (by decide) ?_
          refine lv_iload_n hx hb dX12_isAim_67 rfl (lv_at hl 1 rfl) ?_
          have hPc := hP.sub (ws' := []) [] rfl
          have hDc := hD.sub (ws' := []) [] (by decide) rfl
          have hKc := hK.sub (tys' := []) [] rfl
          have hFc := va_free (wc := []) hD hS hA [] rfl
          refine va_calli (va_runS (As := [.int v4]) (rest := []) ⟨hx, hb, hml, hown, hts⟩ (c_X12_isTimer l dC dI g v4 s.heap.size) (va_cwS 1 hts gX12_isAim_X12_isTimer rfl rfl rfl (by decide +kernel) ⟨Nat.le_of_ble_eq_true rfl, Nat.le_of_ble_eq_true rfl⟩) ⟨wIn_blind, wIn_at hPc hKc hDc hG hS hFc⟩ rfl rfl hl.1 rfl (lv_room (Nat.le_of_ble_eq_true rfl)) dX12_isAim_68 ⟨Nat.le_of_ble_eq_true rfl, Nat.le_of_ble_eq_true rfl⟩) hS (fun q _ h => hFc q h) hFc (fun r_2 u t H1 locs ht hvm hw hB hz1 hk1 hS => ?_)
          obtain ⟨hP1, hK1, hD1⟩ := hB
          rw [ht] at hP1
          obtain ⟨hP, hD⟩ := va_join (wr := []) (w1 := []) hP hD [] [] rfl rfl (by decide) (by decide) hk1 hFc hP1 hD1
          generalize H1 = H at hP hS ⊢
          have hP : va_P (dC, dI) vwCl [] H := hP
          have hD : va_D A [] := hD
          refine lt_ci (y := vf_X12_in ((v4).toInt64) 0 3) hw ?_
          have hP9 := hP.sub (ws' := []) [] rfl
          have hD9 := hD.sub (ws' := []) [] (by decide) rfl
          have hK9 := hK.sub (tys' := []) [] rfl
          exact W.zret (v := vf_X12_in ((v4).toInt64) 0 3) hx hb hr (vf_in_nar _ _ _) (fun t ht hW => ⟨⟨vf_X12_in ((v4).toInt64) 0 3, (), rfl, (by unfold vf_X12_isAim; rw [if_neg c_1_0, if_neg c_1_1, if_neg c_1_2, if_pos c_1_3]), wOut_at ht hW hP9 hK9 hD9⟩, hS.F ht⟩) hS.2.2 dX12_isAim_71
        · by_cases c_1_4 : v3 = 120
          · refine lv_lookup (off := 66) (tgt := 67) hx hb dX12_isAim_1 (by decide) (by show Op.lookupswitch.offset [(102, 51), (110, 51), (112, 61), (115, 66), (120, 66)] 71 v3.toInt = 66; rw [lv_osw (a := 102) c_1_0 rfl, lv_osw (a := 110) c_1_1 rfl, lv_osw (a := 112) c_1_2 rfl, lv_osw (a := 115) c_1_3 rfl, c_1_4]; decide) (by decide) ?_
            refine lv_iload_n hx hb dX12_isAim_67 rfl (lv_at hl 1 rfl) ?_
            have hPc := hP.sub (ws' := []) [] rfl
            have hDc := hD.sub (ws' := []) [] (by decide) rfl
            have hKc := hK.sub (tys' := []) [] rfl
            have hFc := va_free (wc := []) hD hS hA [] rfl
            refine va_calli (va_runS (As := [.int v4]) (rest := []) ⟨hx, hb, hml, hown, hts⟩ (c_X12_isTimer l dC dI g v4 s.heap.size) (va_cwS 1 hts gX12_isAim_X12_isTimer rfl rfl rfl (by decide +kernel) ⟨Nat.le_of_ble_eq_true rfl, Nat.le_of_ble_eq_true rfl⟩) ⟨wIn_blind, wIn_at hPc hKc hDc hG hS hFc⟩ rfl rfl hl.1 rfl (lv_room (Nat.le_of_ble_eq_true rfl)) dX12_isAim_68 ⟨Nat.le_of_ble_eq_true rfl, Nat.le_of_ble_eq_true rfl⟩) hS (fun q _ h => hFc q h) hFc (fun r_3 u t H1 locs ht hvm hw hB hz1 hk1 hS => ?_)
            obtain ⟨hP1, hK1, hD1⟩ := hB
            rw [ht] at hP1
            obtain ⟨hP, hD⟩ := va_join (wr := []) (w1 := []) hP hD [] [] rfl rfl (by decide) (by decide) hk1 hFc hP1 hD1
            generalize H1 = H at hP hS ⊢
            have hP : va_P (dC, dI) vwCl [] H := hP
            have hD : va_D A [] := hD
            refine lt_ci (y := vf_X12_in ((v4).toInt64) 0 3) hw ?_
            have hP9 := hP.sub (ws' := []) [] rfl
            have hD9 := hD.sub (ws' := []) [] (by decide) rfl
            have hK9 := hK.sub (tys' := []) [] rfl
            exact W.zret (v := vf_X12_in ((v4).toInt64) 0 3) hx hb hr (vf_in_nar _ _ _) (fun t ht hW => ⟨⟨vf_X12_in ((v4).toInt64) 0 3, (), rfl, (by unfold vf_X12_isAim; rw [if_neg c_1_0, if_neg c_1_1, if_neg c_1_2, if_neg c_1_3, if_pos c_1_4]), wOut_at ht hW hP9 hK9 hD9⟩, hS.F ht⟩) hS.2.2 dX12_isAim_71
          · refine lv_lookup (off := 71) (tgt := 72) hx hb dX12_isAim_1 (by decide) (by show Op.lookupswitch.offset [(102, 51), (110, 51), (112, 61), (115, 66), (120, 66)] 71 v3.toInt = 71; rw [lv_osw (a := 102) c_1_0 rfl, lv_osw (a := 110) c_1_1 rfl, lv_osw (a := 112) c_1_2 rfl, lv_osw (a := 115) c_1_3 rfl, lv_osw (a := 120) c_1_4 rfl]; rfl) (by decide) ?_
            refine lv_iload_n hx hb dX12_isAim_72 rfl (lv_at hl 0 rfl) ?_
            refine lv_bipush (v := 113) hx hb dX12_isAim_73 (by decide) ?_
            refine lv_icmp_ne (tgt := 89) hx hb dX12_isAim_75 (by decide) (fun c_75 => ?_) (fun c_75 => ?_)
            · refine lv_iconst (v := 0) hx hb dX12_isAim_89 (by decide) ?_
              have hP9 := hP.sub (ws' := []) [] rfl
              have hD9 := hD.sub (ws' := []) [] (by decide) rfl
              have hK9 := hK.sub (tys' := []) [] rfl
              exact W.zret (v := 0) hx hb hr (by first | rfl | decide) (fun t ht hW => ⟨⟨0, (), rfl, (by unfold vf_X12_isAim; rw [if_neg c_1_0, if_neg c_1_1, if_neg c_1_2, if_neg c_1_3, if_neg c_1_4, if_pos c_75]), wOut_at ht hW hP9 hK9 hD9⟩, hS.F ht⟩) hS.2.2 dX12_isAim_90
            · refine lv_iload_n hx hb dX12_isAim_78 rfl (lv_at hl 1 rfl) ?_
              have hPc := hP.sub (ws' := []) [] rfl
              have hDc := hD.sub (ws' := []) [] (by decide) rfl
              have hKc := hK.sub (tys' := []) [] rfl
              have hFc := va_free (wc := []) hD hS hA [] rfl
              refine va_calli (va_runS (As := [.int v4]) (rest := []) ⟨hx, hb, hml, hown, hts⟩ (c_X12_isLine l dC dI g v4 s.heap.size) (va_cwS 1 hts gX12_isAim_X12_isLine rfl rfl rfl (by decide +kernel) ⟨Nat.le_of_ble_eq_true rfl, Nat.le_of_ble_eq_true rfl⟩) ⟨wIn_blind, wIn_at hPc hKc hDc hG hS hFc⟩ rfl rfl hl.1 rfl (lv_room (Nat.le_of_ble_eq_true rfl)) dX12_isAim_79 ⟨Nat.le_of_ble_eq_true rfl, Nat.le_of_ble_eq_true rfl⟩) hS (fun q _ h => hFc q h) hFc (fun r_4 u t H1 locs ht hvm hw hB hz1 hk1 hS => ?_)
              obtain ⟨hP1, hK1, hD1⟩ := hB
              rw [ht] at hP1
              obtain ⟨hP, hD⟩ := va_join (wr := []) (w1 := []) hP hD [] [] rfl rfl (by decide) (by decide) hk1 hFc hP1 hD1
              generalize H1 = H at hP hS ⊢
              have hP : va_P (dC, dI) vwCl [] H := hP
              have hD : va_D A [] := hD
              refine lt_ci (y := vf_X12_in ((v4).toInt64) 0 7) hw ?_
              refine lv_if_eq (tgt := 89) hx hb dX12_isAim_82 (by decide) (fun c_82 => ?_) (fun c_82 => ?_)
              · refine lv_iconst (v := 0) hx hb dX12_isAim_89 (by decide) ?_
                have hP9 := hP.sub (ws' := []) [] rfl
                have hD9 := hD.sub (ws' := []) [] (by decide) rfl
                have hK9 := hK.sub (tys' := []) [] rfl
                exact W.zret (v := 0) hx hb hr (by first | rfl | decide) (fun t ht hW => ⟨⟨0, (), rfl, (by unfold vf_X12_isAim; rw [if_neg c_1_0, if_neg c_1_1, if_neg c_1_2, if_neg c_1_3, if_neg c_1_4, if_neg (not_not_intro c_75), if_pos c_82]), wOut_at ht hW hP9 hK9 hD9⟩, hS.F ht⟩) hS.2.2 dX12_isAim_90
              · refine lv_iconst (v := 1) hx hb dX12_isAim_85 (by decide) ?_
                refine lv_goto (tgt := 90) hx hb dX12_isAim_86 (by decide) ?_
                have hP9 := hP.sub (ws' := []) [] rfl
                have hD9 := hD.sub (ws' := []) [] (by decide) rfl
                have hK9 := hK.sub (tys' := []) [] rfl
                exact W.zret (v := 1) hx hb hr (by first | rfl | decide) (fun t ht hW => ⟨⟨1, (), rfl, (by unfold vf_X12_isAim; rw [if_neg c_1_0, if_neg c_1_1, if_neg c_1_2, if_neg c_1_3, if_neg c_1_4, if_neg (not_not_intro c_75), if_neg c_82]), wOut_at ht hW hP9 hK9 hD9⟩, hS.F ht⟩) hS.2.2 dX12_isAim_90
