set_option maxHeartbeats 4000000 in
set_option maxRecDepth 100000 in
theorem c_X8_hasBit_0 (l : Launch) (dC : Nat → ClassId) (dI : Nat → Nat → Nat) (g : Nat × Nat × Nat) (x : Int32) (i : Int32) (sz : Nat) (h : ((x >>> (i &&& 31)) &&& 1) = 0) : Met l yX8_hasBit wsX8_hasBit ({ frames := 0, cells := 0, slots := 0, locals := 0 } : Room) (va_Pc [.int x, .int i] (wIn dC dI g [] [] sz)) (va_Qi (fun (r : Int32) (u : Unit) => r = 0) (fun (u : Unit) (t : State) => wOut dC dI [] [] (va_A [] sz) t) (va_A [] sz)) 0 0 (va_A [] sz) := by
  refine Met.ofW (cc := cX8_hasBit) (maxL := 2) (ret := (some .boolean)) (by decide) rfl ?_
  intro p e s m args below meth c s₁ B hml hv
  obtain ⟨rfl, hsz, hP, hK, hD0, hG⟩ := hv
  have hx := B.exec
  have hb := B.bytes
  have hr := B.returns
  have hts := atoms_spec (ws := wsX8_hasBit) B.pre
  have hown : s.vm.findClass RX8 = some m.cls := findClass_of_methodNamed B.named
  have hlocks := B.notSynchronized
  subst hsz
  have hD := hD0.self (sz := s.heap.size)
  generalize hAe : va_A [] s.heap.size = A at hD hG ⊢
  have hN := hG.1
  have hA : ∀ q : Nat, s.heap.size ≤ q → A q := fun q h => by rw [← hAe]; exact Or.inr h
  have hS : va_S A s.heap s.heap [] := va_S.rf
  have hP : va_P (dC, dI) vwCl [] s.heap := hP
  have hl := lv_entry ([.int x, .int i]) (n := 2) (Nat.le_of_ble_eq_true rfl)
  rw [lg_entry_eq]
  generalize (lg_sl ([.int x, .int i]) ++ List.replicate (2 - (lg_sl ([.int x, .int i])).length) Slot.unset).toArray = ls at hl ⊢
  have hl : lv_has ls 2 [(0, .int x), (1, .int i)] := hl
  refine lv_iload_n hx hb dX8_hasBit_0 rfl (lv_at hl 0 rfl) ?_
  refine lv_iload_n hx hb dX8_hasBit_1 rfl (lv_at hl 1 rfl) ?_
  refine lv_ishr hx hb dX8_hasBit_2 ?_
  refine lv_iconst (v := 1) hx hb dX8_hasBit_3 (by decide) ?_
  refine lv_iand hx hb dX8_hasBit_4 ?_
  refine lt_ci (y := 0) h ?_
  refine lv_if_eq (tgt := 12) hx hb dX8_hasBit_5 (by decide) (fun _ => ?_) (fun c => absurd (by decide) c)
  refine lv_iconst (v := 0) hx hb dX8_hasBit_12 (by decide) ?_
  have hP9 := hP.sub (ws' := []) [] rfl
  have hD9 := hD.sub (ws' := []) [] (by decide) rfl
  have hK9 := hK.sub (tys' := []) [] rfl
  exact W.zret (v := 0) hx hb hr (by first | rfl | decide) (fun t ht hW => ⟨⟨0, (), rfl, rfl, wOut_at ht hW hP9 hK9 hD9⟩, hS.F ht⟩) hS.2.2 dX8_hasBit_13

set_option maxHeartbeats 4000000 in
set_option maxRecDepth 100000 in
theorem c_X8_hasBit_1 (l : Launch) (dC : Nat → ClassId) (dI : Nat → Nat → Nat) (g : Nat × Nat × Nat) (x : Int32) (i : Int32) (sz : Nat) (h : ((x >>> (i &&& 31)) &&& 1) = 1) : Met l yX8_hasBit wsX8_hasBit ({ frames := 0, cells := 0, slots := 0, locals := 0 } : Room) (va_Pc [.int x, .int i] (wIn dC dI g [] [] sz)) (va_Qi (fun (r : Int32) (u : Unit) => r = 1) (fun (u : Unit) (t : State) => wOut dC dI [] [] (va_A [] sz) t) (va_A [] sz)) 0 0 (va_A [] sz) := by
  refine Met.ofW (cc := cX8_hasBit) (maxL := 2) (ret := (some .boolean)) (by decide) rfl ?_
  intro p e s m args below meth c s₁ B hml hv
  obtain ⟨rfl, hsz, hP, hK, hD0, hG⟩ := hv
  have hx := B.exec
  have hb := B.bytes
  have hr := B.returns
  have hts := atoms_spec (ws := wsX8_hasBit) B.pre
  have hown : s.vm.findClass RX8 = some m.cls := findClass_of_methodNamed B.named
  have hlocks := B.notSynchronized
  subst hsz
  have hD := hD0.self (sz := s.heap.size)
  generalize hAe : va_A [] s.heap.size = A at hD hG ⊢
  have hN := hG.1
  have hA : ∀ q : Nat, s.heap.size ≤ q → A q := fun q h => by rw [← hAe]; exact Or.inr h
  have hS : va_S A s.heap s.heap [] := va_S.rf
  have hP : va_P (dC, dI) vwCl [] s.heap := hP
  have hl := lv_entry ([.int x, .int i]) (n := 2) (Nat.le_of_ble_eq_true rfl)
  rw [lg_entry_eq]
  generalize (lg_sl ([.int x, .int i]) ++ List.replicate (2 - (lg_sl ([.int x, .int i])).length) Slot.unset).toArray = ls at hl ⊢
  have hl : lv_has ls 2 [(0, .int x), (1, .int i)] := hl
  refine lv_iload_n hx hb dX8_hasBit_0 rfl (lv_at hl 0 rfl) ?_
  refine lv_iload_n hx hb dX8_hasBit_1 rfl (lv_at hl 1 rfl) ?_
  refine lv_ishr hx hb dX8_hasBit_2 ?_
  refine lv_iconst (v := 1) hx hb dX8_hasBit_3 (by decide) ?_
  refine lv_iand hx hb dX8_hasBit_4 ?_
  refine lt_ci (y := 1) h ?_
  refine lv_if_eq (tgt := 12) hx hb dX8_hasBit_5 (by decide) (fun c => absurd c (by decide)) (fun _ => ?_)
  refine lv_iconst (v := 1) hx hb dX8_hasBit_8 (by decide) ?_
  refine lv_goto (tgt := 13) hx hb dX8_hasBit_9 (by decide) ?_
  have hP9 := hP.sub (ws' := []) [] rfl
  have hD9 := hD.sub (ws' := []) [] (by decide) rfl
  have hK9 := hK.sub (tys' := []) [] rfl
  exact W.zret (v := 1) hx hb hr (by first | rfl | decide) (fun t ht hW => ⟨⟨1, (), rfl, rfl, wOut_at ht hW hP9 hK9 hD9⟩, hS.F ht⟩) hS.2.2 dX8_hasBit_13

set_option maxHeartbeats 4000000 in
set_option maxRecDepth 100000 in
theorem c_X8_withBit_1 (l : Launch) (dC : Nat → ClassId) (dI : Nat → Nat → Nat) (g : Nat × Nat × Nat) (x : Int32) (i : Int32) (sz : Nat) : Met l yX8_withBit wsX8_withBit ({ frames := 0, cells := 0, slots := 0, locals := 0 } : Room) (va_Pc [.int x, .int i, .int 1] (wIn dC dI g [] [] sz)) (va_Qi (fun (r : Int32) (u : Unit) => r = (x ||| (1 <<< (i &&& 31)))) (fun (u : Unit) (t : State) => wOut dC dI [] [] (va_A [] sz) t) (va_A [] sz)) 0 0 (va_A [] sz) := by
  refine Met.ofW (cc := cX8_withBit) (maxL := 3) (ret := (some .int)) (by decide) rfl ?_
  intro p e s m args below meth c s₁ B hml hv
  obtain ⟨rfl, hsz, hP, hK, hD0, hG⟩ := hv
  have hx := B.exec
  have hb := B.bytes
  have hr := B.returns
  have hts := atoms_spec (ws := wsX8_withBit) B.pre
  have hown : s.vm.findClass RX8 = some m.cls := findClass_of_methodNamed B.named
  have hlocks := B.notSynchronized
  subst hsz
  have hD := hD0.self (sz := s.heap.size)
  generalize hAe : va_A [] s.heap.size = A at hD hG ⊢
  have hN := hG.1
  have hA : ∀ q : Nat, s.heap.size ≤ q → A q := fun q h => by rw [← hAe]; exact Or.inr h
  have hS : va_S A s.heap s.heap [] := va_S.rf
  have hP : va_P (dC, dI) vwCl [] s.heap := hP
  have hl := lv_entry ([.int x, .int i, .int 1]) (n := 3) (Nat.le_of_ble_eq_true rfl)
  rw [lg_entry_eq]
  generalize (lg_sl ([.int x, .int i, .int 1]) ++ List.replicate (3 - (lg_sl ([.int x, .int i, .int 1])).length) Slot.unset).toArray = ls at hl ⊢
  have hl : lv_has ls 3 [(0, .int x), (1, .int i), (2, .int 1)] := hl
  refine lv_iload_n hx hb dX8_withBit_0 rfl (lv_at hl 2 rfl) ?_
  refine lv_if_eq (tgt := 12) hx hb dX8_withBit_1 (by decide) (fun c => absurd c (by decide)) (fun _ => ?_)
  refine lv_iload_n hx hb dX8_withBit_4 rfl (lv_at hl 0 rfl) ?_
  refine lv_iconst (v := 1) hx hb dX8_withBit_5 (by decide) ?_
  refine lv_iload_n hx hb dX8_withBit_6 rfl (lv_at hl 1 rfl) ?_
  refine lv_ishl hx hb dX8_withBit_7 ?_
  refine lv_ior hx hb dX8_withBit_8 ?_
  refine lv_goto (tgt := 19) hx hb dX8_withBit_9 (by decide) ?_
  have hP9 := hP.sub (ws' := []) [] rfl
  have hD9 := hD.sub (ws' := []) [] (by decide) rfl
  have hK9 := hK.sub (tys' := []) [] rfl
  exact W.iret (v := (x ||| (1 <<< (i &&& 31)))) hx hb hr (fun t ht hW => ⟨⟨(x ||| (1 <<< (i &&& 31))), (), rfl, rfl, wOut_at ht hW hP9 hK9 hD9⟩, hS.F ht⟩) hS.2.2 dX8_withBit_19

set_option maxHeartbeats 4000000 in
set_option maxRecDepth 100000 in
theorem c_X8_withBit_0 (l : Launch) (dC : Nat → ClassId) (dI : Nat → Nat → Nat) (g : Nat × Nat × Nat) (x : Int32) (i : Int32) (sz : Nat) : Met l yX8_withBit wsX8_withBit ({ frames := 0, cells := 0, slots := 0, locals := 0 } : Room) (va_Pc [.int x, .int i, .int 0] (wIn dC dI g [] [] sz)) (va_Qi (fun (r : Int32) (u : Unit) => r = (x &&& ((1 <<< (i &&& 31)) ^^^ (-1)))) (fun (u : Unit) (t : State) => wOut dC dI [] [] (va_A [] sz) t) (va_A [] sz)) 0 0 (va_A [] sz) := by
  refine Met.ofW (cc := cX8_withBit) (maxL := 3) (ret := (some .int)) (by decide) rfl ?_
  intro p e s m args below meth c s₁ B hml hv
  obtain ⟨rfl, hsz, hP, hK, hD0, hG⟩ := hv
  have hx := B.exec
  have hb := B.bytes
  have hr := B.returns
  have hts := atoms_spec (ws := wsX8_withBit) B.pre
  have hown : s.vm.findClass RX8 = some m.cls := findClass_of_methodNamed B.named
  have hlocks := B.notSynchronized
  subst hsz
  have hD := hD0.self (sz := s.heap.size)
  generalize hAe : va_A [] s.heap.size = A at hD hG ⊢
  have hN := hG.1
  have hA : ∀ q : Nat, s.heap.size ≤ q → A q := fun q h => by rw [← hAe]; exact Or.inr h
  have hS : va_S A s.heap s.heap [] := va_S.rf
  have hP : va_P (dC, dI) vwCl [] s.heap := hP
  have hl := lv_entry ([.int x, .int i, .int 0]) (n := 3) (Nat.le_of_ble_eq_true rfl)
  rw [lg_entry_eq]
  generalize (lg_sl ([.int x, .int i, .int 0]) ++ List.replicate (3 - (lg_sl ([.int x, .int i, .int 0])).length) Slot.unset).toArray = ls at hl ⊢
  have hl : lv_has ls 3 [(0, .int x), (1, .int i), (2, .int 0)] := hl
  refine lv_iload_n hx hb dX8_withBit_0 rfl (lv_at hl 2 rfl) ?_
  refine lv_if_eq (tgt := 12) hx hb dX8_withBit_1 (by decide) (fun _ => ?_) (fun c => absurd (by decide) c)
  refine lv_iload_n hx hb dX8_withBit_12 rfl (lv_at hl 0 rfl) ?_
  refine lv_iconst (v := 1) hx hb dX8_withBit_13 (by decide) ?_
  refine lv_iload_n hx hb dX8_withBit_14 rfl (lv_at hl 1 rfl) ?_
  refine lv_ishl hx hb dX8_withBit_15 ?_
  refine lv_iconst (v := (-1)) hx hb dX8_withBit_16 (by decide) ?_
  refine lv_ixor hx hb dX8_withBit_17 ?_
  refine lv_iand hx hb dX8_withBit_18 ?_
  have hP9 := hP.sub (ws' := []) [] rfl
  have hD9 := hD.sub (ws' := []) [] (by decide) rfl
  have hK9 := hK.sub (tys' := []) [] rfl
  exact W.iret (v := (x &&& ((1 <<< (i &&& 31)) ^^^ (-1)))) hx hb hr (fun t ht hW => ⟨⟨(x &&& ((1 <<< (i &&& 31)) ^^^ (-1))), (), rfl, rfl, wOut_at ht hW hP9 hK9 hD9⟩, hS.F ht⟩) hS.2.2 dX8_withBit_19

set_option maxHeartbeats 4000000 in
set_option maxRecDepth 100000 in
theorem c_X1_freshOf_0 (l : Launch) (dC : Nat → ClassId) (dI : Nat → Nat → Nat) (g : Nat × Nat × Nat) (h0 : Nat) (w1 : Value) (w2 : Value) (w3 : Value) (w4 : Value) (a5 : Nat) (o : Int32) (cI : ClassId) (f : Nat → Int32) (sz : Nat) : Met l yX1_freshOf wsX1_freshOf ({ frames := 0, cells := 0, slots := 0, locals := 0 } : Room) (va_Pc [.ref h0, .int 0] (wIn dC dI g [(h0, .inr (5, [w1, w2, w3, w4, .ref a5, .int o])), (a5, .inl (cI, 4, .inl f))] [(cI, .int)] sz)) (va_Qi (fun (r : Int32) (u : Unit) => r = (f 0)) (fun (u : Unit) (t : State) => wOut dC dI [(h0, .inr (5, [w1, w2, w3, w4, .ref a5, .int o])), (a5, .inl (cI, 4, .inl f))] [(cI, .int)] (va_A [(h0, .inr (5, [w1, w2, w3, w4, .ref a5, .int o])), (a5, .inl (cI, 4, .inl f))] sz) t) (va_A [(h0, .inr (5, [w1, w2, w3, w4, .ref a5, .int o])), (a5, .inl (cI, 4, .inl f))] sz)) 0 0 (va_A [(h0, .inr (5, [w1, w2, w3, w4, .ref a5, .int o])), (a5, .inl (cI, 4, .inl f))] sz) := by
  refine Met.ofW (cc := cX1_freshOf) (maxL := 2) (ret := (some .int)) (by decide) rfl ?_
  intro p e s m args below meth c s₁ B hml hv
  obtain ⟨rfl, hsz, hP, hK, hD0, hG⟩ := hv
  have hx := B.exec
  have hb := B.bytes
  have hr := B.returns
  have hts := atoms_spec (ws := wsX1_freshOf) B.pre
  have hown : s.vm.findClass RX1 = some m.cls := findClass_of_methodNamed B.named
  have hlocks := B.notSynchronized
  subst hsz
  have hD := hD0.self (sz := s.heap.size)
  generalize hAe : va_A [(h0, .inr (5, [w1, w2, w3, w4, .ref a5, .int o])), (a5, .inl (cI, 4, .inl f))] s.heap.size = A at hD hG ⊢
  have hN := hG.1
  have hA : ∀ q : Nat, s.heap.size ≤ q → A q := fun q h => by rw [← hAe]; exact Or.inr h
  have hS : va_S A s.heap s.heap [] := va_S.rf
  have hP : va_P (dC, dI) vwCl [(h0, .inr (5, [w1, w2, w3, w4, .ref a5, .int o])), (a5, .inl (cI, 4, .inl f))] s.heap := hP
  have hw0 : (Cond.fieldLink RX1 24 "Tickstation$Clocks" "fresh" "[I").before _ s = true := hts _ (List.mem_cons_of_mem _ (List.mem_append_left _ (List.mem_append_left _ (List.mem_of_getElem? (i := 0) rfl))))
  have hiX1 : ∀ w ∈ u_ws RX1 TX1 6, w ∈ wsX1_freshOf := fun _ h => List.mem_cons_of_mem _ (List.mem_append_left _ (List.mem_append_right _ (h)))
  have hl := lv_entry ([.ref h0, .int 0]) (n := 2) (Nat.le_of_ble_eq_true rfl)
  rw [lg_entry_eq]
  generalize (lg_sl ([.ref h0, .int 0]) ++ List.replicate (2 - (lg_sl ([.ref h0, .int 0])).length) Slot.unset).toArray = ls at hl ⊢
  have hl : lv_has ls 2 [(0, .ref h0), (1, .int 0)] := hl
  refine lv_iload_n hx hb dX1_freshOf_0 rfl (lv_at hl 1 rfl) ?_
  refine lv_if_lt (tgt := 9) hx hb dX1_freshOf_1 (by decide) (fun c => absurd c (by decide)) (fun _ => ?_)
  refine lv_iload_n hx hb dX1_freshOf_4 rfl (lv_at hl 1 rfl) ?_
  refine lv_iconst (v := 4) hx hb dX1_freshOf_5 (by decide) ?_
  refine lv_icmp_lt (tgt := 13) hx hb dX1_freshOf_6 (by decide) (fun _ => ?_) (fun c => absurd (by decide) c)
  refine lv_aload_n hx hb dX1_freshOf_13 rfl (lv_at hl 0 rfl) ?_
  refine va_get (D := (dC, dI)) (ci := 5) (v := .ref a5) (C := RX1) (T := TX1) (N := 6) hx hb hts hiX1 hown hK hP 0 rfl rfl 4 (by decide) (hw0) (fun _ h9 => h9) rfl dX1_freshOf_14 ?_
  refine lv_iload_n hx hb dX1_freshOf_17 rfl (lv_at hl 1 rfl) ?_
  refine va_iald (D := (dC, dI)) hx hb hK hP 1 0 rfl rfl (by unfold vp_in; decide) dX1_freshOf_18 ?_
  refine lt_ci (y := (f 0)) rfl ?_
  have hP9 := hP.sub (ws' := [(h0, .inr (5, [w1, w2, w3, w4, .ref a5, .int o])), (a5, .inl (cI, 4, .inl f))]) [0, 1] rfl
  have hD9 := hD.sub (ws' := [(h0, .inr (5, [w1, w2, w3, w4, .ref a5, .int o])), (a5, .inl (cI, 4, .inl f))]) [0, 1] (by decide) rfl
  have hK9 := hK.sub (tys' := [(cI, .int)]) [0] rfl
  exact W.iret (v := (f 0)) hx hb hr (fun t ht hW => ⟨⟨(f 0), (), rfl, rfl, wOut_at ht hW hP9 hK9 hD9⟩, hS.F ht⟩) hS.2.2 dX1_freshOf_19

set_option maxHeartbeats 4000000 in
set_option maxRecDepth 100000 in
theorem c_X1_freshOf_1 (l : Launch) (dC : Nat → ClassId) (dI : Nat → Nat → Nat) (g : Nat × Nat × Nat) (h0 : Nat) (w1 : Value) (w2 : Value) (w3 : Value) (w4 : Value) (a5 : Nat) (o : Int32) (cI : ClassId) (f : Nat → Int32) (sz : Nat) : Met l yX1_freshOf wsX1_freshOf ({ frames := 0, cells := 0, slots := 0, locals := 0 } : Room) (va_Pc [.ref h0, .int 1] (wIn dC dI g [(h0, .inr (5, [w1, w2, w3, w4, .ref a5, .int o])), (a5, .inl (cI, 4, .inl f))] [(cI, .int)] sz)) (va_Qi (fun (r : Int32) (u : Unit) => r = (f 1)) (fun (u : Unit) (t : State) => wOut dC dI [(h0, .inr (5, [w1, w2, w3, w4, .ref a5, .int o])), (a5, .inl (cI, 4, .inl f))] [(cI, .int)] (va_A [(h0, .inr (5, [w1, w2, w3, w4, .ref a5, .int o])), (a5, .inl (cI, 4, .inl f))] sz) t) (va_A [(h0, .inr (5, [w1, w2, w3, w4, .ref a5, .int o])), (a5, .inl (cI, 4, .inl f))] sz)) 0 0 (va_A [(h0, .inr (5, [w1, w2, w3, w4, .ref a5, .int o])), (a5, .inl (cI, 4, .inl f))] sz) := by
  refine Met.ofW (cc := cX1_freshOf) (maxL := 2) (ret := (some .int)) (by decide) rfl ?_
  intro p e s m args below meth c s₁ B hml hv
  obtain ⟨rfl, hsz, hP, hK, hD0, hG⟩ := hv
  have hx := B.exec
  have hb := B.bytes
  have hr := B.returns
  have hts := atoms_spec (ws := wsX1_freshOf) B.pre
  have hown : s.vm.findClass RX1 = some m.cls := findClass_of_methodNamed B.named
  have hlocks := B.notSynchronized
  subst hsz
  have hD := hD0.self (sz := s.heap.size)
  generalize hAe : va_A [(h0, .inr (5, [w1, w2, w3, w4, .ref a5, .int o])), (a5, .inl (cI, 4, .inl f))] s.heap.size = A at hD hG ⊢
  have hN := hG.1
  have hA : ∀ q : Nat, s.heap.size ≤ q → A q := fun q h => by rw [← hAe]; exact Or.inr h
  have hS : va_S A s.heap s.heap [] := va_S.rf
  have hP : va_P (dC, dI) vwCl [(h0, .inr (5, [w1, w2, w3, w4, .ref a5, .int o])), (a5, .inl (cI, 4, .inl f))] s.heap := hP
  have hw0 : (Cond.fieldLink RX1 24 "Tickstation$Clocks" "fresh" "[I").before _ s = true := hts _ (List.mem_cons_of_mem _ (List.mem_append_left _ (List.mem_append_left _ (List.mem_of_getElem? (i := 0) rfl))))
  have hiX1 : ∀ w ∈ u_ws RX1 TX1 6, w ∈ wsX1_freshOf := fun _ h => List.mem_cons_of_mem _ (List.mem_append_left _ (List.mem_append_right _ (h)))
  have hl := lv_entry ([.ref h0, .int 1]) (n := 2) (Nat.le_of_ble_eq_true rfl)
  rw [lg_entry_eq]
  generalize (lg_sl ([.ref h0, .int 1]) ++ List.replicate (2 - (lg_sl ([.ref h0, .int 1])).length) Slot.unset).toArray = ls at hl ⊢
  have hl : lv_has ls 2 [(0, .ref h0), (1, .int 1)] := hl
  refine lv_iload_n hx hb dX1_freshOf_0 rfl (lv_at hl 1 rfl) ?_
  refine lv_if_lt (tgt := 9) hx hb dX1_freshOf_1 (by decide) (fun c => absurd c (by decide)) (fun _ => ?_)
  refine lv_iload_n hx hb dX1_freshOf_4 rfl (lv_at hl 1 rfl) ?_
  refine lv_iconst (v := 4) hx hb dX1_freshOf_5 (by decide) ?_
  refine lv_icmp_lt (tgt := 13) hx hb dX1_freshOf_6 (by decide) (fun _ => ?_) (fun c => absurd (by decide) c)
  refine lv_aload_n hx hb dX1_freshOf_13 rfl (lv_at hl 0 rfl) ?_
  refine va_get (D := (dC, dI)) (ci := 5) (v := .ref a5) (C := RX1) (T := TX1) (N := 6) hx hb hts hiX1 hown hK hP 0 rfl rfl 4 (by decide) (hw0) (fun _ h9 => h9) rfl dX1_freshOf_14 ?_
  refine lv_iload_n hx hb dX1_freshOf_17 rfl (lv_at hl 1 rfl) ?_
  refine va_iald (D := (dC, dI)) hx hb hK hP 1 0 rfl rfl (by unfold vp_in; decide) dX1_freshOf_18 ?_
  refine lt_ci (y := (f 1)) rfl ?_
  have hP9 := hP.sub (ws' := [(h0, .inr (5, [w1, w2, w3, w4, .ref a5, .int o])), (a5, .inl (cI, 4, .inl f))]) [0, 1] rfl
  have hD9 := hD.sub (ws' := [(h0, .inr (5, [w1, w2, w3, w4, .ref a5, .int o])), (a5, .inl (cI, 4, .inl f))]) [0, 1] (by decide) rfl
  have hK9 := hK.sub (tys' := [(cI, .int)]) [0] rfl
  exact W.iret (v := (f 1)) hx hb hr (fun t ht hW => ⟨⟨(f 1), (), rfl, rfl, wOut_at ht hW hP9 hK9 hD9⟩, hS.F ht⟩) hS.2.2 dX1_freshOf_19

set_option maxHeartbeats 4000000 in
set_option maxRecDepth 100000 in
theorem c_X1_freshOf_2 (l : Launch) (dC : Nat → ClassId) (dI : Nat → Nat → Nat) (g : Nat × Nat × Nat) (h0 : Nat) (w1 : Value) (w2 : Value) (w3 : Value) (w4 : Value) (a5 : Nat) (o : Int32) (cI : ClassId) (f : Nat → Int32) (sz : Nat) : Met l yX1_freshOf wsX1_freshOf ({ frames := 0, cells := 0, slots := 0, locals := 0 } : Room) (va_Pc [.ref h0, .int 2] (wIn dC dI g [(h0, .inr (5, [w1, w2, w3, w4, .ref a5, .int o])), (a5, .inl (cI, 4, .inl f))] [(cI, .int)] sz)) (va_Qi (fun (r : Int32) (u : Unit) => r = (f 2)) (fun (u : Unit) (t : State) => wOut dC dI [(h0, .inr (5, [w1, w2, w3, w4, .ref a5, .int o])), (a5, .inl (cI, 4, .inl f))] [(cI, .int)] (va_A [(h0, .inr (5, [w1, w2, w3, w4, .ref a5, .int o])), (a5, .inl (cI, 4, .inl f))] sz) t) (va_A [(h0, .inr (5, [w1, w2, w3, w4, .ref a5, .int o])), (a5, .inl (cI, 4, .inl f))] sz)) 0 0 (va_A [(h0, .inr (5, [w1, w2, w3, w4, .ref a5, .int o])), (a5, .inl (cI, 4, .inl f))] sz) := by
  refine Met.ofW (cc := cX1_freshOf) (maxL := 2) (ret := (some .int)) (by decide) rfl ?_
  intro p e s m args below meth c s₁ B hml hv
  obtain ⟨rfl, hsz, hP, hK, hD0, hG⟩ := hv
  have hx := B.exec
  have hb := B.bytes
  have hr := B.returns
  have hts := atoms_spec (ws := wsX1_freshOf) B.pre
  have hown : s.vm.findClass RX1 = some m.cls := findClass_of_methodNamed B.named
  have hlocks := B.notSynchronized
  subst hsz
  have hD := hD0.self (sz := s.heap.size)
  generalize hAe : va_A [(h0, .inr (5, [w1, w2, w3, w4, .ref a5, .int o])), (a5, .inl (cI, 4, .inl f))] s.heap.size = A at hD hG ⊢
  have hN := hG.1
  have hA : ∀ q : Nat, s.heap.size ≤ q → A q := fun q h => by rw [← hAe]; exact Or.inr h
  have hS : va_S A s.heap s.heap [] := va_S.rf
  have hP : va_P (dC, dI) vwCl [(h0, .inr (5, [w1, w2, w3, w4, .ref a5, .int o])), (a5, .inl (cI, 4, .inl f))] s.heap := hP
  have hw0 : (Cond.fieldLink RX1 24 "Tickstation$Clocks" "fresh" "[I").before _ s = true := hts _ (List.mem_cons_of_mem _ (List.mem_append_left _ (List.mem_append_left _ (List.mem_of_getElem? (i := 0) rfl))))
  have hiX1 : ∀ w ∈ u_ws RX1 TX1 6, w ∈ wsX1_freshOf := fun _ h => List.mem_cons_of_mem _ (List.mem_append_left _ (List.mem_append_right _ (h)))
  have hl := lv_entry ([.ref h0, .int 2]) (n := 2) (Nat.le_of_ble_eq_true rfl)
  rw [lg_entry_eq]
  generalize (lg_sl ([.ref h0, .int 2]) ++ List.replicate (2 - (lg_sl ([.ref h0, .int 2])).length) Slot.unset).toArray = ls at hl ⊢
  have hl : lv_has ls 2 [(0, .ref h0), (1, .int 2)] := hl
  refine lv_iload_n hx hb dX1_freshOf_0 rfl (lv_at hl 1 rfl) ?_
  refine lv_if_lt (tgt := 9) hx hb dX1_freshOf_1 (by decide) (fun c => absurd c (by decide)) (fun _ => ?_)
  refine lv_iload_n hx hb dX1_freshOf_4 rfl (lv_at hl 1 rfl) ?_
  refine lv_iconst (v := 4) hx hb dX1_freshOf_5 (by decide) ?_
  refine lv_icmp_lt (tgt := 13) hx hb dX1_freshOf_6 (by decide) (fun _ => ?_) (fun c => absurd (by decide) c)
  refine lv_aload_n hx hb dX1_freshOf_13 rfl (lv_at hl 0 rfl) ?_
  refine va_get (D := (dC, dI)) (ci := 5) (v := .ref a5) (C := RX1) (T := TX1) (N := 6) hx hb hts hiX1 hown hK hP 0 rfl rfl 4 (by decide) (hw0) (fun _ h9 => h9) rfl dX1_freshOf_14 ?_
  refine lv_iload_n hx hb dX1_freshOf_17 rfl (lv_at hl 1 rfl) ?_
  refine va_iald (D := (dC, dI)) hx hb hK hP 1 0 rfl rfl (by unfold vp_in; decide) dX1_freshOf_18 ?_
  refine lt_ci (y := (f 2)) rfl ?_
  have hP9 := hP.sub (ws' := [(h0, .inr (5, [w1, w2, w3, w4, .ref a5, .int o])), (a5, .inl (cI, 4, .inl f))]) [0, 1] rfl
  have hD9 := hD.sub (ws' := [(h0, .inr (5, [w1, w2, w3, w4, .ref a5, .int o])), (a5, .inl (cI, 4, .inl f))]) [0, 1] (by decide) rfl
  have hK9 := hK.sub (tys' := [(cI, .int)]) [0] rfl
  exact W.iret (v := (f 2)) hx hb hr (fun t ht hW => ⟨⟨(f 2), (), rfl, rfl, wOut_at ht hW hP9 hK9 hD9⟩, hS.F ht⟩) hS.2.2 dX1_freshOf_19

set_option maxHeartbeats 4000000 in
set_option maxRecDepth 100000 in
theorem c_X1_freshOf_3 (l : Launch) (dC : Nat → ClassId) (dI : Nat → Nat → Nat) (g : Nat × Nat × Nat) (h0 : Nat) (w1 : Value) (w2 : Value) (w3 : Value) (w4 : Value) (a5 : Nat) (o : Int32) (cI : ClassId) (f : Nat → Int32) (sz : Nat) : Met l yX1_freshOf wsX1_freshOf ({ frames := 0, cells := 0, slots := 0, locals := 0 } : Room) (va_Pc [.ref h0, .int 3] (wIn dC dI g [(h0, .inr (5, [w1, w2, w3, w4, .ref a5, .int o])), (a5, .inl (cI, 4, .inl f))] [(cI, .int)] sz)) (va_Qi (fun (r : Int32) (u : Unit) => r = (f 3)) (fun (u : Unit) (t : State) => wOut dC dI [(h0, .inr (5, [w1, w2, w3, w4, .ref a5, .int o])), (a5, .inl (cI, 4, .inl f))] [(cI, .int)] (va_A [(h0, .inr (5, [w1, w2, w3, w4, .ref a5, .int o])), (a5, .inl (cI, 4, .inl f))] sz) t) (va_A [(h0, .inr (5, [w1, w2, w3, w4, .ref a5, .int o])), (a5, .inl (cI, 4, .inl f))] sz)) 0 0 (va_A [(h0, .inr (5, [w1, w2, w3, w4, .ref a5, .int o])), (a5, .inl (cI, 4, .inl f))] sz) := by
  refine Met.ofW (cc := cX1_freshOf) (maxL := 2) (ret := (some .int)) (by decide) rfl ?_
  intro p e s m args below meth c s₁ B hml hv
  obtain ⟨rfl, hsz, hP, hK, hD0, hG⟩ := hv
  have hx := B.exec
  have hb := B.bytes
  have hr := B.returns
  have hts := atoms_spec (ws := wsX1_freshOf) B.pre
  have hown : s.vm.findClass RX1 = some m.cls := findClass_of_methodNamed B.named
  have hlocks := B.notSynchronized
  subst hsz
  have hD := hD0.self (sz := s.heap.size)
  generalize hAe : va_A [(h0, .inr (5, [w1, w2, w3, w4, .ref a5, .int o])), (a5, .inl (cI, 4, .inl f))] s.heap.size = A at hD hG ⊢
  have hN := hG.1
  have hA : ∀ q : Nat, s.heap.size ≤ q → A q := fun q h => by rw [← hAe]; exact Or.inr h
  have hS : va_S A s.heap s.heap [] := va_S.rf
  have hP : va_P (dC, dI) vwCl [(h0, .inr (5, [w1, w2, w3, w4, .ref a5, .int o])), (a5, .inl (cI, 4, .inl f))] s.heap := hP
  have hw0 : (Cond.fieldLink RX1 24 "Tickstation$Clocks" "fresh" "[I").before _ s = true := hts _ (List.mem_cons_of_mem _ (List.mem_append_left _ (List.mem_append_left _ (List.mem_of_getElem? (i := 0) rfl))))
  have hiX1 : ∀ w ∈ u_ws RX1 TX1 6, w ∈ wsX1_freshOf := fun _ h => List.mem_cons_of_mem _ (List.mem_append_left _ (List.mem_append_right _ (h)))
  have hl := lv_entry ([.ref h0, .int 3]) (n := 2) (Nat.le_of_ble_eq_true rfl)
  rw [lg_entry_eq]
  generalize (lg_sl ([.ref h0, .int 3]) ++ List.replicate (2 - (lg_sl ([.ref h0, .int 3])).length) Slot.unset).toArray = ls at hl ⊢
  have hl : lv_has ls 2 [(0, .ref h0), (1, .int 3)] := hl
  refine lv_iload_n hx hb dX1_freshOf_0 rfl (lv_at hl 1 rfl) ?_
  refine lv_if_lt (tgt := 9) hx hb dX1_freshOf_1 (by decide) (fun c => absurd c (by decide)) (fun _ => ?_)
  refine lv_iload_n hx hb dX1_freshOf_4 rfl (lv_at hl 1 rfl) ?_
  refine lv_iconst (v := 4) hx hb dX1_freshOf_5 (by decide) ?_
  refine lv_icmp_lt (tgt := 13) hx hb dX1_freshOf_6 (by decide) (fun _ => ?_) (fun c => absurd (by decide) c)
  refine lv_aload_n hx hb dX1_freshOf_13 rfl (lv_at hl 0 rfl) ?_
  refine va_get (D := (dC, dI)) (ci := 5) (v := .ref a5) (C := RX1) (T := TX1) (N := 6) hx hb hts hiX1 hown hK hP 0 rfl rfl 4 (by decide) (hw0) (fun _ h9 => h9) rfl dX1_freshOf_14 ?_
  refine lv_iload_n hx hb dX1_freshOf_17 rfl (lv_at hl 1 rfl) ?_
  refine va_iald (D := (dC, dI)) hx hb hK hP 1 0 rfl rfl (by unfold vp_in; decide) dX1_freshOf_18 ?_
  refine lt_ci (y := (f 3)) rfl ?_
  have hP9 := hP.sub (ws' := [(h0, .inr (5, [w1, w2, w3, w4, .ref a5, .int o])), (a5, .inl (cI, 4, .inl f))]) [0, 1] rfl
  have hD9 := hD.sub (ws' := [(h0, .inr (5, [w1, w2, w3, w4, .ref a5, .int o])), (a5, .inl (cI, 4, .inl f))]) [0, 1] (by decide) rfl
  have hK9 := hK.sub (tys' := [(cI, .int)]) [0] rfl
  exact W.iret (v := (f 3)) hx hb hr (fun t ht hW => ⟨⟨(f 3), (), rfl, rfl, wOut_at ht hW hP9 hK9 hD9⟩, hS.F ht⟩) hS.2.2 dX1_freshOf_19
