set_option maxHeartbeats 4000000 in
set_option maxRecDepth 100000 in
theorem c_J3_checkIndex_8e157 (l : Launch) (dC : Nat → ClassId) (dI : Nat → Nat → Nat) (g : Nat × Nat × Nat) (i : Int32) (z : Int32) (sz : Nat) (h1 : ¬ i < 0) (h2 : i < z) : Met l yJ3_checkIndex_8e157 wsJ3_checkIndex_8e157 ({ frames := 0, cells := 0, slots := 0, locals := 0 } : Room) (va_Pc [.int i, .int z, .null] (wIn dC dI g [] [] sz)) (va_Qi (fun (r : Int32) (u : Unit) => r = i) (fun (u : Unit) (t : State) => wOut dC dI [] [] (va_A [] sz) t) (va_A [] sz)) 0 0 (va_A [] sz) := by
  refine Met.ofW (cc := cJ3_checkIndex_8e157) (maxL := 3) (ret := (some .int)) (by decide) rfl ?_
  intro p e s m args below meth c s₁ B hml hv
  obtain ⟨rfl, hsz, hP, hK, hD0, hG⟩ := hv
  have hx := B.exec
  have hb := B.bytes
  have hr := B.returns
  have hts := atoms_spec (ws := wsJ3_checkIndex_8e157) B.pre
  have hown : s.vm.findClass RJ3 = some m.cls := findClass_of_methodNamed B.named
  have hlocks := B.notSynchronized
  subst hsz
  have hD := hD0.self (sz := s.heap.size)
  generalize hAe : va_A [] s.heap.size = A at hD hG ⊢
  have hN := hG.1
  have hA : ∀ q : Nat, s.heap.size ≤ q → A q := fun q h => by rw [← hAe]; exact Or.inr h
  have hS : va_S A s.heap s.heap [] := va_S.rf
  have hP : va_P (dC, dI) vwCl [] s.heap := hP
  have hl := lv_entry ([.int i, .int z, .null]) (n := 3) (Nat.le_of_ble_eq_true rfl)
  rw [lg_entry_eq]
  generalize (lg_sl ([.int i, .int z, .null]) ++ List.replicate (3 - (lg_sl ([.int i, .int z, .null])).length) Slot.unset).toArray = ls at hl ⊢
  have hl : lv_has ls 3 [(0, .int i), (1, .int z), (2, .null)] := hl
  refine lv_iload_n hx hb dJ3_checkIndex_8e157_0 rfl (lv_at hl 0 rfl) ?_
  refine lv_if_lt (tgt := 9) hx hb dJ3_checkIndex_8e157_1 (by decide) (fun c => absurd c (h1)) (fun _ => ?_)
  refine lv_iload_n hx hb dJ3_checkIndex_8e157_4 rfl (lv_at hl 0 rfl) ?_
  refine lv_iload_n hx hb dJ3_checkIndex_8e157_5 rfl (lv_at hl 1 rfl) ?_
  refine lv_icmp_lt (tgt := 16) hx hb dJ3_checkIndex_8e157_6 (by decide) (fun _ => ?_) (fun c => absurd (h2) c)
  refine lv_iload_n hx hb dJ3_checkIndex_8e157_16 rfl (lv_at hl 0 rfl) ?_
  have hP9 := hP.sub (ws' := []) [] rfl
  have hD9 := hD.sub (ws' := []) [] (by decide) rfl
  have hK9 := hK.sub (tys' := []) [] rfl
  exact W.iret (v := i) hx hb hr (fun t ht hW => ⟨⟨i, (), rfl, rfl, wOut_at ht hW hP9 hK9 hD9⟩, hS.F ht⟩) hS.2.2 dJ3_checkIndex_8e157_17

set_option maxHeartbeats 4000000 in
set_option maxRecDepth 100000 in
theorem c_J15_checkIndex_7cf53 (l : Launch) (dC : Nat → ClassId) (dI : Nat → Nat → Nat) (g : Nat × Nat × Nat) (i : Int32) (z : Int32) (sz : Nat) (h1 : ¬ i < 0) (h2 : i < z) : Met l yJ15_checkIndex_7cf53 wsJ15_checkIndex_7cf53 ({ frames := 1, cells := 0, slots := 0, locals := 22 } : Room) (va_Pc [.int i, .int z] (wIn dC dI g [] [] sz)) (va_Qi (fun (r : Int32) (u : Unit) => r = i) (fun (u : Unit) (t : State) => wOut dC dI [] [] (va_A [] sz) t) (va_A [] sz)) 0 0 (va_A [] sz) := by
  refine Met.ofW (cc := cJ15_checkIndex_7cf53) (maxL := 2) (ret := (some .int)) (by decide) rfl ?_
  intro p e s m args below meth c s₁ B hml hv
  obtain ⟨rfl, hsz, hP, hK, hD0, hG⟩ := hv
  have hx := B.exec
  have hb := B.bytes
  have hr := B.returns
  have hts := atoms_spec (ws := wsJ15_checkIndex_7cf53) B.pre
  have hown : s.vm.findClass RJ15 = some m.cls := findClass_of_methodNamed B.named
  have hlocks := B.notSynchronized
  subst hsz
  have hD := hD0.self (sz := s.heap.size)
  generalize hAe : va_A [] s.heap.size = A at hD hG ⊢
  have hN := hG.1
  have hA : ∀ q : Nat, s.heap.size ≤ q → A q := fun q h => by rw [← hAe]; exact Or.inr h
  have hS : va_S A s.heap s.heap [] := va_S.rf
  have hP : va_P (dC, dI) vwCl [] s.heap := hP
  have hl := lv_entry ([.int i, .int z]) (n := 2) (Nat.le_of_ble_eq_true rfl)
  rw [lg_entry_eq]
  generalize (lg_sl ([.int i, .int z]) ++ List.replicate (2 - (lg_sl ([.int i, .int z])).length) Slot.unset).toArray = ls at hl ⊢
  have hl : lv_has ls 2 [(0, .int i), (1, .int z)] := hl
  refine lv_iload_n hx hb dJ15_checkIndex_7cf53_0 rfl (lv_at hl 0 rfl) ?_
  refine lv_iload_n hx hb dJ15_checkIndex_7cf53_1 rfl (lv_at hl 1 rfl) ?_
  refine lv_null hx hb dJ15_checkIndex_7cf53_2 ?_
  have hPc := hP.sub (ws' := []) [] rfl
  have hDc := hD.sub (ws' := []) [] (by decide) rfl
  have hKc := hK.sub (tys' := []) [] rfl
  have hFc := va_free (wc := []) hD hS hA [] rfl
  refine va_calli (va_runS (As := [.int i, .int z, .null]) (rest := []) ⟨hx, hb, hml, hown, hts⟩ (c_J3_checkIndex_8e157 l dC dI g i z s.heap.size h1 h2) (va_cwS 3 hts gJ15_checkIndex_7cf53_J3_checkIndex_8e157 rfl rfl rfl (by decide +kernel) ⟨Nat.le_of_ble_eq_true rfl, Nat.le_of_ble_eq_true rfl⟩) ⟨wIn_blind, wIn_at hPc hKc hDc hG hS hFc⟩ rfl rfl hl.1 rfl (lv_room (Nat.le_of_ble_eq_true rfl)) dJ15_checkIndex_7cf53_3 ⟨Nat.le_of_ble_eq_true rfl, Nat.le_of_ble_eq_true rfl⟩) hS (fun q _ h => hFc q h) hFc (fun r_1 u t H1 locs ht hvm hw hB hz1 hk1 hS => ?_)
  obtain ⟨hP1, hK1, hD1⟩ := hB
  rw [ht] at hP1
  obtain ⟨hP, hD⟩ := va_join (wr := []) (w1 := []) hP hD [] [] rfl rfl (by decide) (by decide) hk1 hFc hP1 hD1
  generalize H1 = H at hP hS ⊢
  have hP : va_P (dC, dI) vwCl [] H := hP
  have hD : va_D A [] := hD
  refine lt_ci (y := i) hw ?_
  have hP9 := hP.sub (ws' := []) [] rfl
  have hD9 := hD.sub (ws' := []) [] (by decide) rfl
  have hK9 := hK.sub (tys' := []) [] rfl
  exact W.iret (v := i) hx hb hr (fun t ht hW => ⟨⟨i, (), rfl, rfl, wOut_at ht hW hP9 hK9 hD9⟩, hS.F ht⟩) hS.2.2 dJ15_checkIndex_7cf53_6

set_option maxHeartbeats 4000000 in
set_option maxRecDepth 100000 in
theorem c_Jx4a65c_elementData_915e3_0 (l : Launch) (dC : Nat → ClassId) (dI : Nat → Nat → Nat) (g : Nat × Nat × Nat) (q0 : Nat) (q1 : Nat) (md : Int32) (z : Int32) (cO : ClassId) (f : Nat → Option Nat) (v : Nat) (sz : Nat) (hv : f 0 = some v) : Met l yJx4a65c_elementData_915e3 wsJx4a65c_elementData_915e3 ({ frames := 0, cells := 0, slots := 0, locals := 0 } : Room) (va_Pc [.ref q0, .int 0] (wIn dC dI g [(q0, .inr (3, [.int md, .ref q1, .int z])), (q1, .inl (cO, 10, .inr (.inr (.inr (.inr f)))))] [(cO, .object "java/lang/Object")] sz)) (va_Qr (fun (u : Unit) => True) (fun (u : Unit) (ra : Nat) (t : State) => ra = v ∧ wOut dC dI [(q0, .inr (3, [.int md, .ref q1, .int z])), (q1, .inl (cO, 10, .inr (.inr (.inr (.inr f)))))] [(cO, .object "java/lang/Object")] (va_A [(q0, .inr (3, [.int md, .ref q1, .int z])), (q1, .inl (cO, 10, .inr (.inr (.inr (.inr f)))))] sz) t) (va_A [(q0, .inr (3, [.int md, .ref q1, .int z])), (q1, .inl (cO, 10, .inr (.inr (.inr (.inr f)))))] sz)) 0 0 (va_A [(q0, .inr (3, [.int md, .ref q1, .int z])), (q1, .inl (cO, 10, .inr (.inr (.inr (.inr f)))))] sz) := by
  refine Met.ofW (cc := cJx4a65c_elementData_915e3) (maxL := 2) (ret := (some (.object "java/lang/Object"))) (by decide) rfl ?_
  intro p e s m args below meth c s₁ B hml hv
  obtain ⟨rfl, hsz, hP, hK, hD0, hG⟩ := hv
  have hx := B.exec
  have hb := B.bytes
  have hr := B.returns
  have hts := atoms_spec (ws := wsJx4a65c_elementData_915e3) B.pre
  have hown : s.vm.findClass RJx4a65c = some m.cls := findClass_of_methodNamed B.named
  have hlocks := B.notSynchronized
  subst hsz
  have hD := hD0.self (sz := s.heap.size)
  generalize hAe : va_A [(q0, .inr (3, [.int md, .ref q1, .int z])), (q1, .inl (cO, 10, .inr (.inr (.inr (.inr f)))))] s.heap.size = A at hD hG ⊢
  have hN := hG.1
  have hA : ∀ q : Nat, s.heap.size ≤ q → A q := fun q h => by rw [← hAe]; exact Or.inr h
  have hS : va_S A s.heap s.heap [] := va_S.rf
  have hP : va_P (dC, dI) vwCl [(q0, .inr (3, [.int md, .ref q1, .int z])), (q1, .inl (cO, 10, .inr (.inr (.inr (.inr f)))))] s.heap := hP
  have hw0 : (Cond.fieldLink RJx4a65c 9 "java/util/ArrayList" "elementData" "[Ljava/lang/Object;").before _ s = true := hts _ (List.mem_cons_of_mem _ (List.mem_append_left _ (List.mem_of_getElem? (i := 0) rfl)))
  have hiJx4a65c : ∀ w ∈ u_ws RJx4a65c TJx4a65c 3, w ∈ wsJx4a65c_elementData_915e3 := fun _ h => List.mem_cons_of_mem _ (List.mem_append_right _ (h))
  have hl := lv_entry ([.ref q0, .int 0]) (n := 2) (Nat.le_of_ble_eq_true rfl)
  rw [lg_entry_eq]
  generalize (lg_sl ([.ref q0, .int 0]) ++ List.replicate (2 - (lg_sl ([.ref q0, .int 0])).length) Slot.unset).toArray = ls at hl ⊢
  have hl : lv_has ls 2 [(0, .ref q0), (1, .int 0)] := hl
  refine lv_aload_n hx hb dJx4a65c_elementData_915e3_0 rfl (lv_at hl 0 rfl) ?_
  refine va_get (D := (dC, dI)) (ci := 3) (v := .ref q1) (C := RJx4a65c) (T := TJx4a65c) (N := 3) hx hb hts hiJx4a65c hown hK hP 0 rfl rfl 1 (by decide) (hw0) (fun _ h9 => h9) rfl dJx4a65c_elementData_915e3_1 ?_
  refine lv_iload_n hx hb dJx4a65c_elementData_915e3_4 rfl (lv_at hl 1 rfl) ?_
  refine va_aldq (D := (dC, dI)) (C := "java/lang/Object") hx hb hK hP 1 0 rfl rfl (by unfold vp_in; decide) dJx4a65c_elementData_915e3_5 ?_
  refine lt_v (y := .ref v) (congrArg va_rf hv) ?_
  have hP9 := hP.sub (ws' := [(q0, .inr (3, [.int md, .ref q1, .int z])), (q1, .inl (cO, 10, .inr (.inr (.inr (.inr f)))))]) [0, 1] rfl
  have hD9 := hD.sub (ws' := [(q0, .inr (3, [.int md, .ref q1, .int z])), (q1, .inl (cO, 10, .inr (.inr (.inr (.inr f)))))]) [0, 1] (by decide) rfl
  have hK9 := hK.sub (tys' := [(cO, .object "java/lang/Object")]) [0] rfl
  exact W.aret (v := .ref v) hx hb hr (Or.inl ⟨_, rfl⟩) (Or.inr ⟨_, rfl⟩) (fun t ht hW => ⟨⟨(), v, rfl, trivial, rfl, wOut_at ht hW hP9 hK9 hD9⟩, hS.F ht⟩) hS.2.2 dJx4a65c_elementData_915e3_6

set_option maxHeartbeats 4000000 in
set_option maxRecDepth 100000 in
theorem c_Jx4a65c_elementData_915e3_1 (l : Launch) (dC : Nat → ClassId) (dI : Nat → Nat → Nat) (g : Nat × Nat × Nat) (q0 : Nat) (q1 : Nat) (md : Int32) (z : Int32) (cO : ClassId) (f : Nat → Option Nat) (v : Nat) (sz : Nat) (hv : f 1 = some v) : Met l yJx4a65c_elementData_915e3 wsJx4a65c_elementData_915e3 ({ frames := 0, cells := 0, slots := 0, locals := 0 } : Room) (va_Pc [.ref q0, .int 1] (wIn dC dI g [(q0, .inr (3, [.int md, .ref q1, .int z])), (q1, .inl (cO, 10, .inr (.inr (.inr (.inr f)))))] [(cO, .object "java/lang/Object")] sz)) (va_Qr (fun (u : Unit) => True) (fun (u : Unit) (ra : Nat) (t : State) => ra = v ∧ wOut dC dI [(q0, .inr (3, [.int md, .ref q1, .int z])), (q1, .inl (cO, 10, .inr (.inr (.inr (.inr f)))))] [(cO, .object "java/lang/Object")] (va_A [(q0, .inr (3, [.int md, .ref q1, .int z])), (q1, .inl (cO, 10, .inr (.inr (.inr (.inr f)))))] sz) t) (va_A [(q0, .inr (3, [.int md, .ref q1, .int z])), (q1, .inl (cO, 10, .inr (.inr (.inr (.inr f)))))] sz)) 0 0 (va_A [(q0, .inr (3, [.int md, .ref q1, .int z])), (q1, .inl (cO, 10, .inr (.inr (.inr (.inr f)))))] sz) := by
  refine Met.ofW (cc := cJx4a65c_elementData_915e3) (maxL := 2) (ret := (some (.object "java/lang/Object"))) (by decide) rfl ?_
  intro p e s m args below meth c s₁ B hml hv
  obtain ⟨rfl, hsz, hP, hK, hD0, hG⟩ := hv
  have hx := B.exec
  have hb := B.bytes
  have hr := B.returns
  have hts := atoms_spec (ws := wsJx4a65c_elementData_915e3) B.pre
  have hown : s.vm.findClass RJx4a65c = some m.cls := findClass_of_methodNamed B.named
  have hlocks := B.notSynchronized
  subst hsz
  have hD := hD0.self (sz := s.heap.size)
  generalize hAe : va_A [(q0, .inr (3, [.int md, .ref q1, .int z])), (q1, .inl (cO, 10, .inr (.inr (.inr (.inr f)))))] s.heap.size = A at hD hG ⊢
  have hN := hG.1
  have hA : ∀ q : Nat, s.heap.size ≤ q → A q := fun q h => by rw [← hAe]; exact Or.inr h
  have hS : va_S A s.heap s.heap [] := va_S.rf
  have hP : va_P (dC, dI) vwCl [(q0, .inr (3, [.int md, .ref q1, .int z])), (q1, .inl (cO, 10, .inr (.inr (.inr (.inr f)))))] s.heap := hP
  have hw0 : (Cond.fieldLink RJx4a65c 9 "java/util/ArrayList" "elementData" "[Ljava/lang/Object;").before _ s = true := hts _ (List.mem_cons_of_mem _ (List.mem_append_left _ (List.mem_of_getElem? (i := 0) rfl)))
  have hiJx4a65c : ∀ w ∈ u_ws RJx4a65c TJx4a65c 3, w ∈ wsJx4a65c_elementData_915e3 := fun _ h => List.mem_cons_of_mem _ (List.mem_append_right _ (h))
  have hl := lv_entry ([.ref q0, .int 1]) (n := 2) (Nat.le_of_ble_eq_true rfl)
  rw [lg_entry_eq]
  generalize (lg_sl ([.ref q0, .int 1]) ++ List.replicate (2 - (lg_sl ([.ref q0, .int 1])).length) Slot.unset).toArray = ls at hl ⊢
  have hl : lv_has ls 2 [(0, .ref q0), (1, .int 1)] := hl
  refine lv_aload_n hx hb dJx4a65c_elementData_915e3_0 rfl (lv_at hl 0 rfl) ?_
  refine va_get (D := (dC, dI)) (ci := 3) (v := .ref q1) (C := RJx4a65c) (T := TJx4a65c) (N := 3) hx hb hts hiJx4a65c hown hK hP 0 rfl rfl 1 (by decide) (hw0) (fun _ h9 => h9) rfl dJx4a65c_elementData_915e3_1 ?_
  refine lv_iload_n hx hb dJx4a65c_elementData_915e3_4 rfl (lv_at hl 1 rfl) ?_
  refine va_aldq (D := (dC, dI)) (C := "java/lang/Object") hx hb hK hP 1 0 rfl rfl (by unfold vp_in; decide) dJx4a65c_elementData_915e3_5 ?_
  refine lt_v (y := .ref v) (congrArg va_rf hv) ?_
  have hP9 := hP.sub (ws' := [(q0, .inr (3, [.int md, .ref q1, .int z])), (q1, .inl (cO, 10, .inr (.inr (.inr (.inr f)))))]) [0, 1] rfl
  have hD9 := hD.sub (ws' := [(q0, .inr (3, [.int md, .ref q1, .int z])), (q1, .inl (cO, 10, .inr (.inr (.inr (.inr f)))))]) [0, 1] (by decide) rfl
  have hK9 := hK.sub (tys' := [(cO, .object "java/lang/Object")]) [0] rfl
  exact W.aret (v := .ref v) hx hb hr (Or.inl ⟨_, rfl⟩) (Or.inr ⟨_, rfl⟩) (fun t ht hW => ⟨⟨(), v, rfl, trivial, rfl, wOut_at ht hW hP9 hK9 hD9⟩, hS.F ht⟩) hS.2.2 dJx4a65c_elementData_915e3_6

set_option maxHeartbeats 4000000 in
set_option maxRecDepth 100000 in
theorem c_Jx4a65c_elementData_915e3_2 (l : Launch) (dC : Nat → ClassId) (dI : Nat → Nat → Nat) (g : Nat × Nat × Nat) (q0 : Nat) (q1 : Nat) (md : Int32) (z : Int32) (cO : ClassId) (f : Nat → Option Nat) (v : Nat) (sz : Nat) (hv : f 2 = some v) : Met l yJx4a65c_elementData_915e3 wsJx4a65c_elementData_915e3 ({ frames := 0, cells := 0, slots := 0, locals := 0 } : Room) (va_Pc [.ref q0, .int 2] (wIn dC dI g [(q0, .inr (3, [.int md, .ref q1, .int z])), (q1, .inl (cO, 10, .inr (.inr (.inr (.inr f)))))] [(cO, .object "java/lang/Object")] sz)) (va_Qr (fun (u : Unit) => True) (fun (u : Unit) (ra : Nat) (t : State) => ra = v ∧ wOut dC dI [(q0, .inr (3, [.int md, .ref q1, .int z])), (q1, .inl (cO, 10, .inr (.inr (.inr (.inr f)))))] [(cO, .object "java/lang/Object")] (va_A [(q0, .inr (3, [.int md, .ref q1, .int z])), (q1, .inl (cO, 10, .inr (.inr (.inr (.inr f)))))] sz) t) (va_A [(q0, .inr (3, [.int md, .ref q1, .int z])), (q1, .inl (cO, 10, .inr (.inr (.inr (.inr f)))))] sz)) 0 0 (va_A [(q0, .inr (3, [.int md, .ref q1, .int z])), (q1, .inl (cO, 10, .inr (.inr (.inr (.inr f)))))] sz) := by
  refine Met.ofW (cc := cJx4a65c_elementData_915e3) (maxL := 2) (ret := (some (.object "java/lang/Object"))) (by decide) rfl ?_
  intro p e s m args below meth c s₁ B hml hv
  obtain ⟨rfl, hsz, hP, hK, hD0, hG⟩ := hv
  have hx := B.exec
  have hb := B.bytes
  have hr := B.returns
  have hts := atoms_spec (ws := wsJx4a65c_elementData_915e3) B.pre
  have hown : s.vm.findClass RJx4a65c = some m.cls := findClass_of_methodNamed B.named
  have hlocks := B.notSynchronized
  subst hsz
  have hD := hD0.self (sz := s.heap.size)
  generalize hAe : va_A [(q0, .inr (3, [.int md, .ref q1, .int z])), (q1, .inl (cO, 10, .inr (.inr (.inr (.inr f)))))] s.heap.size = A at hD hG ⊢
  have hN := hG.1
  have hA : ∀ q : Nat, s.heap.size ≤ q → A q := fun q h => by rw [← hAe]; exact Or.inr h
  have hS : va_S A s.heap s.heap [] := va_S.rf
  have hP : va_P (dC, dI) vwCl [(q0, .inr (3, [.int md, .ref q1, .int z])), (q1, .inl (cO, 10, .inr (.inr (.inr (.inr f)))))] s.heap := hP
  have hw0 : (Cond.fieldLink RJx4a65c 9 "java/util/ArrayList" "elementData" "[Ljava/lang/Object;").before _ s = true := hts _ (List.mem_cons_of_mem _ (List.mem_append_left _ (List.mem_of_getElem? (i := 0) rfl)))
  have hiJx4a65c : ∀ w ∈ u_ws RJx4a65c TJx4a65c 3, w ∈ wsJx4a65c_elementData_915e3 := fun _ h => List.mem_cons_of_mem _ (List.mem_append_right _ (h))
  have hl := lv_entry ([.ref q0, .int 2]) (n := 2) (Nat.le_of_ble_eq_true rfl)
  rw [lg_entry_eq]
  generalize (lg_sl ([.ref q0, .int 2]) ++ List.replicate (2 - (lg_sl ([.ref q0, .int 2])).length) Slot.unset).toArray = ls at hl ⊢
  have hl : lv_has ls 2 [(0, .ref q0), (1, .int 2)] := hl
  refine lv_aload_n hx hb dJx4a65c_elementData_915e3_0 rfl (lv_at hl 0 rfl) ?_
  refine va_get (D := (dC, dI)) (ci := 3) (v := .ref q1) (C := RJx4a65c) (T := TJx4a65c) (N := 3) hx hb hts hiJx4a65c hown hK hP 0 rfl rfl 1 (by decide) (hw0) (fun _ h9 => h9) rfl dJx4a65c_elementData_915e3_1 ?_
  refine lv_iload_n hx hb dJx4a65c_elementData_915e3_4 rfl (lv_at hl 1 rfl) ?_
  refine va_aldq (D := (dC, dI)) (C := "java/lang/Object") hx hb hK hP 1 0 rfl rfl (by unfold vp_in; decide) dJx4a65c_elementData_915e3_5 ?_
  refine lt_v (y := .ref v) (congrArg va_rf hv) ?_
  have hP9 := hP.sub (ws' := [(q0, .inr (3, [.int md, .ref q1, .int z])), (q1, .inl (cO, 10, .inr (.inr (.inr (.inr f)))))]) [0, 1] rfl
  have hD9 := hD.sub (ws' := [(q0, .inr (3, [.int md, .ref q1, .int z])), (q1, .inl (cO, 10, .inr (.inr (.inr (.inr f)))))]) [0, 1] (by decide) rfl
  have hK9 := hK.sub (tys' := [(cO, .object "java/lang/Object")]) [0] rfl
  exact W.aret (v := .ref v) hx hb hr (Or.inl ⟨_, rfl⟩) (Or.inr ⟨_, rfl⟩) (fun t ht hW => ⟨⟨(), v, rfl, trivial, rfl, wOut_at ht hW hP9 hK9 hD9⟩, hS.F ht⟩) hS.2.2 dJx4a65c_elementData_915e3_6

set_option maxHeartbeats 4000000 in
set_option maxRecDepth 100000 in
theorem c_Jx4a65c_elementData_915e3_3 (l : Launch) (dC : Nat → ClassId) (dI : Nat → Nat → Nat) (g : Nat × Nat × Nat) (q0 : Nat) (q1 : Nat) (md : Int32) (z : Int32) (cO : ClassId) (f : Nat → Option Nat) (v : Nat) (sz : Nat) (hv : f 3 = some v) : Met l yJx4a65c_elementData_915e3 wsJx4a65c_elementData_915e3 ({ frames := 0, cells := 0, slots := 0, locals := 0 } : Room) (va_Pc [.ref q0, .int 3] (wIn dC dI g [(q0, .inr (3, [.int md, .ref q1, .int z])), (q1, .inl (cO, 10, .inr (.inr (.inr (.inr f)))))] [(cO, .object "java/lang/Object")] sz)) (va_Qr (fun (u : Unit) => True) (fun (u : Unit) (ra : Nat) (t : State) => ra = v ∧ wOut dC dI [(q0, .inr (3, [.int md, .ref q1, .int z])), (q1, .inl (cO, 10, .inr (.inr (.inr (.inr f)))))] [(cO, .object "java/lang/Object")] (va_A [(q0, .inr (3, [.int md, .ref q1, .int z])), (q1, .inl (cO, 10, .inr (.inr (.inr (.inr f)))))] sz) t) (va_A [(q0, .inr (3, [.int md, .ref q1, .int z])), (q1, .inl (cO, 10, .inr (.inr (.inr (.inr f)))))] sz)) 0 0 (va_A [(q0, .inr (3, [.int md, .ref q1, .int z])), (q1, .inl (cO, 10, .inr (.inr (.inr (.inr f)))))] sz) := by
  refine Met.ofW (cc := cJx4a65c_elementData_915e3) (maxL := 2) (ret := (some (.object "java/lang/Object"))) (by decide) rfl ?_
  intro p e s m args below meth c s₁ B hml hv
  obtain ⟨rfl, hsz, hP, hK, hD0, hG⟩ := hv
  have hx := B.exec
  have hb := B.bytes
  have hr := B.returns
  have hts := atoms_spec (ws := wsJx4a65c_elementData_915e3) B.pre
  have hown : s.vm.findClass RJx4a65c = some m.cls := findClass_of_methodNamed B.named
  have hlocks := B.notSynchronized
  subst hsz
  have hD := hD0.self (sz := s.heap.size)
  generalize hAe : va_A [(q0, .inr (3, [.int md, .ref q1, .int z])), (q1, .inl (cO, 10, .inr (.inr (.inr (.inr f)))))] s.heap.size = A at hD hG ⊢
  have hN := hG.1
  have hA : ∀ q : Nat, s.heap.size ≤ q → A q := fun q h => by rw [← hAe]; exact Or.inr h
  have hS : va_S A s.heap s.heap [] := va_S.rf
  have hP : va_P (dC, dI) vwCl [(q0, .inr (3, [.int md, .ref q1, .int z])), (q1, .inl (cO, 10, .inr (.inr (.inr (.inr f)))))] s.heap := hP
  have hw0 : (Cond.fieldLink RJx4a65c 9 "java/util/ArrayList" "elementData" "[Ljava/lang/Object;").before _ s = true := hts _ (List.mem_cons_of_mem _ (List.mem_append_left _ (List.mem_of_getElem? (i := 0) rfl)))
  have hiJx4a65c : ∀ w ∈ u_ws RJx4a65c TJx4a65c 3, w ∈ wsJx4a65c_elementData_915e3 := fun _ h => List.mem_cons_of_mem _ (List.mem_append_right _ (h))
  have hl := lv_entry ([.ref q0, .int 3]) (n := 2) (Nat.le_of_ble_eq_true rfl)
  rw [lg_entry_eq]
  generalize (lg_sl ([.ref q0, .int 3]) ++ List.replicate (2 - (lg_sl ([.ref q0, .int 3])).length) Slot.unset).toArray = ls at hl ⊢
  have hl : lv_has ls 2 [(0, .ref q0), (1, .int 3)] := hl
  refine lv_aload_n hx hb dJx4a65c_elementData_915e3_0 rfl (lv_at hl 0 rfl) ?_
  refine va_get (D := (dC, dI)) (ci := 3) (v := .ref q1) (C := RJx4a65c) (T := TJx4a65c) (N := 3) hx hb hts hiJx4a65c hown hK hP 0 rfl rfl 1 (by decide) (hw0) (fun _ h9 => h9) rfl dJx4a65c_elementData_915e3_1 ?_
  refine lv_iload_n hx hb dJx4a65c_elementData_915e3_4 rfl (lv_at hl 1 rfl) ?_
  refine va_aldq (D := (dC, dI)) (C := "java/lang/Object") hx hb hK hP 1 0 rfl rfl (by unfold vp_in; decide) dJx4a65c_elementData_915e3_5 ?_
  refine lt_v (y := .ref v) (congrArg va_rf hv) ?_
  have hP9 := hP.sub (ws' := [(q0, .inr (3, [.int md, .ref q1, .int z])), (q1, .inl (cO, 10, .inr (.inr (.inr (.inr f)))))]) [0, 1] rfl
  have hD9 := hD.sub (ws' := [(q0, .inr (3, [.int md, .ref q1, .int z])), (q1, .inl (cO, 10, .inr (.inr (.inr (.inr f)))))]) [0, 1] (by decide) rfl
  have hK9 := hK.sub (tys' := [(cO, .object "java/lang/Object")]) [0] rfl
  exact W.aret (v := .ref v) hx hb hr (Or.inl ⟨_, rfl⟩) (Or.inr ⟨_, rfl⟩) (fun t ht hW => ⟨⟨(), v, rfl, trivial, rfl, wOut_at ht hW hP9 hK9 hD9⟩, hS.F ht⟩) hS.2.2 dJx4a65c_elementData_915e3_6

set_option maxHeartbeats 4000000 in
set_option maxRecDepth 100000 in
theorem c_Jx4a65c_elementData_915e3_4 (l : Launch) (dC : Nat → ClassId) (dI : Nat → Nat → Nat) (g : Nat × Nat × Nat) (q0 : Nat) (q1 : Nat) (md : Int32) (z : Int32) (cO : ClassId) (f : Nat → Option Nat) (v : Nat) (sz : Nat) (hv : f 4 = some v) : Met l yJx4a65c_elementData_915e3 wsJx4a65c_elementData_915e3 ({ frames := 0, cells := 0, slots := 0, locals := 0 } : Room) (va_Pc [.ref q0, .int 4] (wIn dC dI g [(q0, .inr (3, [.int md, .ref q1, .int z])), (q1, .inl (cO, 10, .inr (.inr (.inr (.inr f)))))] [(cO, .object "java/lang/Object")] sz)) (va_Qr (fun (u : Unit) => True) (fun (u : Unit) (ra : Nat) (t : State) => ra = v ∧ wOut dC dI [(q0, .inr (3, [.int md, .ref q1, .int z])), (q1, .inl (cO, 10, .inr (.inr (.inr (.inr f)))))] [(cO, .object "java/lang/Object")] (va_A [(q0, .inr (3, [.int md, .ref q1, .int z])), (q1, .inl (cO, 10, .inr (.inr (.inr (.inr f)))))] sz) t) (va_A [(q0, .inr (3, [.int md, .ref q1, .int z])), (q1, .inl (cO, 10, .inr (.inr (.inr (.inr f)))))] sz)) 0 0 (va_A [(q0, .inr (3, [.int md, .ref q1, .int z])), (q1, .inl (cO, 10, .inr (.inr (.inr (.inr f)))))] sz) := by
  refine Met.ofW (cc := cJx4a65c_elementData_915e3) (maxL := 2) (ret := (some (.object "java/lang/Object"))) (by decide) rfl ?_
  intro p e s m args below meth c s₁ B hml hv
  obtain ⟨rfl, hsz, hP, hK, hD0, hG⟩ := hv
  have hx := B.exec
  have hb := B.bytes
  have hr := B.returns
  have hts := atoms_spec (ws := wsJx4a65c_elementData_915e3) B.pre
  have hown : s.vm.findClass RJx4a65c = some m.cls := findClass_of_methodNamed B.named
  have hlocks := B.notSynchronized
  subst hsz
  have hD := hD0.self (sz := s.heap.size)
  generalize hAe : va_A [(q0, .inr (3, [.int md, .ref q1, .int z])), (q1, .inl (cO, 10, .inr (.inr (.inr (.inr f)))))] s.heap.size = A at hD hG ⊢
  have hN := hG.1
  have hA : ∀ q : Nat, s.heap.size ≤ q → A q := fun q h => by rw [← hAe]; exact Or.inr h
  have hS : va_S A s.heap s.heap [] := va_S.rf
  have hP : va_P (dC, dI) vwCl [(q0, .inr (3, [.int md, .ref q1, .int z])), (q1, .inl (cO, 10, .inr (.inr (.inr (.inr f)))))] s.heap := hP
  have hw0 : (Cond.fieldLink RJx4a65c 9 "java/util/ArrayList" "elementData" "[Ljava/lang/Object;").before _ s = true := hts _ (List.mem_cons_of_mem _ (List.mem_append_left _ (List.mem_of_getElem? (i := 0) rfl)))
  have hiJx4a65c : ∀ w ∈ u_ws RJx4a65c TJx4a65c 3, w ∈ wsJx4a65c_elementData_915e3 := fun _ h => List.mem_cons_of_mem _ (List.mem_append_right _ (h))
  have hl := lv_entry ([.ref q0, .int 4]) (n := 2) (Nat.le_of_ble_eq_true rfl)
  rw [lg_entry_eq]
  generalize (lg_sl ([.ref q0, .int 4]) ++ List.replicate (2 - (lg_sl ([.ref q0, .int 4])).length) Slot.unset).toArray = ls at hl ⊢
  have hl : lv_has ls 2 [(0, .ref q0), (1, .int 4)] := hl
  refine lv_aload_n hx hb dJx4a65c_elementData_915e3_0 rfl (lv_at hl 0 rfl) ?_
  refine va_get (D := (dC, dI)) (ci := 3) (v := .ref q1) (C := RJx4a65c) (T := TJx4a65c) (N := 3) hx hb hts hiJx4a65c hown hK hP 0 rfl rfl 1 (by decide) (hw0) (fun _ h9 => h9) rfl dJx4a65c_elementData_915e3_1 ?_
  refine lv_iload_n hx hb dJx4a65c_elementData_915e3_4 rfl (lv_at hl 1 rfl) ?_
  refine va_aldq (D := (dC, dI)) (C := "java/lang/Object") hx hb hK hP 1 0 rfl rfl (by unfold vp_in; decide) dJx4a65c_elementData_915e3_5 ?_
  refine lt_v (y := .ref v) (congrArg va_rf hv) ?_
  have hP9 := hP.sub (ws' := [(q0, .inr (3, [.int md, .ref q1, .int z])), (q1, .inl (cO, 10, .inr (.inr (.inr (.inr f)))))]) [0, 1] rfl
  have hD9 := hD.sub (ws' := [(q0, .inr (3, [.int md, .ref q1, .int z])), (q1, .inl (cO, 10, .inr (.inr (.inr (.inr f)))))]) [0, 1] (by decide) rfl
  have hK9 := hK.sub (tys' := [(cO, .object "java/lang/Object")]) [0] rfl
  exact W.aret (v := .ref v) hx hb hr (Or.inl ⟨_, rfl⟩) (Or.inr ⟨_, rfl⟩) (fun t ht hW => ⟨⟨(), v, rfl, trivial, rfl, wOut_at ht hW hP9 hK9 hD9⟩, hS.F ht⟩) hS.2.2 dJx4a65c_elementData_915e3_6

set_option maxHeartbeats 4000000 in
set_option maxRecDepth 100000 in
theorem c_Jx4a65c_elementData_915e3_5 (l : Launch) (dC : Nat → ClassId) (dI : Nat → Nat → Nat) (g : Nat × Nat × Nat) (q0 : Nat) (q1 : Nat) (md : Int32) (z : Int32) (cO : ClassId) (f : Nat → Option Nat) (v : Nat) (sz : Nat) (hv : f 5 = some v) : Met l yJx4a65c_elementData_915e3 wsJx4a65c_elementData_915e3 ({ frames := 0, cells := 0, slots := 0, locals := 0 } : Room) (va_Pc [.ref q0, .int 5] (wIn dC dI g [(q0, .inr (3, [.int md, .ref q1, .int z])), (q1, .inl (cO, 10, .inr (.inr (.inr (.inr f)))))] [(cO, .object "java/lang/Object")] sz)) (va_Qr (fun (u : Unit) => True) (fun (u : Unit) (ra : Nat) (t : State) => ra = v ∧ wOut dC dI [(q0, .inr (3, [.int md, .ref q1, .int z])), (q1, .inl (cO, 10, .inr (.inr (.inr (.inr f)))))] [(cO, .object "java/lang/Object")] (va_A [(q0, .inr (3, [.int md, .ref q1, .int z])), (q1, .inl (cO, 10, .inr (.inr (.inr (.inr f)))))] sz) t) (va_A [(q0, .inr (3, [.int md, .ref q1, .int z])), (q1, .inl (cO, 10, .inr (.inr (.inr (.inr f)))))] sz)) 0 0 (va_A [(q0, .inr (3, [.int md, .ref q1, .int z])), (q1, .inl (cO, 10, .inr (.inr (.inr (.inr f)))))] sz) := by
  refine Met.ofW (cc := cJx4a65c_elementData_915e3) (maxL := 2) (ret := (some (.object "java/lang/Object"))) (by decide) rfl ?_
  intro p e s m args below meth c s₁ B hml hv
  obtain ⟨rfl, hsz, hP, hK, hD0, hG⟩ := hv
  have hx := B.exec
  have hb := B.bytes
  have hr := B.returns
  have hts := atoms_spec (ws := wsJx4a65c_elementData_915e3) B.pre
  have hown : s.vm.findClass RJx4a65c = some m.cls := findClass_of_methodNamed B.named
  have hlocks := B.notSynchronized
  subst hsz
  have hD := hD0.self (sz := s.heap.size)
  generalize hAe : va_A [(q0, .inr (3, [.int md, .ref q1, .int z])), (q1, .inl (cO, 10, .inr (.inr (.inr (.inr f)))))] s.heap.size = A at hD hG ⊢
  have hN := hG.1
  have hA : ∀ q : Nat, s.heap.size ≤ q → A q := fun q h => by rw [← hAe]; exact Or.inr h
  have hS : va_S A s.heap s.heap [] := va_S.rf
  have hP : va_P (dC, dI) vwCl [(q0, .inr (3, [.int md, .ref q1, .int z])), (q1, .inl (cO, 10, .inr (.inr (.inr (.inr f)))))] s.heap := hP
  have hw0 : (Cond.fieldLink RJx4a65c 9 "java/util/ArrayList" "elementData" "[Ljava/lang/Object;").before _ s = true := hts _ (List.mem_cons_of_mem _ (List.mem_append_left _ (List.mem_of_getElem? (i := 0) rfl)))
  have hiJx4a65c : ∀ w ∈ u_ws RJx4a65c TJx4a65c 3, w ∈ wsJx4a65c_elementData_915e3 := fun _ h => List.mem_cons_of_mem _ (List.mem_append_right _ (h))
  have hl := lv_entry ([.ref q0, .int 5]) (n := 2) (Nat.le_of_ble_eq_true rfl)
  rw [lg_entry_eq]
  generalize (lg_sl ([.ref q0, .int 5]) ++ List.replicate (2 - (lg_sl ([.ref q0, .int 5])).length) Slot.unset).toArray = ls at hl ⊢
  have hl : lv_has ls 2 [(0, .ref q0), (1, .int 5)] := hl
  refine lv_aload_n hx hb dJx4a65c_elementData_915e3_0 rfl (lv_at hl 0 rfl) ?_
  refine va_get (D := (dC, dI)) (ci := 3) (v := .ref q1) (C := RJx4a65c) (T := TJx4a65c) (N := 3) hx hb hts hiJx4a65c hown hK hP 0 rfl rfl 1 (by decide) (hw0) (fun _ h9 => h9) rfl dJx4a65c_elementData_915e3_1 ?_
  refine lv_iload_n hx hb dJx4a65c_elementData_915e3_4 rfl (lv_at hl 1 rfl) ?_
  refine va_aldq (D := (dC, dI)) (C := "java/lang/Object") hx hb hK hP 1 0 rfl rfl (by unfold vp_in; decide) dJx4a65c_elementData_915e3_5 ?_
  refine lt_v (y := .ref v) (congrArg va_rf hv) ?_
  have hP9 := hP.sub (ws' := [(q0, .inr (3, [.int md, .ref q1, .int z])), (q1, .inl (cO, 10, .inr (.inr (.inr (.inr f)))))]) [0, 1] rfl
  have hD9 := hD.sub (ws' := [(q0, .inr (3, [.int md, .ref q1, .int z])), (q1, .inl (cO, 10, .inr (.inr (.inr (.inr f)))))]) [0, 1] (by decide) rfl
  have hK9 := hK.sub (tys' := [(cO, .object "java/lang/Object")]) [0] rfl
  exact W.aret (v := .ref v) hx hb hr (Or.inl ⟨_, rfl⟩) (Or.inr ⟨_, rfl⟩) (fun t ht hW => ⟨⟨(), v, rfl, trivial, rfl, wOut_at ht hW hP9 hK9 hD9⟩, hS.F ht⟩) hS.2.2 dJx4a65c_elementData_915e3_6

set_option maxHeartbeats 4000000 in
set_option maxRecDepth 100000 in
theorem c_Jx4a65c_elementData_915e3_6 (l : Launch) (dC : Nat → ClassId) (dI : Nat → Nat → Nat) (g : Nat × Nat × Nat) (q0 : Nat) (q1 : Nat) (md : Int32) (z : Int32) (cO : ClassId) (f : Nat → Option Nat) (v : Nat) (sz : Nat) (hv : f 6 = some v) : Met l yJx4a65c_elementData_915e3 wsJx4a65c_elementData_915e3 ({ frames := 0, cells := 0, slots := 0, locals := 0 } : Room) (va_Pc [.ref q0, .int 6] (wIn dC dI g [(q0, .inr (3, [.int md, .ref q1, .int z])), (q1, .inl (cO, 10, .inr (.inr (.inr (.inr f)))))] [(cO, .object "java/lang/Object")] sz)) (va_Qr (fun (u : Unit) => True) (fun (u : Unit) (ra : Nat) (t : State) => ra = v ∧ wOut dC dI [(q0, .inr (3, [.int md, .ref q1, .int z])), (q1, .inl (cO, 10, .inr (.inr (.inr (.inr f)))))] [(cO, .object "java/lang/Object")] (va_A [(q0, .inr (3, [.int md, .ref q1, .int z])), (q1, .inl (cO, 10, .inr (.inr (.inr (.inr f)))))] sz) t) (va_A [(q0, .inr (3, [.int md, .ref q1, .int z])), (q1, .inl (cO, 10, .inr (.inr (.inr (.inr f)))))] sz)) 0 0 (va_A [(q0, .inr (3, [.int md, .ref q1, .int z])), (q1, .inl (cO, 10, .inr (.inr (.inr (.inr f)))))] sz) := by
  refine Met.ofW (cc := cJx4a65c_elementData_915e3) (maxL := 2) (ret := (some (.object "java/lang/Object"))) (by decide) rfl ?_
  intro p e s m args below meth c s₁ B hml hv
  obtain ⟨rfl, hsz, hP, hK, hD0, hG⟩ := hv
  have hx := B.exec
  have hb := B.bytes
  have hr := B.returns
  have hts := atoms_spec (ws := wsJx4a65c_elementData_915e3) B.pre
  have hown : s.vm.findClass RJx4a65c = some m.cls := findClass_of_methodNamed B.named
  have hlocks := B.notSynchronized
  subst hsz
  have hD := hD0.self (sz := s.heap.size)
  generalize hAe : va_A [(q0, .inr (3, [.int md, .ref q1, .int z])), (q1, .inl (cO, 10, .inr (.inr (.inr (.inr f)))))] s.heap.size = A at hD hG ⊢
  have hN := hG.1
  have hA : ∀ q : Nat, s.heap.size ≤ q → A q := fun q h => by rw [← hAe]; exact Or.inr h
  have hS : va_S A s.heap s.heap [] := va_S.rf
  have hP : va_P (dC, dI) vwCl [(q0, .inr (3, [.int md, .ref q1, .int z])), (q1, .inl (cO, 10, .inr (.inr (.inr (.inr f)))))] s.heap := hP
  have hw0 : (Cond.fieldLink RJx4a65c 9 "java/util/ArrayList" "elementData" "[Ljava/lang/Object;").before _ s = true := hts _ (List.mem_cons_of_mem _ (List.mem_append_left _ (List.mem_of_getElem? (i := 0) rfl)))
  have hiJx4a65c : ∀ w ∈ u_ws RJx4a65c TJx4a65c 3, w ∈ wsJx4a65c_elementData_915e3 := fun _ h => List.mem_cons_of_mem _ (List.mem_append_right _ (h))
  have hl := lv_entry ([.ref q0, .int 6]) (n := 2) (Nat.le_of_ble_eq_true rfl)
  rw [lg_entry_eq]
  generalize (lg_sl ([.ref q0, .int 6]) ++ List.replicate (2 - (lg_sl ([.ref q0, .int 6])).length) Slot.unset).toArray = ls at hl ⊢
  have hl : lv_has ls 2 [(0, .ref q0), (1, .int 6)] := hl
  refine lv_aload_n hx hb dJx4a65c_elementData_915e3_0 rfl (lv_at hl 0 rfl) ?_
  refine va_get (D := (dC, dI)) (ci := 3) (v := .ref q1) (C := RJx4a65c) (T := TJx4a65c) (N := 3) hx hb hts hiJx4a65c hown hK hP 0 rfl rfl 1 (by decide) (hw0) (fun _ h9 => h9) rfl dJx4a65c_elementData_915e3_1 ?_
  refine lv_iload_n hx hb dJx4a65c_elementData_915e3_4 rfl (lv_at hl 1 rfl) ?_
  refine va_aldq (D := (dC, dI)) (C := "java/lang/Object") hx hb hK hP 1 0 rfl rfl (by unfold vp_in; decide) dJx4a65c_elementData_915e3_5 ?_
  refine lt_v (y := .ref v) (congrArg va_rf hv) ?_
  have hP9 := hP.sub (ws' := [(q0, .inr (3, [.int md, .ref q1, .int z])), (q1, .inl (cO, 10, .inr (.inr (.inr (.inr f)))))]) [0, 1] rfl
  have hD9 := hD.sub (ws' := [(q0, .inr (3, [.int md, .ref q1, .int z])), (q1, .inl (cO, 10, .inr (.inr (.inr (.inr f)))))]) [0, 1] (by decide) rfl
  have hK9 := hK.sub (tys' := [(cO, .object "java/lang/Object")]) [0] rfl
  exact W.aret (v := .ref v) hx hb hr (Or.inl ⟨_, rfl⟩) (Or.inr ⟨_, rfl⟩) (fun t ht hW => ⟨⟨(), v, rfl, trivial, rfl, wOut_at ht hW hP9 hK9 hD9⟩, hS.F ht⟩) hS.2.2 dJx4a65c_elementData_915e3_6

set_option maxHeartbeats 4000000 in
set_option maxRecDepth 100000 in
theorem c_Jx4a65c_elementData_915e3_7 (l : Launch) (dC : Nat → ClassId) (dI : Nat → Nat → Nat) (g : Nat × Nat × Nat) (q0 : Nat) (q1 : Nat) (md : Int32) (z : Int32) (cO : ClassId) (f : Nat → Option Nat) (v : Nat) (sz : Nat) (hv : f 7 = some v) : Met l yJx4a65c_elementData_915e3 wsJx4a65c_elementData_915e3 ({ frames := 0, cells := 0, slots := 0, locals := 0 } : Room) (va_Pc [.ref q0, .int 7] (wIn dC dI g [(q0, .inr (3, [.int md, .ref q1, .int z])), (q1, .inl (cO, 10, .inr (.inr (.inr (.inr f)))))] [(cO, .object "java/lang/Object")] sz)) (va_Qr (fun (u : Unit) => True) (fun (u : Unit) (ra : Nat) (t : State) => ra = v ∧ wOut dC dI [(q0, .inr (3, [.int md, .ref q1, .int z])), (q1, .inl (cO, 10, .inr (.inr (.inr (.inr f)))))] [(cO, .object "java/lang/Object")] (va_A [(q0, .inr (3, [.int md, .ref q1, .int z])), (q1, .inl (cO, 10, .inr (.inr (.inr (.inr f)))))] sz) t) (va_A [(q0, .inr (3, [.int md, .ref q1, .int z])), (q1, .inl (cO, 10, .inr (.inr (.inr (.inr f)))))] sz)) 0 0 (va_A [(q0, .inr (3, [.int md, .ref q1, .int z])), (q1, .inl (cO, 10, .inr (.inr (.inr (.inr f)))))] sz) := by
  refine Met.ofW (cc := cJx4a65c_elementData_915e3) (maxL := 2) (ret := (some (.object "java/lang/Object"))) (by decide) rfl ?_
  intro p e s m args below meth c s₁ B hml hv
  obtain ⟨rfl, hsz, hP, hK, hD0, hG⟩ := hv
  have hx := B.exec
  have hb := B.bytes
  have hr := B.returns
  have hts := atoms_spec (ws := wsJx4a65c_elementData_915e3) B.pre
  have hown : s.vm.findClass RJx4a65c = some m.cls := findClass_of_methodNamed B.named
  have hlocks := B.notSynchronized
  subst hsz
  have hD := hD0.self (sz := s.heap.size)
  generalize hAe : va_A [(q0, .inr (3, [.int md, .ref q1, .int z])), (q1, .inl (cO, 10, .inr (.inr (.inr (.inr f)))))] s.heap.size = A at hD hG ⊢
  have hN := hG.1
  have hA : ∀ q : Nat, s.heap.size ≤ q → A q := fun q h => by rw [← hAe]; exact Or.inr h
  have hS : va_S A s.heap s.heap [] := va_S.rf
  have hP : va_P (dC, dI) vwCl [(q0, .inr (3, [.int md, .ref q1, .int z])), (q1, .inl (cO, 10, .inr (.inr (.inr (.inr f)))))] s.heap := hP
  have hw0 : (Cond.fieldLink RJx4a65c 9 "java/util/ArrayList" "elementData" "[Ljava/lang/Object;").before _ s = true := hts _ (List.mem_cons_of_mem _ (List.mem_append_left _ (List.mem_of_getElem? (i := 0) rfl)))
  have hiJx4a65c : ∀ w ∈ u_ws RJx4a65c TJx4a65c 3, w ∈ wsJx4a65c_elementData_915e3 := fun _ h => List.mem_cons_of_mem _ (List.mem_append_right _ (h))
  have hl := lv_entry ([.ref q0, .int 7]) (n := 2) (Nat.le_of_ble_eq_true rfl)
  rw [lg_entry_eq]
  generalize (lg_sl ([.ref q0, .int 7]) ++ List.replicate (2 - (lg_sl ([.ref q0, .int 7])).length) Slot.unset).toArray = ls at hl ⊢
  have hl : lv_has ls 2 [(0, .ref q0), (1, .int 7)] := hl
  refine lv_aload_n hx hb dJx4a65c_elementData_915e3_0 rfl (lv_at hl 0 rfl) ?_
  refine va_get (D := (dC, dI)) (ci := 3) (v := .ref q1) (C := RJx4a65c) (T := TJx4a65c) (N := 3) hx hb hts hiJx4a65c hown hK hP 0 rfl rfl 1 (by decide) (hw0) (fun _ h9 => h9) rfl dJx4a65c_elementData_915e3_1 ?_
  refine lv_iload_n hx hb dJx4a65c_elementData_915e3_4 rfl (lv_at hl 1 rfl) ?_
  refine va_aldq (D := (dC, dI)) (C := "java/lang/Object") hx hb hK hP 1 0 rfl rfl (by unfold vp_in; decide) dJx4a65c_elementData_915e3_5 ?_
  refine lt_v (y := .ref v) (congrArg va_rf hv) ?_
  have hP9 := hP.sub (ws' := [(q0, .inr (3, [.int md, .ref q1, .int z])), (q1, .inl (cO, 10, .inr (.inr (.inr (.inr f)))))]) [0, 1] rfl
  have hD9 := hD.sub (ws' := [(q0, .inr (3, [.int md, .ref q1, .int z])), (q1, .inl (cO, 10, .inr (.inr (.inr (.inr f)))))]) [0, 1] (by decide) rfl
  have hK9 := hK.sub (tys' := [(cO, .object "java/lang/Object")]) [0] rfl
  exact W.aret (v := .ref v) hx hb hr (Or.inl ⟨_, rfl⟩) (Or.inr ⟨_, rfl⟩) (fun t ht hW => ⟨⟨(), v, rfl, trivial, rfl, wOut_at ht hW hP9 hK9 hD9⟩, hS.F ht⟩) hS.2.2 dJx4a65c_elementData_915e3_6

set_option maxHeartbeats 4000000 in
set_option maxRecDepth 100000 in
theorem c_Jx4a65c_get_915e3_0_4 (l : Launch) (dC : Nat → ClassId) (dI : Nat → Nat → Nat) (g : Nat × Nat × Nat) (q0 : Nat) (q1 : Nat) (md : Int32) (cO : ClassId) (f : Nat → Option Nat) (v : Nat) (sz : Nat) (hv : f 0 = some v) : Met l yJx4a65c_get_915e3 wsJx4a65c_get_915e3 ({ frames := 2, cells := 0, slots := 0, locals := 43 } : Room) (va_Pc [.ref q0, .int 0] (wIn dC dI g [(q0, .inr (3, [.int md, .ref q1, .int 4])), (q1, .inl (cO, 10, .inr (.inr (.inr (.inr f)))))] [(cO, .object "java/lang/Object")] sz)) (va_Qr (fun (u : Unit) => True) (fun (u : Unit) (ra : Nat) (t : State) => ra = v ∧ wOut dC dI [(q0, .inr (3, [.int md, .ref q1, .int 4])), (q1, .inl (cO, 10, .inr (.inr (.inr (.inr f)))))] [(cO, .object "java/lang/Object")] (va_A [(q0, .inr (3, [.int md, .ref q1, .int 4])), (q1, .inl (cO, 10, .inr (.inr (.inr (.inr f)))))] sz) t) (va_A [(q0, .inr (3, [.int md, .ref q1, .int 4])), (q1, .inl (cO, 10, .inr (.inr (.inr (.inr f)))))] sz)) 0 0 (va_A [(q0, .inr (3, [.int md, .ref q1, .int 4])), (q1, .inl (cO, 10, .inr (.inr (.inr (.inr f)))))] sz) := by
  refine Met.ofW (cc := cJx4a65c_get_915e3) (maxL := 2) (ret := (some (.object "java/lang/Object"))) (by decide) rfl ?_
  intro p e s m args below meth c s₁ B hml hv
  obtain ⟨rfl, hsz, hP, hK, hD0, hG⟩ := hv
  have hx := B.exec
  have hb := B.bytes
  have hr := B.returns
  have hts := atoms_spec (ws := wsJx4a65c_get_915e3) B.pre
  have hown : s.vm.findClass RJx4a65c = some m.cls := findClass_of_methodNamed B.named
  have hlocks := B.notSynchronized
  subst hsz
  have hD := hD0.self (sz := s.heap.size)
  generalize hAe : va_A [(q0, .inr (3, [.int md, .ref q1, .int 4])), (q1, .inl (cO, 10, .inr (.inr (.inr (.inr f)))))] s.heap.size = A at hD hG ⊢
  have hN := hG.1
  have hA : ∀ q : Nat, s.heap.size ≤ q → A q := fun q h => by rw [← hAe]; exact Or.inr h
  have hS : va_S A s.heap s.heap [] := va_S.rf
  have hP : va_P (dC, dI) vwCl [(q0, .inr (3, [.int md, .ref q1, .int 4])), (q1, .inl (cO, 10, .inr (.inr (.inr (.inr f)))))] s.heap := hP
  have hw0 : (Cond.fieldLink RJx4a65c 48 "java/util/ArrayList" "size" "I").before _ s = true := hts _ (List.mem_cons_of_mem _ (List.mem_append_left _ (List.mem_of_getElem? (i := 0) rfl)))
  have hiJx4a65c : ∀ w ∈ u_ws RJx4a65c TJx4a65c 3, w ∈ wsJx4a65c_get_915e3 := fun _ h => List.mem_cons_of_mem _ (List.mem_append_right _ (h))
  have hl := lv_entry ([.ref q0, .int 0]) (n := 2) (Nat.le_of_ble_eq_true rfl)
  rw [lg_entry_eq]
  generalize (lg_sl ([.ref q0, .int 0]) ++ List.replicate (2 - (lg_sl ([.ref q0, .int 0])).length) Slot.unset).toArray = ls at hl ⊢
  have hl : lv_has ls 2 [(0, .ref q0), (1, .int 0)] := hl
  refine lv_iload_n hx hb dJx4a65c_get_915e3_0 rfl (lv_at hl 1 rfl) ?_
  refine lv_aload_n hx hb dJx4a65c_get_915e3_1 rfl (lv_at hl 0 rfl) ?_
  refine va_get (D := (dC, dI)) (ci := 3) (v := .int 4) (C := RJx4a65c) (T := TJx4a65c) (N := 3) hx hb hts hiJx4a65c hown hK hP 0 rfl rfl 2 (by decide) (hw0) (fun _ h9 => h9) rfl dJx4a65c_get_915e3_2 ?_
  have hPc := hP.sub (ws' := []) [] rfl
  have hDc := hD.sub (ws' := []) [] (by decide) rfl
  have hKc := hK.sub (tys' := []) [] rfl
  have hFc := va_free (wc := []) hD hS hA [] rfl
  refine va_calli (va_runS (As := [.int 0, .int 4]) (rest := []) ⟨hx, hb, hml, hown, hts⟩ (c_J15_checkIndex_7cf53 l dC dI g 0 4 s.heap.size (by decide) (by decide)) (va_cwS 2 hts gJx4a65c_get_915e3_J15_checkIndex_7cf53 rfl rfl rfl (by decide +kernel) ⟨Nat.le_of_ble_eq_true rfl, Nat.le_of_ble_eq_true rfl⟩) ⟨wIn_blind, wIn_at hPc hKc hDc hG hS hFc⟩ rfl rfl hl.1 rfl (lv_room (Nat.le_of_ble_eq_true rfl)) dJx4a65c_get_915e3_5 ⟨Nat.le_of_ble_eq_true rfl, Nat.le_of_ble_eq_true rfl⟩) hS (fun q _ h => hFc q h) hFc (fun r_1 u t H1 locs ht hvm hw hB hz1 hk1 hS => ?_)
  obtain ⟨hP1, hK1, hD1⟩ := hB
  rw [ht] at hP1
  obtain ⟨hP, hD⟩ := va_join (wr := [(q0, .inr (3, [.int md, .ref q1, .int 4])), (q1, .inl (cO, 10, .inr (.inr (.inr (.inr f)))))]) (w1 := []) hP hD [] [0, 1] rfl rfl (by decide) (by decide) hk1 hFc hP1 hD1
  generalize H1 = H at hP hS ⊢
  have hP : va_P (dC, dI) vwCl [(q0, .inr (3, [.int md, .ref q1, .int 4])), (q1, .inl (cO, 10, .inr (.inr (.inr (.inr f)))))] H := hP
  have hD : va_D A [(q0, .inr (3, [.int md, .ref q1, .int 4])), (q1, .inl (cO, 10, .inr (.inr (.inr (.inr f)))))] := hD
  refine lt_ci (y := 0) hw ?_
  refine lv_pop hx hb dJx4a65c_get_915e3_8 rfl ?_
  refine lv_aload_n hx hb dJx4a65c_get_915e3_9 rfl (lv_at hl 0 rfl) ?_
  refine lv_iload_n hx hb dJx4a65c_get_915e3_10 rfl (lv_at hl 1 rfl) ?_
  have hPc := hP.sub (ws' := [(q0, .inr (3, [.int md, .ref q1, .int 4])), (q1, .inl (cO, 10, .inr (.inr (.inr (.inr f)))))]) [0, 1] rfl
  have hDc := hD.sub (ws' := [(q0, .inr (3, [.int md, .ref q1, .int 4])), (q1, .inl (cO, 10, .inr (.inr (.inr (.inr f)))))]) [0, 1] (by decide) rfl
  have hKc := hK.sub (tys' := [(cO, .object "java/lang/Object")]) [0] rfl
  have hFc := va_free (wc := [(q0, .inr (3, [.int md, .ref q1, .int 4])), (q1, .inl (cO, 10, .inr (.inr (.inr (.inr f)))))]) hD hS hA [0, 1] rfl
  refine va_callr (va_runV (As := [.int 0]) (rest := []) ⟨hx, hb, hml, hown, hts⟩ (c_Jx4a65c_elementData_915e3_0 l dC dI g q0 q1 md 4 cO f v H.size hv) (cwV 1 hts gJx4a65c_get_915e3_Jx4a65c_elementData_915e3 rfl rfl rfl (by decide +kernel) ⟨Nat.le_of_ble_eq_true rfl, Nat.le_of_ble_eq_true rfl⟩) ⟨wIn_blind, va_recv hK hP (ci := 3) (q0 := 0) rfl rfl, wIn_at hPc hKc hDc hG hS hFc⟩ rfl rfl hl.1 rfl (lv_room (Nat.le_of_ble_eq_true rfl)) dJx4a65c_get_915e3_11 ⟨Nat.le_of_ble_eq_true rfl, Nat.le_of_ble_eq_true rfl⟩) hS (fun q _ h => hFc q h) hFc (fun u r_2 t H1 locs ht hvm hw hB hz1 hk1 hS => ?_)
  obtain ⟨hra, hP1, hK1, hD1⟩ := hB
  rw [ht] at hP1
  obtain ⟨hP, hD⟩ := va_join (wr := []) (w1 := [(q0, .inr (3, [.int md, .ref q1, .int 4])), (q1, .inl (cO, 10, .inr (.inr (.inr (.inr f)))))]) hP hD [0, 1] [] rfl rfl (by decide) (by decide) hk1 hFc hP1 hD1
  generalize H1 = H at hP hS ⊢
  have hP : va_P (dC, dI) vwCl [(q0, .inr (3, [.int md, .ref q1, .int 4])), (q1, .inl (cO, 10, .inr (.inr (.inr (.inr f)))))] H := hP
  have hD : va_D A [(q0, .inr (3, [.int md, .ref q1, .int 4])), (q1, .inl (cO, 10, .inr (.inr (.inr (.inr f)))))] := hD
  refine lt_v (y := .ref v) (congrArg Value.ref hra) ?_
  have hP9 := hP.sub (ws' := [(q0, .inr (3, [.int md, .ref q1, .int 4])), (q1, .inl (cO, 10, .inr (.inr (.inr (.inr f)))))]) [0, 1] rfl
  have hD9 := hD.sub (ws' := [(q0, .inr (3, [.int md, .ref q1, .int 4])), (q1, .inl (cO, 10, .inr (.inr (.inr (.inr f)))))]) [0, 1] (by decide) rfl
  have hK9 := hK.sub (tys' := [(cO, .object "java/lang/Object")]) [0] rfl
  exact W.aret (v := .ref v) hx hb hr (Or.inl ⟨_, rfl⟩) (Or.inr ⟨_, rfl⟩) (fun t ht hW => ⟨⟨(), v, rfl, trivial, rfl, wOut_at ht hW hP9 hK9 hD9⟩, hS.F ht⟩) hS.2.2 dJx4a65c_get_915e3_14

set_option maxHeartbeats 4000000 in
set_option maxRecDepth 100000 in
theorem c_Jx4a65c_get_915e3_1_4 (l : Launch) (dC : Nat → ClassId) (dI : Nat → Nat → Nat) (g : Nat × Nat × Nat) (q0 : Nat) (q1 : Nat) (md : Int32) (cO : ClassId) (f : Nat → Option Nat) (v : Nat) (sz : Nat) (hv : f 1 = some v) : Met l yJx4a65c_get_915e3 wsJx4a65c_get_915e3 ({ frames := 2, cells := 0, slots := 0, locals := 43 } : Room) (va_Pc [.ref q0, .int 1] (wIn dC dI g [(q0, .inr (3, [.int md, .ref q1, .int 4])), (q1, .inl (cO, 10, .inr (.inr (.inr (.inr f)))))] [(cO, .object "java/lang/Object")] sz)) (va_Qr (fun (u : Unit) => True) (fun (u : Unit) (ra : Nat) (t : State) => ra = v ∧ wOut dC dI [(q0, .inr (3, [.int md, .ref q1, .int 4])), (q1, .inl (cO, 10, .inr (.inr (.inr (.inr f)))))] [(cO, .object "java/lang/Object")] (va_A [(q0, .inr (3, [.int md, .ref q1, .int 4])), (q1, .inl (cO, 10, .inr (.inr (.inr (.inr f)))))] sz) t) (va_A [(q0, .inr (3, [.int md, .ref q1, .int 4])), (q1, .inl (cO, 10, .inr (.inr (.inr (.inr f)))))] sz)) 0 0 (va_A [(q0, .inr (3, [.int md, .ref q1, .int 4])), (q1, .inl (cO, 10, .inr (.inr (.inr (.inr f)))))] sz) := by
  refine Met.ofW (cc := cJx4a65c_get_915e3) (maxL := 2) (ret := (some (.object "java/lang/Object"))) (by decide) rfl ?_
  intro p e s m args below meth c s₁ B hml hv
  obtain ⟨rfl, hsz, hP, hK, hD0, hG⟩ := hv
  have hx := B.exec
  have hb := B.bytes
  have hr := B.returns
  have hts := atoms_spec (ws := wsJx4a65c_get_915e3) B.pre
  have hown : s.vm.findClass RJx4a65c = some m.cls := findClass_of_methodNamed B.named
  have hlocks := B.notSynchronized
  subst hsz
  have hD := hD0.self (sz := s.heap.size)
  generalize hAe : va_A [(q0, .inr (3, [.int md, .ref q1, .int 4])), (q1, .inl (cO, 10, .inr (.inr (.inr (.inr f)))))] s.heap.size = A at hD hG ⊢
  have hN := hG.1
  have hA : ∀ q : Nat, s.heap.size ≤ q → A q := fun q h => by rw [← hAe]; exact Or.inr h
  have hS : va_S A s.heap s.heap [] := va_S.rf
  have hP : va_P (dC, dI) vwCl [(q0, .inr (3, [.int md, .ref q1, .int 4])), (q1, .inl (cO, 10, .inr (.inr (.inr (.inr f)))))] s.heap := hP
  have hw0 : (Cond.fieldLink RJx4a65c 48 "java/util/ArrayList" "size" "I").before _ s = true := hts _ (List.mem_cons_of_mem _ (List.mem_append_left _ (List.mem_of_getElem? (i := 0) rfl)))
  have hiJx4a65c : ∀ w ∈ u_ws RJx4a65c TJx4a65c 3, w ∈ wsJx4a65c_get_915e3 := fun _ h => List.mem_cons_of_mem _ (List.mem_append_right _ (h))
  have hl := lv_entry ([.ref q0, .int 1]) (n := 2) (Nat.le_of_ble_eq_true rfl)
  rw [lg_entry_eq]
  generalize (lg_sl ([.ref q0, .int 1]) ++ List.replicate (2 - (lg_sl ([.ref q0, .int 1])).length) Slot.unset).toArray = ls at hl ⊢
  have hl : lv_has ls 2 [(0, .ref q0), (1, .int 1)] := hl
  refine lv_iload_n hx hb dJx4a65c_get_915e3_0 rfl (lv_at hl 1 rfl) ?_
  refine lv_aload_n hx hb dJx4a65c_get_915e3_1 rfl (lv_at hl 0 rfl) ?_
  refine va_get (D := (dC, dI)) (ci := 3) (v := .int 4) (C := RJx4a65c) (T := TJx4a65c) (N := 3) hx hb hts hiJx4a65c hown hK hP 0 rfl rfl 2 (by decide) (hw0) (fun _ h9 => h9) rfl dJx4a65c_get_915e3_2 ?_
  have hPc := hP.sub (ws' := []) [] rfl
  have hDc := hD.sub (ws' := []) [] (by decide) rfl
  have hKc := hK.sub (tys' := []) [] rfl
  have hFc := va_free (wc := []) hD hS hA [] rfl
  refine va_calli (va_runS (As := [.int 1, .int 4]) (rest := []) ⟨hx, hb, hml, hown, hts⟩ (c_J15_checkIndex_7cf53 l dC dI g 1 4 s.heap.size (by decide) (by decide)) (va_cwS 2 hts gJx4a65c_get_915e3_J15_checkIndex_7cf53 rfl rfl rfl (by decide +kernel) ⟨Nat.le_of_ble_eq_true rfl, Nat.le_of_ble_eq_true rfl⟩) ⟨wIn_blind, wIn_at hPc hKc hDc hG hS hFc⟩ rfl rfl hl.1 rfl (lv_room (Nat.le_of_ble_eq_true rfl)) dJx4a65c_get_915e3_5 ⟨Nat.le_of_ble_eq_true rfl, Nat.le_of_ble_eq_true rfl⟩) hS (fun q _ h => hFc q h) hFc (fun r_1 u t H1 locs ht hvm hw hB hz1 hk1 hS => ?_)
  obtain ⟨hP1, hK1, hD1⟩ := hB
  rw [ht] at hP1
  obtain ⟨hP, hD⟩ := va_join (wr := [(q0, .inr (3, [.int md, .ref q1, .int 4])), (q1, .inl (cO, 10, .inr (.inr (.inr (.inr f)))))]) (w1 := []) hP hD [] [0, 1] rfl rfl (by decide) (by decide) hk1 hFc hP1 hD1
  generalize H1 = H at hP hS ⊢
  have hP : va_P (dC, dI) vwCl [(q0, .inr (3, [.int md, .ref q1, .int 4])), (q1, .inl (cO, 10, .inr (.inr (.inr (.inr f)))))] H := hP
  have hD : va_D A [(q0, .inr (3, [.int md, .ref q1, .int 4])), (q1, .inl (cO, 10, .inr (.inr (.inr (.inr f)))))] := hD
  refine lt_ci (y := 1) hw ?_
  refine lv_pop hx hb dJx4a65c_get_915e3_8 rfl ?_
  refine lv_aload_n hx hb dJx4a65c_get_915e3_9 rfl (lv_at hl 0 rfl) ?_
  refine lv_iload_n hx hb dJx4a65c_get_915e3_10 rfl (lv_at hl 1 rfl) ?_
  have hPc := hP.sub (ws' := [(q0, .inr (3, [.int md, .ref q1, .int 4])), (q1, .inl (cO, 10, .inr (.inr (.inr (.inr f)))))]) [0, 1] rfl
  have hDc := hD.sub (ws' := [(q0, .inr (3, [.int md, .ref q1, .int 4])), (q1, .inl (cO, 10, .inr (.inr (.inr (.inr f)))))]) [0, 1] (by decide) rfl
  have hKc := hK.sub (tys' := [(cO, .object "java/lang/Object")]) [0] rfl
  have hFc := va_free (wc := [(q0, .inr (3, [.int md, .ref q1, .int 4])), (q1, .inl (cO, 10, .inr (.inr (.inr (.inr f)))))]) hD hS hA [0, 1] rfl
  refine va_callr (va_runV (As := [.int 1]) (rest := []) ⟨hx, hb, hml, hown, hts⟩ (c_Jx4a65c_elementData_915e3_1 l dC dI g q0 q1 md 4 cO f v H.size hv) (cwV 1 hts gJx4a65c_get_915e3_Jx4a65c_elementData_915e3 rfl rfl rfl (by decide +kernel) ⟨Nat.le_of_ble_eq_true rfl, Nat.le_of_ble_eq_true rfl⟩) ⟨wIn_blind, va_recv hK hP (ci := 3) (q0 := 0) rfl rfl, wIn_at hPc hKc hDc hG hS hFc⟩ rfl rfl hl.1 rfl (lv_room (Nat.le_of_ble_eq_true rfl)) dJx4a65c_get_915e3_11 ⟨Nat.le_of_ble_eq_true rfl, Nat.le_of_ble_eq_true rfl⟩) hS (fun q _ h => hFc q h) hFc (fun u r_2 t H1 locs ht hvm hw hB hz1 hk1 hS => ?_)
  obtain ⟨hra, hP1, hK1, hD1⟩ := hB
  rw [ht] at hP1
  obtain ⟨hP, hD⟩ := va_join (wr := []) (w1 := [(q0, .inr (3, [.int md, .ref q1, .int 4])), (q1, .inl (cO, 10, .inr (.inr (.inr (.inr f)))))]) hP hD [0, 1] [] rfl rfl (by decide) (by decide) hk1 hFc hP1 hD1
  generalize H1 = H at hP hS ⊢
  have hP : va_P (dC, dI) vwCl [(q0, .inr (3, [.int md, .ref q1, .int 4])), (q1, .inl (cO, 10, .inr (.inr (.inr (.inr f)))))] H := hP
  have hD : va_D A [(q0, .inr (3, [.int md, .ref q1, .int 4])), (q1, .inl (cO, 10, .inr (.inr (.inr (.inr f)))))] := hD
  refine lt_v (y := .ref v) (congrArg Value.ref hra) ?_
  have hP9 := hP.sub (ws' := [(q0, .inr (3, [.int md, .ref q1, .int 4])), (q1, .inl (cO, 10, .inr (.inr (.inr (.inr f)))))]) [0, 1] rfl
  have hD9 := hD.sub (ws' := [(q0, .inr (3, [.int md, .ref q1, .int 4])), (q1, .inl (cO, 10, .inr (.inr (.inr (.inr f)))))]) [0, 1] (by decide) rfl
  have hK9 := hK.sub (tys' := [(cO, .object "java/lang/Object")]) [0] rfl
  exact W.aret (v := .ref v) hx hb hr (Or.inl ⟨_, rfl⟩) (Or.inr ⟨_, rfl⟩) (fun t ht hW => ⟨⟨(), v, rfl, trivial, rfl, wOut_at ht hW hP9 hK9 hD9⟩, hS.F ht⟩) hS.2.2 dJx4a65c_get_915e3_14

set_option maxHeartbeats 4000000 in
set_option maxRecDepth 100000 in
theorem c_Jx4a65c_get_915e3_2_4 (l : Launch) (dC : Nat → ClassId) (dI : Nat → Nat → Nat) (g : Nat × Nat × Nat) (q0 : Nat) (q1 : Nat) (md : Int32) (cO : ClassId) (f : Nat → Option Nat) (v : Nat) (sz : Nat) (hv : f 2 = some v) : Met l yJx4a65c_get_915e3 wsJx4a65c_get_915e3 ({ frames := 2, cells := 0, slots := 0, locals := 43 } : Room) (va_Pc [.ref q0, .int 2] (wIn dC dI g [(q0, .inr (3, [.int md, .ref q1, .int 4])), (q1, .inl (cO, 10, .inr (.inr (.inr (.inr f)))))] [(cO, .object "java/lang/Object")] sz)) (va_Qr (fun (u : Unit) => True) (fun (u : Unit) (ra : Nat) (t : State) => ra = v ∧ wOut dC dI [(q0, .inr (3, [.int md, .ref q1, .int 4])), (q1, .inl (cO, 10, .inr (.inr (.inr (.inr f)))))] [(cO, .object "java/lang/Object")] (va_A [(q0, .inr (3, [.int md, .ref q1, .int 4])), (q1, .inl (cO, 10, .inr (.inr (.inr (.inr f)))))] sz) t) (va_A [(q0, .inr (3, [.int md, .ref q1, .int 4])), (q1, .inl (cO, 10, .inr (.inr (.inr (.inr f)))))] sz)) 0 0 (va_A [(q0, .inr (3, [.int md, .ref q1, .int 4])), (q1, .inl (cO, 10, .inr (.inr (.inr (.inr f)))))] sz) := by
  refine Met.ofW (cc := cJx4a65c_get_915e3) (maxL := 2) (ret := (some (.object "java/lang/Object"))) (by decide) rfl ?_
  intro p e s m args below meth c s₁ B hml hv
  obtain ⟨rfl, hsz, hP, hK, hD0, hG⟩ := hv
  have hx := B.exec
  have hb := B.bytes
  have hr := B.returns
  have hts := atoms_spec (ws := wsJx4a65c_get_915e3) B.pre
  have hown : s.vm.findClass RJx4a65c = some m.cls := findClass_of_methodNamed B.named
  have hlocks := B.notSynchronized
  subst hsz
  have hD := hD0.self (sz := s.heap.size)
  generalize hAe : va_A [(q0, .inr (3, [.int md, .ref q1, .int 4])), (q1, .inl (cO, 10, .inr (.inr (.inr (.inr f)))))] s.heap.size = A at hD hG ⊢
  have hN := hG.1
  have hA : ∀ q : Nat, s.heap.size ≤ q → A q := fun q h => by rw [← hAe]; exact Or.inr h
  have hS : va_S A s.heap s.heap [] := va_S.rf
  have hP : va_P (dC, dI) vwCl [(q0, .inr (3, [.int md, .ref q1, .int 4])), (q1, .inl (cO, 10, .inr (.inr (.inr (.inr f)))))] s.heap := hP
  have hw0 : (Cond.fieldLink RJx4a65c 48 "java/util/ArrayList" "size" "I").before _ s = true := hts _ (List.mem_cons_of_mem _ (List.mem_append_left _ (List.mem_of_getElem? (i := 0) rfl)))
  have hiJx4a65c : ∀ w ∈ u_ws RJx4a65c TJx4a65c 3, w ∈ wsJx4a65c_get_915e3 := fun _ h => List.mem_cons_of_mem _ (List.mem_append_right _ (h))
  have hl := lv_entry ([.ref q0, .int 2]) (n := 2) (Nat.le_of_ble_eq_true rfl)
  rw [lg_entry_eq]
  generalize (lg_sl ([.ref q0, .int 2]) ++ List.replicate (2 - (lg_sl ([.ref q0, .int 2])).length) Slot.unset).toArray = ls at hl ⊢
  have hl : lv_has ls 2 [(0, .ref q0), (1, .int 2)] := hl
  refine lv_iload_n hx hb dJx4a65c_get_915e3_0 rfl (lv_at hl 1 rfl) ?_
  refine lv_aload_n hx hb dJx4a65c_get_915e3_1 rfl (lv_at hl 0 rfl) ?_
  refine va_get (D := (dC, dI)) (ci := 3) (v := .int 4) (C := RJx4a65c) (T := TJx4a65c) (N := 3) hx hb hts hiJx4a65c hown hK hP 0 rfl rfl 2 (by decide) (hw0) (fun _ h9 => h9) rfl dJx4a65c_get_915e3_2 ?_
  have hPc := hP.sub (ws' := []) [] rfl
  have hDc := hD.sub (ws' := []) [] (by decide) rfl
  have hKc := hK.sub (tys' := []) [] rfl
  have hFc := va_free (wc := []) hD hS hA [] rfl
  refine va_calli (va_runS (As := [.int 2, .int 4]) (rest := []) ⟨hx, hb, hml, hown, hts⟩ (c_J15_checkIndex_7cf53 l dC dI g 2 4 s.heap.size (by decide) (by decide)) (va_cwS 2 hts gJx4a65c_get_915e3_J15_checkIndex_7cf53 rfl rfl rfl (by decide +kernel) ⟨Nat.le_of_ble_eq_true rfl, Nat.le_of_ble_eq_true rfl⟩) ⟨wIn_blind, wIn_at hPc hKc hDc hG hS hFc⟩ rfl rfl hl.1 rfl (lv_room (Nat.le_of_ble_eq_true rfl)) dJx4a65c_get_915e3_5 ⟨Nat.le_of_ble_eq_true rfl, Nat.le_of_ble_eq_true rfl⟩) hS (fun q _ h => hFc q h) hFc (fun r_1 u t H1 locs ht hvm hw hB hz1 hk1 hS => ?_)
  obtain ⟨hP1, hK1, hD1⟩ := hB
  rw [ht] at hP1
  obtain ⟨hP, hD⟩ := va_join (wr := [(q0, .inr (3, [.int md, .ref q1, .int 4])), (q1, .inl (cO, 10, .inr (.inr (.inr (.inr f)))))]) (w1 := []) hP hD [] [0, 1] rfl rfl (by decide) (by decide) hk1 hFc hP1 hD1
  generalize H1 = H at hP hS ⊢
  have hP : va_P (dC, dI) vwCl [(q0, .inr (3, [.int md, .ref q1, .int 4])), (q1, .inl (cO, 10, .inr (.inr (.inr (.inr f)))))] H := hP
  have hD : va_D A [(q0, .inr (3, [.int md, .ref q1, .int 4])), (q1, .inl (cO, 10, .inr (.inr (.inr (.inr f)))))] := hD
  refine lt_ci (y := 2) hw ?_
  refine lv_pop hx hb dJx4a65c_get_915e3_8 rfl ?_
  refine lv_aload_n hx hb dJx4a65c_get_915e3_9 rfl (lv_at hl 0 rfl) ?_
  refine lv_iload_n hx hb dJx4a65c_get_915e3_10 rfl (lv_at hl 1 rfl) ?_
  have hPc := hP.sub (ws' := [(q0, .inr (3, [.int md, .ref q1, .int 4])), (q1, .inl (cO, 10, .inr (.inr (.inr (.inr f)))))]) [0, 1] rfl
  have hDc := hD.sub (ws' := [(q0, .inr (3, [.int md, .ref q1, .int 4])), (q1, .inl (cO, 10, .inr (.inr (.inr (.inr f)))))]) [0, 1] (by decide) rfl
  have hKc := hK.sub (tys' := [(cO, .object "java/lang/Object")]) [0] rfl
  have hFc := va_free (wc := [(q0, .inr (3, [.int md, .ref q1, .int 4])), (q1, .inl (cO, 10, .inr (.inr (.inr (.inr f)))))]) hD hS hA [0, 1] rfl
  refine va_callr (va_runV (As := [.int 2]) (rest := []) ⟨hx, hb, hml, hown, hts⟩ (c_Jx4a65c_elementData_915e3_2 l dC dI g q0 q1 md 4 cO f v H.size hv) (cwV 1 hts gJx4a65c_get_915e3_Jx4a65c_elementData_915e3 rfl rfl rfl (by decide +kernel) ⟨Nat.le_of_ble_eq_true rfl, Nat.le_of_ble_eq_true rfl⟩) ⟨wIn_blind, va_recv hK hP (ci := 3) (q0 := 0) rfl rfl, wIn_at hPc hKc hDc hG hS hFc⟩ rfl rfl hl.1 rfl (lv_room (Nat.le_of_ble_eq_true rfl)) dJx4a65c_get_915e3_11 ⟨Nat.le_of_ble_eq_true rfl, Nat.le_of_ble_eq_true rfl⟩) hS (fun q _ h => hFc q h) hFc (fun u r_2 t H1 locs ht hvm hw hB hz1 hk1 hS => ?_)
  obtain ⟨hra, hP1, hK1, hD1⟩ := hB
  rw [ht] at hP1
  obtain ⟨hP, hD⟩ := va_join (wr := []) (w1 := [(q0, .inr (3, [.int md, .ref q1, .int 4])), (q1, .inl (cO, 10, .inr (.inr (.inr (.inr f)))))]) hP hD [0, 1] [] rfl rfl (by decide) (by decide) hk1 hFc hP1 hD1
  generalize H1 = H at hP hS ⊢
  have hP : va_P (dC, dI) vwCl [(q0, .inr (3, [.int md, .ref q1, .int 4])), (q1, .inl (cO, 10, .inr (.inr (.inr (.inr f)))))] H := hP
  have hD : va_D A [(q0, .inr (3, [.int md, .ref q1, .int 4])), (q1, .inl (cO, 10, .inr (.inr (.inr (.inr f)))))] := hD
  refine lt_v (y := .ref v) (congrArg Value.ref hra) ?_
  have hP9 := hP.sub (ws' := [(q0, .inr (3, [.int md, .ref q1, .int 4])), (q1, .inl (cO, 10, .inr (.inr (.inr (.inr f)))))]) [0, 1] rfl
  have hD9 := hD.sub (ws' := [(q0, .inr (3, [.int md, .ref q1, .int 4])), (q1, .inl (cO, 10, .inr (.inr (.inr (.inr f)))))]) [0, 1] (by decide) rfl
  have hK9 := hK.sub (tys' := [(cO, .object "java/lang/Object")]) [0] rfl
  exact W.aret (v := .ref v) hx hb hr (Or.inl ⟨_, rfl⟩) (Or.inr ⟨_, rfl⟩) (fun t ht hW => ⟨⟨(), v, rfl, trivial, rfl, wOut_at ht hW hP9 hK9 hD9⟩, hS.F ht⟩) hS.2.2 dJx4a65c_get_915e3_14

set_option maxHeartbeats 4000000 in
set_option maxRecDepth 100000 in
theorem c_Jx4a65c_get_915e3_3_4 (l : Launch) (dC : Nat → ClassId) (dI : Nat → Nat → Nat) (g : Nat × Nat × Nat) (q0 : Nat) (q1 : Nat) (md : Int32) (cO : ClassId) (f : Nat → Option Nat) (v : Nat) (sz : Nat) (hv : f 3 = some v) : Met l yJx4a65c_get_915e3 wsJx4a65c_get_915e3 ({ frames := 2, cells := 0, slots := 0, locals := 43 } : Room) (va_Pc [.ref q0, .int 3] (wIn dC dI g [(q0, .inr (3, [.int md, .ref q1, .int 4])), (q1, .inl (cO, 10, .inr (.inr (.inr (.inr f)))))] [(cO, .object "java/lang/Object")] sz)) (va_Qr (fun (u : Unit) => True) (fun (u : Unit) (ra : Nat) (t : State) => ra = v ∧ wOut dC dI [(q0, .inr (3, [.int md, .ref q1, .int 4])), (q1, .inl (cO, 10, .inr (.inr (.inr (.inr f)))))] [(cO, .object "java/lang/Object")] (va_A [(q0, .inr (3, [.int md, .ref q1, .int 4])), (q1, .inl (cO, 10, .inr (.inr (.inr (.inr f)))))] sz) t) (va_A [(q0, .inr (3, [.int md, .ref q1, .int 4])), (q1, .inl (cO, 10, .inr (.inr (.inr (.inr f)))))] sz)) 0 0 (va_A [(q0, .inr (3, [.int md, .ref q1, .int 4])), (q1, .inl (cO, 10, .inr (.inr (.inr (.inr f)))))] sz) := by
  refine Met.ofW (cc := cJx4a65c_get_915e3) (maxL := 2) (ret := (some (.object "java/lang/Object"))) (by decide) rfl ?_
  intro p e s m args below meth c s₁ B hml hv
  obtain ⟨rfl, hsz, hP, hK, hD0, hG⟩ := hv
  have hx := B.exec
  have hb := B.bytes
  have hr := B.returns
  have hts := atoms_spec (ws := wsJx4a65c_get_915e3) B.pre
  have hown : s.vm.findClass RJx4a65c = some m.cls := findClass_of_methodNamed B.named
  have hlocks := B.notSynchronized
  subst hsz
  have hD := hD0.self (sz := s.heap.size)
  generalize hAe : va_A [(q0, .inr (3, [.int md, .ref q1, .int 4])), (q1, .inl (cO, 10, .inr (.inr (.inr (.inr f)))))] s.heap.size = A at hD hG ⊢
  have hN := hG.1
  have hA : ∀ q : Nat, s.heap.size ≤ q → A q := fun q h => by rw [← hAe]; exact Or.inr h
  have hS : va_S A s.heap s.heap [] := va_S.rf
  have hP : va_P (dC, dI) vwCl [(q0, .inr (3, [.int md, .ref q1, .int 4])), (q1, .inl (cO, 10, .inr (.inr (.inr (.inr f)))))] s.heap := hP
  have hw0 : (Cond.fieldLink RJx4a65c 48 "java/util/ArrayList" "size" "I").before _ s = true := hts _ (List.mem_cons_of_mem _ (List.mem_append_left _ (List.mem_of_getElem? (i := 0) rfl)))
  have hiJx4a65c : ∀ w ∈ u_ws RJx4a65c TJx4a65c 3, w ∈ wsJx4a65c_get_915e3 := fun _ h => List.mem_cons_of_mem _ (List.mem_append_right _ (h))
  have hl := lv_entry ([.ref q0, .int 3]) (n := 2) (Nat.le_of_ble_eq_true rfl)
  rw [lg_entry_eq]
  generalize (lg_sl ([.ref q0, .int 3]) ++ List.replicate (2 - (lg_sl ([.ref q0, .int 3])).length) Slot.unset).toArray = ls at hl ⊢
  have hl : lv_has ls 2 [(0, .ref q0), (1, .int 3)] := hl
  refine lv_iload_n hx hb dJx4a65c_get_915e3_0 rfl (lv_at hl 1 rfl) ?_
  refine lv_aload_n hx hb dJx4a65c_get_915e3_1 rfl (lv_at hl 0 rfl) ?_
  refine va_get (D := (dC, dI)) (ci := 3) (v := .int 4) (C := RJx4a65c) (T := TJx4a65c) (N := 3) hx hb hts hiJx4a65c hown hK hP 0 rfl rfl 2 (by decide) (hw0) (fun _ h9 => h9) rfl dJx4a65c_get_915e3_2 ?_
  have hPc := hP.sub (ws' := []) [] rfl
  have hDc := hD.sub (ws' := []) [] (by decide) rfl
  have hKc := hK.sub (tys' := []) [] rfl
  have hFc := va_free (wc := []) hD hS hA [] rfl
  refine va_calli (va_runS (As := [.int 3, .int 4]) (rest := []) ⟨hx, hb, hml, hown, hts⟩ (c_J15_checkIndex_7cf53 l dC dI g 3 4 s.heap.size (by decide) (by decide)) (va_cwS 2 hts gJx4a65c_get_915e3_J15_checkIndex_7cf53 rfl rfl rfl (by decide +kernel) ⟨Nat.le_of_ble_eq_true rfl, Nat.le_of_ble_eq_true rfl⟩) ⟨wIn_blind, wIn_at hPc hKc hDc hG hS hFc⟩ rfl rfl hl.1 rfl (lv_room (Nat.le_of_ble_eq_true rfl)) dJx4a65c_get_915e3_5 ⟨Nat.le_of_ble_eq_true rfl, Nat.le_of_ble_eq_true rfl⟩) hS (fun q _ h => hFc q h) hFc (fun r_1 u t H1 locs ht hvm hw hB hz1 hk1 hS => ?_)
  obtain ⟨hP1, hK1, hD1⟩ := hB
  rw [ht] at hP1
  obtain ⟨hP, hD⟩ := va_join (wr := [(q0, .inr (3, [.int md, .ref q1, .int 4])), (q1, .inl (cO, 10, .inr (.inr (.inr (.inr f)))))]) (w1 := []) hP hD [] [0, 1] rfl rfl (by decide) (by decide) hk1 hFc hP1 hD1
  generalize H1 = H at hP hS ⊢
  have hP : va_P (dC, dI) vwCl [(q0, .inr (3, [.int md, .ref q1, .int 4])), (q1, .inl (cO, 10, .inr (.inr (.inr (.inr f)))))] H := hP
  have hD : va_D A [(q0, .inr (3, [.int md, .ref q1, .int 4])), (q1, .inl (cO, 10, .inr (.inr (.inr (.inr f)))))] := hD
  refine lt_ci (y := 3) hw ?_
  refine lv_pop hx hb dJx4a65c_get_915e3_8 rfl ?_
  refine lv_aload_n hx hb dJx4a65c_get_915e3_9 rfl (lv_at hl 0 rfl) ?_
  refine lv_iload_n hx hb dJx4a65c_get_915e3_10 rfl (lv_at hl 1 rfl) ?_
  have hPc := hP.sub (ws' := [(q0, .inr (3, [.int md, .ref q1, .int 4])), (q1, .inl (cO, 10, .inr (.inr (.inr (.inr f)))))]) [0, 1] rfl
  have hDc := hD.sub (ws' := [(q0, .inr (3, [.int md, .ref q1, .int 4])), (q1, .inl (cO, 10, .inr (.inr (.inr (.inr f)))))]) [0, 1] (by decide) rfl
  have hKc := hK.sub (tys' := [(cO, .object "java/lang/Object")]) [0] rfl
  have hFc := va_free (wc := [(q0, .inr (3, [.int md, .ref q1, .int 4])), (q1, .inl (cO, 10, .inr (.inr (.inr (.inr f)))))]) hD hS hA [0, 1] rfl
  refine va_callr (va_runV (As := [.int 3]) (rest := []) ⟨hx, hb, hml, hown, hts⟩ (c_Jx4a65c_elementData_915e3_3 l dC dI g q0 q1 md 4 cO f v H.size hv) (cwV 1 hts gJx4a65c_get_915e3_Jx4a65c_elementData_915e3 rfl rfl rfl (by decide +kernel) ⟨Nat.le_of_ble_eq_true rfl, Nat.le_of_ble_eq_true rfl⟩) ⟨wIn_blind, va_recv hK hP (ci := 3) (q0 := 0) rfl rfl, wIn_at hPc hKc hDc hG hS hFc⟩ rfl rfl hl.1 rfl (lv_room (Nat.le_of_ble_eq_true rfl)) dJx4a65c_get_915e3_11 ⟨Nat.le_of_ble_eq_true rfl, Nat.le_of_ble_eq_true rfl⟩) hS (fun q _ h => hFc q h) hFc (fun u r_2 t H1 locs ht hvm hw hB hz1 hk1 hS => ?_)
  obtain ⟨hra, hP1, hK1, hD1⟩ := hB
  rw [ht] at hP1
  obtain ⟨hP, hD⟩ := va_join (wr := []) (w1 := [(q0, .inr (3, [.int md, .ref q1, .int 4])), (q1, .inl (cO, 10, .inr (.inr (.inr (.inr f)))))]) hP hD [0, 1] [] rfl rfl (by decide) (by decide) hk1 hFc hP1 hD1
  generalize H1 = H at hP hS ⊢
  have hP : va_P (dC, dI) vwCl [(q0, .inr (3, [.int md, .ref q1, .int 4])), (q1, .inl (cO, 10, .inr (.inr (.inr (.inr f)))))] H := hP
  have hD : va_D A [(q0, .inr (3, [.int md, .ref q1, .int 4])), (q1, .inl (cO, 10, .inr (.inr (.inr (.inr f)))))] := hD
  refine lt_v (y := .ref v) (congrArg Value.ref hra) ?_
  have hP9 := hP.sub (ws' := [(q0, .inr (3, [.int md, .ref q1, .int 4])), (q1, .inl (cO, 10, .inr (.inr (.inr (.inr f)))))]) [0, 1] rfl
  have hD9 := hD.sub (ws' := [(q0, .inr (3, [.int md, .ref q1, .int 4])), (q1, .inl (cO, 10, .inr (.inr (.inr (.inr f)))))]) [0, 1] (by decide) rfl
  have hK9 := hK.sub (tys' := [(cO, .object "java/lang/Object")]) [0] rfl
  exact W.aret (v := .ref v) hx hb hr (Or.inl ⟨_, rfl⟩) (Or.inr ⟨_, rfl⟩) (fun t ht hW => ⟨⟨(), v, rfl, trivial, rfl, wOut_at ht hW hP9 hK9 hD9⟩, hS.F ht⟩) hS.2.2 dJx4a65c_get_915e3_14

set_option maxHeartbeats 4000000 in
set_option maxRecDepth 100000 in
theorem c_Jx4a65c_get_915e3_0_8 (l : Launch) (dC : Nat → ClassId) (dI : Nat → Nat → Nat) (g : Nat × Nat × Nat) (q0 : Nat) (q1 : Nat) (md : Int32) (cO : ClassId) (f : Nat → Option Nat) (v : Nat) (sz : Nat) (hv : f 0 = some v) : Met l yJx4a65c_get_915e3 wsJx4a65c_get_915e3 ({ frames := 2, cells := 0, slots := 0, locals := 43 } : Room) (va_Pc [.ref q0, .int 0] (wIn dC dI g [(q0, .inr (3, [.int md, .ref q1, .int 8])), (q1, .inl (cO, 10, .inr (.inr (.inr (.inr f)))))] [(cO, .object "java/lang/Object")] sz)) (va_Qr (fun (u : Unit) => True) (fun (u : Unit) (ra : Nat) (t : State) => ra = v ∧ wOut dC dI [(q0, .inr (3, [.int md, .ref q1, .int 8])), (q1, .inl (cO, 10, .inr (.inr (.inr (.inr f)))))] [(cO, .object "java/lang/Object")] (va_A [(q0, .inr (3, [.int md, .ref q1, .int 8])), (q1, .inl (cO, 10, .inr (.inr (.inr (.inr f)))))] sz) t) (va_A [(q0, .inr (3, [.int md, .ref q1, .int 8])), (q1, .inl (cO, 10, .inr (.inr (.inr (.inr f)))))] sz)) 0 0 (va_A [(q0, .inr (3, [.int md, .ref q1, .int 8])), (q1, .inl (cO, 10, .inr (.inr (.inr (.inr f)))))] sz) := by
  refine Met.ofW (cc := cJx4a65c_get_915e3) (maxL := 2) (ret := (some (.object "java/lang/Object"))) (by decide) rfl ?_
  intro p e s m args below meth c s₁ B hml hv
  obtain ⟨rfl, hsz, hP, hK, hD0, hG⟩ := hv
  have hx := B.exec
  have hb := B.bytes
  have hr := B.returns
  have hts := atoms_spec (ws := wsJx4a65c_get_915e3) B.pre
  have hown : s.vm.findClass RJx4a65c = some m.cls := findClass_of_methodNamed B.named
  have hlocks := B.notSynchronized
  subst hsz
  have hD := hD0.self (sz := s.heap.size)
  generalize hAe : va_A [(q0, .inr (3, [.int md, .ref q1, .int 8])), (q1, .inl (cO, 10, .inr (.inr (.inr (.inr f)))))] s.heap.size = A at hD hG ⊢
  have hN := hG.1
  have hA : ∀ q : Nat, s.heap.size ≤ q → A q := fun q h => by rw [← hAe]; exact Or.inr h
  have hS : va_S A s.heap s.heap [] := va_S.rf
  have hP : va_P (dC, dI) vwCl [(q0, .inr (3, [.int md, .ref q1, .int 8])), (q1, .inl (cO, 10, .inr (.inr (.inr (.inr f)))))] s.heap := hP
  have hw0 : (Cond.fieldLink RJx4a65c 48 "java/util/ArrayList" "size" "I").before _ s = true := hts _ (List.mem_cons_of_mem _ (List.mem_append_left _ (List.mem_of_getElem? (i := 0) rfl)))
  have hiJx4a65c : ∀ w ∈ u_ws RJx4a65c TJx4a65c 3, w ∈ wsJx4a65c_get_915e3 := fun _ h => List.mem_cons_of_mem _ (List.mem_append_right _ (h))
  have hl := lv_entry ([.ref q0, .int 0]) (n := 2) (Nat.le_of_ble_eq_true rfl)
  rw [lg_entry_eq]
  generalize (lg_sl ([.ref q0, .int 0]) ++ List.replicate (2 - (lg_sl ([.ref q0, .int 0])).length) Slot.unset).toArray = ls at hl ⊢
  have hl : lv_has ls 2 [(0, .ref q0), (1, .int 0)] := hl
  refine lv_iload_n hx hb dJx4a65c_get_915e3_0 rfl (lv_at hl 1 rfl) ?_
  refine lv_aload_n hx hb dJx4a65c_get_915e3_1 rfl (lv_at hl 0 rfl) ?_
  refine va_get (D := (dC, dI)) (ci := 3) (v := .int 8) (C := RJx4a65c) (T := TJx4a65c) (N := 3) hx hb hts hiJx4a65c hown hK hP 0 rfl rfl 2 (by decide) (hw0) (fun _ h9 => h9) rfl dJx4a65c_get_915e3_2 ?_
  have hPc := hP.sub (ws' := []) [] rfl
  have hDc := hD.sub (ws' := []) [] (by decide) rfl
  have hKc := hK.sub (tys' := []) [] rfl
  have hFc := va_free (wc := []) hD hS hA [] rfl
  refine va_calli (va_runS (As := [.int 0, .int 8]) (rest := []) ⟨hx, hb, hml, hown, hts⟩ (c_J15_checkIndex_7cf53 l dC dI g 0 8 s.heap.size (by decide) (by decide)) (va_cwS 2 hts gJx4a65c_get_915e3_J15_checkIndex_7cf53 rfl rfl rfl (by decide +kernel) ⟨Nat.le_of_ble_eq_true rfl, Nat.le_of_ble_eq_true rfl⟩) ⟨wIn_blind, wIn_at hPc hKc hDc hG hS hFc⟩ rfl rfl hl.1 rfl (lv_room (Nat.le_of_ble_eq_true rfl)) dJx4a65c_get_915e3_5 ⟨Nat.le_of_ble_eq_true rfl, Nat.le_of_ble_eq_true rfl⟩) hS (fun q _ h => hFc q h) hFc (fun r_1 u t H1 locs ht hvm hw hB hz1 hk1 hS => ?_)
  obtain ⟨hP1, hK1, hD1⟩ := hB
  rw [ht] at hP1
  obtain ⟨hP, hD⟩ := va_join (wr := [(q0, .inr (3, [.int md, .ref q1, .int 8])), (q1, .inl (cO, 10, .inr (.inr (.inr (.inr f)))))]) (w1 := []) hP hD [] [0, 1] rfl rfl (by decide) (by decide) hk1 hFc hP1 hD1
  generalize H1 = H at hP hS ⊢
  have hP : va_P (dC, dI) vwCl [(q0, .inr (3, [.int md, .ref q1, .int 8])), (q1, .inl (cO, 10, .inr (.inr (.inr (.inr f)))))] H := hP
  have hD : va_D A [(q0, .inr (3, [.int md, .ref q1, .int 8])), (q1, .inl (cO, 10, .inr (.inr (.inr (.inr f)))))] := hD
  refine lt_ci (y := 0) hw ?_
  refine lv_pop hx hb dJx4a65c_get_915e3_8 rfl ?_
  refine lv_aload_n hx hb dJx4a65c_get_915e3_9 rfl (lv_at hl 0 rfl) ?_
  refine lv_iload_n hx hb dJx4a65c_get_915e3_10 rfl (lv_at hl 1 rfl) ?_
  have hPc := hP.sub (ws' := [(q0, .inr (3, [.int md, .ref q1, .int 8])), (q1, .inl (cO, 10, .inr (.inr (.inr (.inr f)))))]) [0, 1] rfl
  have hDc := hD.sub (ws' := [(q0, .inr (3, [.int md, .ref q1, .int 8])), (q1, .inl (cO, 10, .inr (.inr (.inr (.inr f)))))]) [0, 1] (by decide) rfl
  have hKc := hK.sub (tys' := [(cO, .object "java/lang/Object")]) [0] rfl
  have hFc := va_free (wc := [(q0, .inr (3, [.int md, .ref q1, .int 8])), (q1, .inl (cO, 10, .inr (.inr (.inr (.inr f)))))]) hD hS hA [0, 1] rfl
  refine va_callr (va_runV (As := [.int 0]) (rest := []) ⟨hx, hb, hml, hown, hts⟩ (c_Jx4a65c_elementData_915e3_0 l dC dI g q0 q1 md 8 cO f v H.size hv) (cwV 1 hts gJx4a65c_get_915e3_Jx4a65c_elementData_915e3 rfl rfl rfl (by decide +kernel) ⟨Nat.le_of_ble_eq_true rfl, Nat.le_of_ble_eq_true rfl⟩) ⟨wIn_blind, va_recv hK hP (ci := 3) (q0 := 0) rfl rfl, wIn_at hPc hKc hDc hG hS hFc⟩ rfl rfl hl.1 rfl (lv_room (Nat.le_of_ble_eq_true rfl)) dJx4a65c_get_915e3_11 ⟨Nat.le_of_ble_eq_true rfl, Nat.le_of_ble_eq_true rfl⟩) hS (fun q _ h => hFc q h) hFc (fun u r_2 t H1 locs ht hvm hw hB hz1 hk1 hS => ?_)
  obtain ⟨hra, hP1, hK1, hD1⟩ := hB
  rw [ht] at hP1
  obtain ⟨hP, hD⟩ := va_join (wr := []) (w1 := [(q0, .inr (3, [.int md, .ref q1, .int 8])), (q1, .inl (cO, 10, .inr (.inr (.inr (.inr f)))))]) hP hD [0, 1] [] rfl rfl (by decide) (by decide) hk1 hFc hP1 hD1
  generalize H1 = H at hP hS ⊢
  have hP : va_P (dC, dI) vwCl [(q0, .inr (3, [.int md, .ref q1, .int 8])), (q1, .inl (cO, 10, .inr (.inr (.inr (.inr f)))))] H := hP
  have hD : va_D A [(q0, .inr (3, [.int md, .ref q1, .int 8])), (q1, .inl (cO, 10, .inr (.inr (.inr (.inr f)))))] := hD
  refine lt_v (y := .ref v) (congrArg Value.ref hra) ?_
  have hP9 := hP.sub (ws' := [(q0, .inr (3, [.int md, .ref q1, .int 8])), (q1, .inl (cO, 10, .inr (.inr (.inr (.inr f)))))]) [0, 1] rfl
  have hD9 := hD.sub (ws' := [(q0, .inr (3, [.int md, .ref q1, .int 8])), (q1, .inl (cO, 10, .inr (.inr (.inr (.inr f)))))]) [0, 1] (by decide) rfl
  have hK9 := hK.sub (tys' := [(cO, .object "java/lang/Object")]) [0] rfl
  exact W.aret (v := .ref v) hx hb hr (Or.inl ⟨_, rfl⟩) (Or.inr ⟨_, rfl⟩) (fun t ht hW => ⟨⟨(), v, rfl, trivial, rfl, wOut_at ht hW hP9 hK9 hD9⟩, hS.F ht⟩) hS.2.2 dJx4a65c_get_915e3_14

set_option maxHeartbeats 4000000 in
set_option maxRecDepth 100000 in
theorem c_Jx4a65c_get_915e3_1_8 (l : Launch) (dC : Nat → ClassId) (dI : Nat → Nat → Nat) (g : Nat × Nat × Nat) (q0 : Nat) (q1 : Nat) (md : Int32) (cO : ClassId) (f : Nat → Option Nat) (v : Nat) (sz : Nat) (hv : f 1 = some v) : Met l yJx4a65c_get_915e3 wsJx4a65c_get_915e3 ({ frames := 2, cells := 0, slots := 0, locals := 43 } : Room) (va_Pc [.ref q0, .int 1] (wIn dC dI g [(q0, .inr (3, [.int md, .ref q1, .int 8])), (q1, .inl (cO, 10, .inr (.inr (.inr (.inr f)))))] [(cO, .object "java/lang/Object")] sz)) (va_Qr (fun (u : Unit) => True) (fun (u : Unit) (ra : Nat) (t : State) => ra = v ∧ wOut dC dI [(q0, .inr (3, [.int md, .ref q1, .int 8])), (q1, .inl (cO, 10, .inr (.inr (.inr (.inr f)))))] [(cO, .object "java/lang/Object")] (va_A [(q0, .inr (3, [.int md, .ref q1, .int 8])), (q1, .inl (cO, 10, .inr (.inr (.inr (.inr f)))))] sz) t) (va_A [(q0, .inr (3, [.int md, .ref q1, .int 8])), (q1, .inl (cO, 10, .inr (.inr (.inr (.inr f)))))] sz)) 0 0 (va_A [(q0, .inr (3, [.int md, .ref q1, .int 8])), (q1, .inl (cO, 10, .inr (.inr (.inr (.inr f)))))] sz) := by
  refine Met.ofW (cc := cJx4a65c_get_915e3) (maxL := 2) (ret := (some (.object "java/lang/Object"))) (by decide) rfl ?_
  intro p e s m args below meth c s₁ B hml hv
  obtain ⟨rfl, hsz, hP, hK, hD0, hG⟩ := hv
  have hx := B.exec
  have hb := B.bytes
  have hr := B.returns
  have hts := atoms_spec (ws := wsJx4a65c_get_915e3) B.pre
  have hown : s.vm.findClass RJx4a65c = some m.cls := findClass_of_methodNamed B.named
  have hlocks := B.notSynchronized
  subst hsz
  have hD := hD0.self (sz := s.heap.size)
  generalize hAe : va_A [(q0, .inr (3, [.int md, .ref q1, .int 8])), (q1, .inl (cO, 10, .inr (.inr (.inr (.inr f)))))] s.heap.size = A at hD hG ⊢
  have hN := hG.1
  have hA : ∀ q : Nat, s.heap.size ≤ q → A q := fun q h => by rw [← hAe]; exact Or.inr h
  have hS : va_S A s.heap s.heap [] := va_S.rf
  have hP : va_P (dC, dI) vwCl [(q0, .inr (3, [.int md, .ref q1, .int 8])), (q1, .inl (cO, 10, .inr (.inr (.inr (.inr f)))))] s.heap := hP
  have hw0 : (Cond.fieldLink RJx4a65c 48 "java/util/ArrayList" "size" "I").before _ s = true := hts _ (List.mem_cons_of_mem _ (List.mem_append_left _ (List.mem_of_getElem? (i := 0) rfl)))
  have hiJx4a65c : ∀ w ∈ u_ws RJx4a65c TJx4a65c 3, w ∈ wsJx4a65c_get_915e3 := fun _ h => List.mem_cons_of_mem _ (List.mem_append_right _ (h))
  have hl := lv_entry ([.ref q0, .int 1]) (n := 2) (Nat.le_of_ble_eq_true rfl)
  rw [lg_entry_eq]
  generalize (lg_sl ([.ref q0, .int 1]) ++ List.replicate (2 - (lg_sl ([.ref q0, .int 1])).length) Slot.unset).toArray = ls at hl ⊢
  have hl : lv_has ls 2 [(0, .ref q0), (1, .int 1)] := hl
  refine lv_iload_n hx hb dJx4a65c_get_915e3_0 rfl (lv_at hl 1 rfl) ?_
  refine lv_aload_n hx hb dJx4a65c_get_915e3_1 rfl (lv_at hl 0 rfl) ?_
  refine va_get (D := (dC, dI)) (ci := 3) (v := .int 8) (C := RJx4a65c) (T := TJx4a65c) (N := 3) hx hb hts hiJx4a65c hown hK hP 0 rfl rfl 2 (by decide) (hw0) (fun _ h9 => h9) rfl dJx4a65c_get_915e3_2 ?_
  have hPc := hP.sub (ws' := []) [] rfl
  have hDc := hD.sub (ws' := []) [] (by decide) rfl
  have hKc := hK.sub (tys' := []) [] rfl
  have hFc := va_free (wc := []) hD hS hA [] rfl
  refine va_calli (va_runS (As := [.int 1, .int 8]) (rest := []) ⟨hx, hb, hml, hown, hts⟩ (c_J15_checkIndex_7cf53 l dC dI g 1 8 s.heap.size (by decide) (by decide)) (va_cwS 2 hts gJx4a65c_get_915e3_J15_checkIndex_7cf53 rfl rfl rfl (by decide +kernel) ⟨Nat.le_of_ble_eq_true rfl, Nat.le_of_ble_eq_true rfl⟩) ⟨wIn_blind, wIn_at hPc hKc hDc hG hS hFc⟩ rfl rfl hl.1 rfl (lv_room (Nat.le_of_ble_eq_true rfl)) dJx4a65c_get_915e3_5 ⟨Nat.le_of_ble_eq_true rfl, Nat.le_of_ble_eq_true rfl⟩) hS (fun q _ h => hFc q h) hFc (fun r_1 u t H1 locs ht hvm hw hB hz1 hk1 hS => ?_)
  obtain ⟨hP1, hK1, hD1⟩ := hB
  rw [ht] at hP1
  obtain ⟨hP, hD⟩ := va_join (wr := [(q0, .inr (3, [.int md, .ref q1, .int 8])), (q1, .inl (cO, 10, .inr (.inr (.inr (.inr f)))))]) (w1 := []) hP hD [] [0, 1] rfl rfl (by decide) (by decide) hk1 hFc hP1 hD1
  generalize H1 = H at hP hS ⊢
  have hP : va_P (dC, dI) vwCl [(q0, .inr (3, [.int md, .ref q1, .int 8])), (q1, .inl (cO, 10, .inr (.inr (.inr (.inr f)))))] H := hP
  have hD : va_D A [(q0, .inr (3, [.int md, .ref q1, .int 8])), (q1, .inl (cO, 10, .inr (.inr (.inr (.inr f)))))] := hD
  refine lt_ci (y := 1) hw ?_
  refine lv_pop hx hb dJx4a65c_get_915e3_8 rfl ?_
  refine lv_aload_n hx hb dJx4a65c_get_915e3_9 rfl (lv_at hl 0 rfl) ?_
  refine lv_iload_n hx hb dJx4a65c_get_915e3_10 rfl (lv_at hl 1 rfl) ?_
  have hPc := hP.sub (ws' := [(q0, .inr (3, [.int md, .ref q1, .int 8])), (q1, .inl (cO, 10, .inr (.inr (.inr (.inr f)))))]) [0, 1] rfl
  have hDc := hD.sub (ws' := [(q0, .inr (3, [.int md, .ref q1, .int 8])), (q1, .inl (cO, 10, .inr (.inr (.inr (.inr f)))))]) [0, 1] (by decide) rfl
  have hKc := hK.sub (tys' := [(cO, .object "java/lang/Object")]) [0] rfl
  have hFc := va_free (wc := [(q0, .inr (3, [.int md, .ref q1, .int 8])), (q1, .inl (cO, 10, .inr (.inr (.inr (.inr f)))))]) hD hS hA [0, 1] rfl
  refine va_callr (va_runV (As := [.int 1]) (rest := []) ⟨hx, hb, hml, hown, hts⟩ (c_Jx4a65c_elementData_915e3_1 l dC dI g q0 q1 md 8 cO f v H.size hv) (cwV 1 hts gJx4a65c_get_915e3_Jx4a65c_elementData_915e3 rfl rfl rfl (by decide +kernel) ⟨Nat.le_of_ble_eq_true rfl, Nat.le_of_ble_eq_true rfl⟩) ⟨wIn_blind, va_recv hK hP (ci := 3) (q0 := 0) rfl rfl, wIn_at hPc hKc hDc hG hS hFc⟩ rfl rfl hl.1 rfl (lv_room (Nat.le_of_ble_eq_true rfl)) dJx4a65c_get_915e3_11 ⟨Nat.le_of_ble_eq_true rfl, Nat.le_of_ble_eq_true rfl⟩) hS (fun q _ h => hFc q h) hFc (fun u r_2 t H1 locs ht hvm hw hB hz1 hk1 hS => ?_)
  obtain ⟨hra, hP1, hK1, hD1⟩ := hB
  rw [ht] at hP1
  obtain ⟨hP, hD⟩ := va_join (wr := []) (w1 := [(q0, .inr (3, [.int md, .ref q1, .int 8])), (q1, .inl (cO, 10, .inr (.inr (.inr (.inr f)))))]) hP hD [0, 1] [] rfl rfl (by decide) (by decide) hk1 hFc hP1 hD1
  generalize H1 = H at hP hS ⊢
  have hP : va_P (dC, dI) vwCl [(q0, .inr (3, [.int md, .ref q1, .int 8])), (q1, .inl (cO, 10, .inr (.inr (.inr (.inr f)))))] H := hP
  have hD : va_D A [(q0, .inr (3, [.int md, .ref q1, .int 8])), (q1, .inl (cO, 10, .inr (.inr (.inr (.inr f)))))] := hD
  refine lt_v (y := .ref v) (congrArg Value.ref hra) ?_
  have hP9 := hP.sub (ws' := [(q0, .inr (3, [.int md, .ref q1, .int 8])), (q1, .inl (cO, 10, .inr (.inr (.inr (.inr f)))))]) [0, 1] rfl
  have hD9 := hD.sub (ws' := [(q0, .inr (3, [.int md, .ref q1, .int 8])), (q1, .inl (cO, 10, .inr (.inr (.inr (.inr f)))))]) [0, 1] (by decide) rfl
  have hK9 := hK.sub (tys' := [(cO, .object "java/lang/Object")]) [0] rfl
  exact W.aret (v := .ref v) hx hb hr (Or.inl ⟨_, rfl⟩) (Or.inr ⟨_, rfl⟩) (fun t ht hW => ⟨⟨(), v, rfl, trivial, rfl, wOut_at ht hW hP9 hK9 hD9⟩, hS.F ht⟩) hS.2.2 dJx4a65c_get_915e3_14

set_option maxHeartbeats 4000000 in
set_option maxRecDepth 100000 in
theorem c_Jx4a65c_get_915e3_2_8 (l : Launch) (dC : Nat → ClassId) (dI : Nat → Nat → Nat) (g : Nat × Nat × Nat) (q0 : Nat) (q1 : Nat) (md : Int32) (cO : ClassId) (f : Nat → Option Nat) (v : Nat) (sz : Nat) (hv : f 2 = some v) : Met l yJx4a65c_get_915e3 wsJx4a65c_get_915e3 ({ frames := 2, cells := 0, slots := 0, locals := 43 } : Room) (va_Pc [.ref q0, .int 2] (wIn dC dI g [(q0, .inr (3, [.int md, .ref q1, .int 8])), (q1, .inl (cO, 10, .inr (.inr (.inr (.inr f)))))] [(cO, .object "java/lang/Object")] sz)) (va_Qr (fun (u : Unit) => True) (fun (u : Unit) (ra : Nat) (t : State) => ra = v ∧ wOut dC dI [(q0, .inr (3, [.int md, .ref q1, .int 8])), (q1, .inl (cO, 10, .inr (.inr (.inr (.inr f)))))] [(cO, .object "java/lang/Object")] (va_A [(q0, .inr (3, [.int md, .ref q1, .int 8])), (q1, .inl (cO, 10, .inr (.inr (.inr (.inr f)))))] sz) t) (va_A [(q0, .inr (3, [.int md, .ref q1, .int 8])), (q1, .inl (cO, 10, .inr (.inr (.inr (.inr f)))))] sz)) 0 0 (va_A [(q0, .inr (3, [.int md, .ref q1, .int 8])), (q1, .inl (cO, 10, .inr (.inr (.inr (.inr f)))))] sz) := by
  refine Met.ofW (cc := cJx4a65c_get_915e3) (maxL := 2) (ret := (some (.object "java/lang/Object"))) (by decide) rfl ?_
  intro p e s m args below meth c s₁ B hml hv
  obtain ⟨rfl, hsz, hP, hK, hD0, hG⟩ := hv
  have hx := B.exec
  have hb := B.bytes
  have hr := B.returns
  have hts := atoms_spec (ws := wsJx4a65c_get_915e3) B.pre
  have hown : s.vm.findClass RJx4a65c = some m.cls := findClass_of_methodNamed B.named
  have hlocks := B.notSynchronized
  subst hsz
  have hD := hD0.self (sz := s.heap.size)
  generalize hAe : va_A [(q0, .inr (3, [.int md, .ref q1, .int 8])), (q1, .inl (cO, 10, .inr (.inr (.inr (.inr f)))))] s.heap.size = A at hD hG ⊢
  have hN := hG.1
  have hA : ∀ q : Nat, s.heap.size ≤ q → A q := fun q h => by rw [← hAe]; exact Or.inr h
  have hS : va_S A s.heap s.heap [] := va_S.rf
  have hP : va_P (dC, dI) vwCl [(q0, .inr (3, [.int md, .ref q1, .int 8])), (q1, .inl (cO, 10, .inr (.inr (.inr (.inr f)))))] s.heap := hP
  have hw0 : (Cond.fieldLink RJx4a65c 48 "java/util/ArrayList" "size" "I").before _ s = true := hts _ (List.mem_cons_of_mem _ (List.mem_append_left _ (List.mem_of_getElem? (i := 0) rfl)))
  have hiJx4a65c : ∀ w ∈ u_ws RJx4a65c TJx4a65c 3, w ∈ wsJx4a65c_get_915e3 := fun _ h => List.mem_cons_of_mem _ (List.mem_append_right _ (h))
  have hl := lv_entry ([.ref q0, .int 2]) (n := 2) (Nat.le_of_ble_eq_true rfl)
  rw [lg_entry_eq]
  generalize (lg_sl ([.ref q0, .int 2]) ++ List.replicate (2 - (lg_sl ([.ref q0, .int 2])).length) Slot.unset).toArray = ls at hl ⊢
  have hl : lv_has ls 2 [(0, .ref q0), (1, .int 2)] := hl
  refine lv_iload_n hx hb dJx4a65c_get_915e3_0 rfl (lv_at hl 1 rfl) ?_
  refine lv_aload_n hx hb dJx4a65c_get_915e3_1 rfl (lv_at hl 0 rfl) ?_
  refine va_get (D := (dC, dI)) (ci := 3) (v := .int 8) (C := RJx4a65c) (T := TJx4a65c) (N := 3) hx hb hts hiJx4a65c hown hK hP 0 rfl rfl 2 (by decide) (hw0) (fun _ h9 => h9) rfl dJx4a65c_get_915e3_2 ?_
  have hPc := hP.sub (ws' := []) [] rfl
  have hDc := hD.sub (ws' := []) [] (by decide) rfl
  have hKc := hK.sub (tys' := []) [] rfl
  have hFc := va_free (wc := []) hD hS hA [] rfl
  refine va_calli (va_runS (As := [.int 2, .int 8]) (rest := []) ⟨hx, hb, hml, hown, hts⟩ (c_J15_checkIndex_7cf53 l dC dI g 2 8 s.heap.size (by decide) (by decide)) (va_cwS 2 hts gJx4a65c_get_915e3_J15_checkIndex_7cf53 rfl rfl rfl (by decide +kernel) ⟨Nat.le_of_ble_eq_true rfl, Nat.le_of_ble_eq_true rfl⟩) ⟨wIn_blind, wIn_at hPc hKc hDc hG hS hFc⟩ rfl rfl hl.1 rfl (lv_room (Nat.le_of_ble_eq_true rfl)) dJx4a65c_get_915e3_5 ⟨Nat.le_of_ble_eq_true rfl, Nat.le_of_ble_eq_true rfl⟩) hS (fun q _ h => hFc q h) hFc (fun r_1 u t H1 locs ht hvm hw hB hz1 hk1 hS => ?_)
  obtain ⟨hP1, hK1, hD1⟩ := hB
  rw [ht] at hP1
  obtain ⟨hP, hD⟩ := va_join (wr := [(q0, .inr (3, [.int md, .ref q1, .int 8])), (q1, .inl (cO, 10, .inr (.inr (.inr (.inr f)))))]) (w1 := []) hP hD [] [0, 1] rfl rfl (by decide) (by decide) hk1 hFc hP1 hD1
  generalize H1 = H at hP hS ⊢
  have hP : va_P (dC, dI) vwCl [(q0, .inr (3, [.int md, .ref q1, .int 8])), (q1, .inl (cO, 10, .inr (.inr (.inr (.inr f)))))] H := hP
  have hD : va_D A [(q0, .inr (3, [.int md, .ref q1, .int 8])), (q1, .inl (cO, 10, .inr (.inr (.inr (.inr f)))))] := hD
  refine lt_ci (y := 2) hw ?_
  refine lv_pop hx hb dJx4a65c_get_915e3_8 rfl ?_
  refine lv_aload_n hx hb dJx4a65c_get_915e3_9 rfl (lv_at hl 0 rfl) ?_
  refine lv_iload_n hx hb dJx4a65c_get_915e3_10 rfl (lv_at hl 1 rfl) ?_
  have hPc := hP.sub (ws' := [(q0, .inr (3, [.int md, .ref q1, .int 8])), (q1, .inl (cO, 10, .inr (.inr (.inr (.inr f)))))]) [0, 1] rfl
  have hDc := hD.sub (ws' := [(q0, .inr (3, [.int md, .ref q1, .int 8])), (q1, .inl (cO, 10, .inr (.inr (.inr (.inr f)))))]) [0, 1] (by decide) rfl
  have hKc := hK.sub (tys' := [(cO, .object "java/lang/Object")]) [0] rfl
  have hFc := va_free (wc := [(q0, .inr (3, [.int md, .ref q1, .int 8])), (q1, .inl (cO, 10, .inr (.inr (.inr (.inr f)))))]) hD hS hA [0, 1] rfl
  refine va_callr (va_runV (As := [.int 2]) (rest := []) ⟨hx, hb, hml, hown, hts⟩ (c_Jx4a65c_elementData_915e3_2 l dC dI g q0 q1 md 8 cO f v H.size hv) (cwV 1 hts gJx4a65c_get_915e3_Jx4a65c_elementData_915e3 rfl rfl rfl (by decide +kernel) ⟨Nat.le_of_ble_eq_true rfl, Nat.le_of_ble_eq_true rfl⟩) ⟨wIn_blind, va_recv hK hP (ci := 3) (q0 := 0) rfl rfl, wIn_at hPc hKc hDc hG hS hFc⟩ rfl rfl hl.1 rfl (lv_room (Nat.le_of_ble_eq_true rfl)) dJx4a65c_get_915e3_11 ⟨Nat.le_of_ble_eq_true rfl, Nat.le_of_ble_eq_true rfl⟩) hS (fun q _ h => hFc q h) hFc (fun u r_2 t H1 locs ht hvm hw hB hz1 hk1 hS => ?_)
  obtain ⟨hra, hP1, hK1, hD1⟩ := hB
  rw [ht] at hP1
  obtain ⟨hP, hD⟩ := va_join (wr := []) (w1 := [(q0, .inr (3, [.int md, .ref q1, .int 8])), (q1, .inl (cO, 10, .inr (.inr (.inr (.inr f)))))]) hP hD [0, 1] [] rfl rfl (by decide) (by decide) hk1 hFc hP1 hD1
  generalize H1 = H at hP hS ⊢
  have hP : va_P (dC, dI) vwCl [(q0, .inr (3, [.int md, .ref q1, .int 8])), (q1, .inl (cO, 10, .inr (.inr (.inr (.inr f)))))] H := hP
  have hD : va_D A [(q0, .inr (3, [.int md, .ref q1, .int 8])), (q1, .inl (cO, 10, .inr (.inr (.inr (.inr f)))))] := hD
  refine lt_v (y := .ref v) (congrArg Value.ref hra) ?_
  have hP9 := hP.sub (ws' := [(q0, .inr (3, [.int md, .ref q1, .int 8])), (q1, .inl (cO, 10, .inr (.inr (.inr (.inr f)))))]) [0, 1] rfl
  have hD9 := hD.sub (ws' := [(q0, .inr (3, [.int md, .ref q1, .int 8])), (q1, .inl (cO, 10, .inr (.inr (.inr (.inr f)))))]) [0, 1] (by decide) rfl
  have hK9 := hK.sub (tys' := [(cO, .object "java/lang/Object")]) [0] rfl
  exact W.aret (v := .ref v) hx hb hr (Or.inl ⟨_, rfl⟩) (Or.inr ⟨_, rfl⟩) (fun t ht hW => ⟨⟨(), v, rfl, trivial, rfl, wOut_at ht hW hP9 hK9 hD9⟩, hS.F ht⟩) hS.2.2 dJx4a65c_get_915e3_14

set_option maxHeartbeats 4000000 in
set_option maxRecDepth 100000 in
theorem c_Jx4a65c_get_915e3_3_8 (l : Launch) (dC : Nat → ClassId) (dI : Nat → Nat → Nat) (g : Nat × Nat × Nat) (q0 : Nat) (q1 : Nat) (md : Int32) (cO : ClassId) (f : Nat → Option Nat) (v : Nat) (sz : Nat) (hv : f 3 = some v) : Met l yJx4a65c_get_915e3 wsJx4a65c_get_915e3 ({ frames := 2, cells := 0, slots := 0, locals := 43 } : Room) (va_Pc [.ref q0, .int 3] (wIn dC dI g [(q0, .inr (3, [.int md, .ref q1, .int 8])), (q1, .inl (cO, 10, .inr (.inr (.inr (.inr f)))))] [(cO, .object "java/lang/Object")] sz)) (va_Qr (fun (u : Unit) => True) (fun (u : Unit) (ra : Nat) (t : State) => ra = v ∧ wOut dC dI [(q0, .inr (3, [.int md, .ref q1, .int 8])), (q1, .inl (cO, 10, .inr (.inr (.inr (.inr f)))))] [(cO, .object "java/lang/Object")] (va_A [(q0, .inr (3, [.int md, .ref q1, .int 8])), (q1, .inl (cO, 10, .inr (.inr (.inr (.inr f)))))] sz) t) (va_A [(q0, .inr (3, [.int md, .ref q1, .int 8])), (q1, .inl (cO, 10, .inr (.inr (.inr (.inr f)))))] sz)) 0 0 (va_A [(q0, .inr (3, [.int md, .ref q1, .int 8])), (q1, .inl (cO, 10, .inr (.inr (.inr (.inr f)))))] sz) := by
  refine Met.ofW (cc := cJx4a65c_get_915e3) (maxL := 2) (ret := (some (.object "java/lang/Object"))) (by decide) rfl ?_
  intro p e s m args below meth c s₁ B hml hv
  obtain ⟨rfl, hsz, hP, hK, hD0, hG⟩ := hv
  have hx := B.exec
  have hb := B.bytes
  have hr := B.returns
  have hts := atoms_spec (ws := wsJx4a65c_get_915e3) B.pre
  have hown : s.vm.findClass RJx4a65c = some m.cls := findClass_of_methodNamed B.named
  have hlocks := B.notSynchronized
  subst hsz
  have hD := hD0.self (sz := s.heap.size)
  generalize hAe : va_A [(q0, .inr (3, [.int md, .ref q1, .int 8])), (q1, .inl (cO, 10, .inr (.inr (.inr (.inr f)))))] s.heap.size = A at hD hG ⊢
  have hN := hG.1
  have hA : ∀ q : Nat, s.heap.size ≤ q → A q := fun q h => by rw [← hAe]; exact Or.inr h
  have hS : va_S A s.heap s.heap [] := va_S.rf
  have hP : va_P (dC, dI) vwCl [(q0, .inr (3, [.int md, .ref q1, .int 8])), (q1, .inl (cO, 10, .inr (.inr (.inr (.inr f)))))] s.heap := hP
  have hw0 : (Cond.fieldLink RJx4a65c 48 "java/util/ArrayList" "size" "I").before _ s = true := hts _ (List.mem_cons_of_mem _ (List.mem_append_left _ (List.mem_of_getElem? (i := 0) rfl)))
  have hiJx4a65c : ∀ w ∈ u_ws RJx4a65c TJx4a65c 3, w ∈ wsJx4a65c_get_915e3 := fun _ h => List.mem_cons_of_mem _ (List.mem_append_right _ (h))
  have hl := lv_entry ([.ref q0, .int 3]) (n := 2) (Nat.le_of_ble_eq_true rfl)
  rw [lg_entry_eq]
  generalize (lg_sl ([.ref q0, .int 3]) ++ List.replicate (2 - (lg_sl ([.ref q0, .int 3])).length) Slot.unset).toArray = ls at hl ⊢
  have hl : lv_has ls 2 [(0, .ref q0), (1, .int 3)] := hl
  refine lv_iload_n hx hb dJx4a65c_get_915e3_0 rfl (lv_at hl 1 rfl) ?_
  refine lv_aload_n hx hb dJx4a65c_get_915e3_1 rfl (lv_at hl 0 rfl) ?_
  refine va_get (D := (dC, dI)) (ci := 3) (v := .int 8) (C := RJx4a65c) (T := TJx4a65c) (N := 3) hx hb hts hiJx4a65c hown hK hP 0 rfl rfl 2 (by decide) (hw0) (fun _ h9 => h9) rfl dJx4a65c_get_915e3_2 ?_
  have hPc := hP.sub (ws' := []) [] rfl
  have hDc := hD.sub (ws' := []) [] (by decide) rfl
  have hKc := hK.sub (tys' := []) [] rfl
  have hFc := va_free (wc := []) hD hS hA [] rfl
  refine va_calli (va_runS (As := [.int 3, .int 8]) (rest := []) ⟨hx, hb, hml, hown, hts⟩ (c_J15_checkIndex_7cf53 l dC dI g 3 8 s.heap.size (by decide) (by decide)) (va_cwS 2 hts gJx4a65c_get_915e3_J15_checkIndex_7cf53 rfl rfl rfl (by decide +kernel) ⟨Nat.le_of_ble_eq_true rfl, Nat.le_of_ble_eq_true rfl⟩) ⟨wIn_blind, wIn_at hPc hKc hDc hG hS hFc⟩ rfl rfl hl.1 rfl (lv_room (Nat.le_of_ble_eq_true rfl)) dJx4a65c_get_915e3_5 ⟨Nat.le_of_ble_eq_true rfl, Nat.le_of_ble_eq_true rfl⟩) hS (fun q _ h => hFc q h) hFc (fun r_1 u t H1 locs ht hvm hw hB hz1 hk1 hS => ?_)
  obtain ⟨hP1, hK1, hD1⟩ := hB
  rw [ht] at hP1
  obtain ⟨hP, hD⟩ := va_join (wr := [(q0, .inr (3, [.int md, .ref q1, .int 8])), (q1, .inl (cO, 10, .inr (.inr (.inr (.inr f)))))]) (w1 := []) hP hD [] [0, 1] rfl rfl (by decide) (by decide) hk1 hFc hP1 hD1
  generalize H1 = H at hP hS ⊢
  have hP : va_P (dC, dI) vwCl [(q0, .inr (3, [.int md, .ref q1, .int 8])), (q1, .inl (cO, 10, .inr (.inr (.inr (.inr f)))))] H := hP
  have hD : va_D A [(q0, .inr (3, [.int md, .ref q1, .int 8])), (q1, .inl (cO, 10, .inr (.inr (.inr (.inr f)))))] := hD
  refine lt_ci (y := 3) hw ?_
  refine lv_pop hx hb dJx4a65c_get_915e3_8 rfl ?_
  refine lv_aload_n hx hb dJx4a65c_get_915e3_9 rfl (lv_at hl 0 rfl) ?_
  refine lv_iload_n hx hb dJx4a65c_get_915e3_10 rfl (lv_at hl 1 rfl) ?_
  have hPc := hP.sub (ws' := [(q0, .inr (3, [.int md, .ref q1, .int 8])), (q1, .inl (cO, 10, .inr (.inr (.inr (.inr f)))))]) [0, 1] rfl
  have hDc := hD.sub (ws' := [(q0, .inr (3, [.int md, .ref q1, .int 8])), (q1, .inl (cO, 10, .inr (.inr (.inr (.inr f)))))]) [0, 1] (by decide) rfl
  have hKc := hK.sub (tys' := [(cO, .object "java/lang/Object")]) [0] rfl
  have hFc := va_free (wc := [(q0, .inr (3, [.int md, .ref q1, .int 8])), (q1, .inl (cO, 10, .inr (.inr (.inr (.inr f)))))]) hD hS hA [0, 1] rfl
  refine va_callr (va_runV (As := [.int 3]) (rest := []) ⟨hx, hb, hml, hown, hts⟩ (c_Jx4a65c_elementData_915e3_3 l dC dI g q0 q1 md 8 cO f v H.size hv) (cwV 1 hts gJx4a65c_get_915e3_Jx4a65c_elementData_915e3 rfl rfl rfl (by decide +kernel) ⟨Nat.le_of_ble_eq_true rfl, Nat.le_of_ble_eq_true rfl⟩) ⟨wIn_blind, va_recv hK hP (ci := 3) (q0 := 0) rfl rfl, wIn_at hPc hKc hDc hG hS hFc⟩ rfl rfl hl.1 rfl (lv_room (Nat.le_of_ble_eq_true rfl)) dJx4a65c_get_915e3_11 ⟨Nat.le_of_ble_eq_true rfl, Nat.le_of_ble_eq_true rfl⟩) hS (fun q _ h => hFc q h) hFc (fun u r_2 t H1 locs ht hvm hw hB hz1 hk1 hS => ?_)
  obtain ⟨hra, hP1, hK1, hD1⟩ := hB
  rw [ht] at hP1
  obtain ⟨hP, hD⟩ := va_join (wr := []) (w1 := [(q0, .inr (3, [.int md, .ref q1, .int 8])), (q1, .inl (cO, 10, .inr (.inr (.inr (.inr f)))))]) hP hD [0, 1] [] rfl rfl (by decide) (by decide) hk1 hFc hP1 hD1
  generalize H1 = H at hP hS ⊢
  have hP : va_P (dC, dI) vwCl [(q0, .inr (3, [.int md, .ref q1, .int 8])), (q1, .inl (cO, 10, .inr (.inr (.inr (.inr f)))))] H := hP
  have hD : va_D A [(q0, .inr (3, [.int md, .ref q1, .int 8])), (q1, .inl (cO, 10, .inr (.inr (.inr (.inr f)))))] := hD
  refine lt_v (y := .ref v) (congrArg Value.ref hra) ?_
  have hP9 := hP.sub (ws' := [(q0, .inr (3, [.int md, .ref q1, .int 8])), (q1, .inl (cO, 10, .inr (.inr (.inr (.inr f)))))]) [0, 1] rfl
  have hD9 := hD.sub (ws' := [(q0, .inr (3, [.int md, .ref q1, .int 8])), (q1, .inl (cO, 10, .inr (.inr (.inr (.inr f)))))]) [0, 1] (by decide) rfl
  have hK9 := hK.sub (tys' := [(cO, .object "java/lang/Object")]) [0] rfl
  exact W.aret (v := .ref v) hx hb hr (Or.inl ⟨_, rfl⟩) (Or.inr ⟨_, rfl⟩) (fun t ht hW => ⟨⟨(), v, rfl, trivial, rfl, wOut_at ht hW hP9 hK9 hD9⟩, hS.F ht⟩) hS.2.2 dJx4a65c_get_915e3_14

set_option maxHeartbeats 4000000 in
set_option maxRecDepth 100000 in
theorem c_Jx4a65c_get_915e3_4_8 (l : Launch) (dC : Nat → ClassId) (dI : Nat → Nat → Nat) (g : Nat × Nat × Nat) (q0 : Nat) (q1 : Nat) (md : Int32) (cO : ClassId) (f : Nat → Option Nat) (v : Nat) (sz : Nat) (hv : f 4 = some v) : Met l yJx4a65c_get_915e3 wsJx4a65c_get_915e3 ({ frames := 2, cells := 0, slots := 0, locals := 43 } : Room) (va_Pc [.ref q0, .int 4] (wIn dC dI g [(q0, .inr (3, [.int md, .ref q1, .int 8])), (q1, .inl (cO, 10, .inr (.inr (.inr (.inr f)))))] [(cO, .object "java/lang/Object")] sz)) (va_Qr (fun (u : Unit) => True) (fun (u : Unit) (ra : Nat) (t : State) => ra = v ∧ wOut dC dI [(q0, .inr (3, [.int md, .ref q1, .int 8])), (q1, .inl (cO, 10, .inr (.inr (.inr (.inr f)))))] [(cO, .object "java/lang/Object")] (va_A [(q0, .inr (3, [.int md, .ref q1, .int 8])), (q1, .inl (cO, 10, .inr (.inr (.inr (.inr f)))))] sz) t) (va_A [(q0, .inr (3, [.int md, .ref q1, .int 8])), (q1, .inl (cO, 10, .inr (.inr (.inr (.inr f)))))] sz)) 0 0 (va_A [(q0, .inr (3, [.int md, .ref q1, .int 8])), (q1, .inl (cO, 10, .inr (.inr (.inr (.inr f)))))] sz) := by
  refine Met.ofW (cc := cJx4a65c_get_915e3) (maxL := 2) (ret := (some (.object "java/lang/Object"))) (by decide) rfl ?_
  intro p e s m args below meth c s₁ B hml hv
  obtain ⟨rfl, hsz, hP, hK, hD0, hG⟩ := hv
  have hx := B.exec
  have hb := B.bytes
  have hr := B.returns
  have hts := atoms_spec (ws := wsJx4a65c_get_915e3) B.pre
  have hown : s.vm.findClass RJx4a65c = some m.cls := findClass_of_methodNamed B.named
  have hlocks := B.notSynchronized
  subst hsz
  have hD := hD0.self (sz := s.heap.size)
  generalize hAe : va_A [(q0, .inr (3, [.int md, .ref q1, .int 8])), (q1, .inl (cO, 10, .inr (.inr (.inr (.inr f)))))] s.heap.size = A at hD hG ⊢
  have hN := hG.1
  have hA : ∀ q : Nat, s.heap.size ≤ q → A q := fun q h => by rw [← hAe]; exact Or.inr h
  have hS : va_S A s.heap s.heap [] := va_S.rf
  have hP : va_P (dC, dI) vwCl [(q0, .inr (3, [.int md, .ref q1, .int 8])), (q1, .inl (cO, 10, .inr (.inr (.inr (.inr f)))))] s.heap := hP
  have hw0 : (Cond.fieldLink RJx4a65c 48 "java/util/ArrayList" "size" "I").before _ s = true := hts _ (List.mem_cons_of_mem _ (List.mem_append_left _ (List.mem_of_getElem? (i := 0) rfl)))
  have hiJx4a65c : ∀ w ∈ u_ws RJx4a65c TJx4a65c 3, w ∈ wsJx4a65c_get_915e3 := fun _ h => List.mem_cons_of_mem _ (List.mem_append_right _ (h))
  have hl := lv_entry ([.ref q0, .int 4]) (n := 2) (Nat.le_of_ble_eq_true rfl)
  rw [lg_entry_eq]
  generalize (lg_sl ([.ref q0, .int 4]) ++ List.replicate (2 - (lg_sl ([.ref q0, .int 4])).length) Slot.unset).toArray = ls at hl ⊢
  have hl : lv_has ls 2 [(0, .ref q0), (1, .int 4)] := hl
  refine lv_iload_n hx hb dJx4a65c_get_915e3_0 rfl (lv_at hl 1 rfl) ?_
  refine lv_aload_n hx hb dJx4a65c_get_915e3_1 rfl (lv_at hl 0 rfl) ?_
  refine va_get (D := (dC, dI)) (ci := 3) (v := .int 8) (C := RJx4a65c) (T := TJx4a65c) (N := 3) hx hb hts hiJx4a65c hown hK hP 0 rfl rfl 2 (by decide) (hw0) (fun _ h9 => h9) rfl dJx4a65c_get_915e3_2 ?_
  have hPc := hP.sub (ws' := []) [] rfl
  have hDc := hD.sub (ws' := []) [] (by decide) rfl
  have hKc := hK.sub (tys' := []) [] rfl
  have hFc := va_free (wc := []) hD hS hA [] rfl
  refine va_calli (va_runS (As := [.int 4, .int 8]) (rest := []) ⟨hx, hb, hml, hown, hts⟩ (c_J15_checkIndex_7cf53 l dC dI g 4 8 s.heap.size (by decide) (by decide)) (va_cwS 2 hts gJx4a65c_get_915e3_J15_checkIndex_7cf53 rfl rfl rfl (by decide +kernel) ⟨Nat.le_of_ble_eq_true rfl, Nat.le_of_ble_eq_true rfl⟩) ⟨wIn_blind, wIn_at hPc hKc hDc hG hS hFc⟩ rfl rfl hl.1 rfl (lv_room (Nat.le_of_ble_eq_true rfl)) dJx4a65c_get_915e3_5 ⟨Nat.le_of_ble_eq_true rfl, Nat.le_of_ble_eq_true rfl⟩) hS (fun q _ h => hFc q h) hFc (fun r_1 u t H1 locs ht hvm hw hB hz1 hk1 hS => ?_)
  obtain ⟨hP1, hK1, hD1⟩ := hB
  rw [ht] at hP1
  obtain ⟨hP, hD⟩ := va_join (wr := [(q0, .inr (3, [.int md, .ref q1, .int 8])), (q1, .inl (cO, 10, .inr (.inr (.inr (.inr f)))))]) (w1 := []) hP hD [] [0, 1] rfl rfl (by decide) (by decide) hk1 hFc hP1 hD1
  generalize H1 = H at hP hS ⊢
  have hP : va_P (dC, dI) vwCl [(q0, .inr (3, [.int md, .ref q1, .int 8])), (q1, .inl (cO, 10, .inr (.inr (.inr (.inr f)))))] H := hP
  have hD : va_D A [(q0, .inr (3, [.int md, .ref q1, .int 8])), (q1, .inl (cO, 10, .inr (.inr (.inr (.inr f)))))] := hD
  refine lt_ci (y := 4) hw ?_
  refine lv_pop hx hb dJx4a65c_get_915e3_8 rfl ?_
  refine lv_aload_n hx hb dJx4a65c_get_915e3_9 rfl (lv_at hl 0 rfl) ?_
  refine lv_iload_n hx hb dJx4a65c_get_915e3_10 rfl (lv_at hl 1 rfl) ?_
  have hPc := hP.sub (ws' := [(q0, .inr (3, [.int md, .ref q1, .int 8])), (q1, .inl (cO, 10, .inr (.inr (.inr (.inr f)))))]) [0, 1] rfl
  have hDc := hD.sub (ws' := [(q0, .inr (3, [.int md, .ref q1, .int 8])), (q1, .inl (cO, 10, .inr (.inr (.inr (.inr f)))))]) [0, 1] (by decide) rfl
  have hKc := hK.sub (tys' := [(cO, .object "java/lang/Object")]) [0] rfl
  have hFc := va_free (wc := [(q0, .inr (3, [.int md, .ref q1, .int 8])), (q1, .inl (cO, 10, .inr (.inr (.inr (.inr f)))))]) hD hS hA [0, 1] rfl
  refine va_callr (va_runV (As := [.int 4]) (rest := []) ⟨hx, hb, hml, hown, hts⟩ (c_Jx4a65c_elementData_915e3_4 l dC dI g q0 q1 md 8 cO f v H.size hv) (cwV 1 hts gJx4a65c_get_915e3_Jx4a65c_elementData_915e3 rfl rfl rfl (by decide +kernel) ⟨Nat.le_of_ble_eq_true rfl, Nat.le_of_ble_eq_true rfl⟩) ⟨wIn_blind, va_recv hK hP (ci := 3) (q0 := 0) rfl rfl, wIn_at hPc hKc hDc hG hS hFc⟩ rfl rfl hl.1 rfl (lv_room (Nat.le_of_ble_eq_true rfl)) dJx4a65c_get_915e3_11 ⟨Nat.le_of_ble_eq_true rfl, Nat.le_of_ble_eq_true rfl⟩) hS (fun q _ h => hFc q h) hFc (fun u r_2 t H1 locs ht hvm hw hB hz1 hk1 hS => ?_)
  obtain ⟨hra, hP1, hK1, hD1⟩ := hB
  rw [ht] at hP1
  obtain ⟨hP, hD⟩ := va_join (wr := []) (w1 := [(q0, .inr (3, [.int md, .ref q1, .int 8])), (q1, .inl (cO, 10, .inr (.inr (.inr (.inr f)))))]) hP hD [0, 1] [] rfl rfl (by decide) (by decide) hk1 hFc hP1 hD1
  generalize H1 = H at hP hS ⊢
  have hP : va_P (dC, dI) vwCl [(q0, .inr (3, [.int md, .ref q1, .int 8])), (q1, .inl (cO, 10, .inr (.inr (.inr (.inr f)))))] H := hP
  have hD : va_D A [(q0, .inr (3, [.int md, .ref q1, .int 8])), (q1, .inl (cO, 10, .inr (.inr (.inr (.inr f)))))] := hD
  refine lt_v (y := .ref v) (congrArg Value.ref hra) ?_
  have hP9 := hP.sub (ws' := [(q0, .inr (3, [.int md, .ref q1, .int 8])), (q1, .inl (cO, 10, .inr (.inr (.inr (.inr f)))))]) [0, 1] rfl
  have hD9 := hD.sub (ws' := [(q0, .inr (3, [.int md, .ref q1, .int 8])), (q1, .inl (cO, 10, .inr (.inr (.inr (.inr f)))))]) [0, 1] (by decide) rfl
  have hK9 := hK.sub (tys' := [(cO, .object "java/lang/Object")]) [0] rfl
  exact W.aret (v := .ref v) hx hb hr (Or.inl ⟨_, rfl⟩) (Or.inr ⟨_, rfl⟩) (fun t ht hW => ⟨⟨(), v, rfl, trivial, rfl, wOut_at ht hW hP9 hK9 hD9⟩, hS.F ht⟩) hS.2.2 dJx4a65c_get_915e3_14

set_option maxHeartbeats 4000000 in
set_option maxRecDepth 100000 in
theorem c_Jx4a65c_get_915e3_5_8 (l : Launch) (dC : Nat → ClassId) (dI : Nat → Nat → Nat) (g : Nat × Nat × Nat) (q0 : Nat) (q1 : Nat) (md : Int32) (cO : ClassId) (f : Nat → Option Nat) (v : Nat) (sz : Nat) (hv : f 5 = some v) : Met l yJx4a65c_get_915e3 wsJx4a65c_get_915e3 ({ frames := 2, cells := 0, slots := 0, locals := 43 } : Room) (va_Pc [.ref q0, .int 5] (wIn dC dI g [(q0, .inr (3, [.int md, .ref q1, .int 8])), (q1, .inl (cO, 10, .inr (.inr (.inr (.inr f)))))] [(cO, .object "java/lang/Object")] sz)) (va_Qr (fun (u : Unit) => True) (fun (u : Unit) (ra : Nat) (t : State) => ra = v ∧ wOut dC dI [(q0, .inr (3, [.int md, .ref q1, .int 8])), (q1, .inl (cO, 10, .inr (.inr (.inr (.inr f)))))] [(cO, .object "java/lang/Object")] (va_A [(q0, .inr (3, [.int md, .ref q1, .int 8])), (q1, .inl (cO, 10, .inr (.inr (.inr (.inr f)))))] sz) t) (va_A [(q0, .inr (3, [.int md, .ref q1, .int 8])), (q1, .inl (cO, 10, .inr (.inr (.inr (.inr f)))))] sz)) 0 0 (va_A [(q0, .inr (3, [.int md, .ref q1, .int 8])), (q1, .inl (cO, 10, .inr (.inr (.inr (.inr f)))))] sz) := by
  refine Met.ofW (cc := cJx4a65c_get_915e3) (maxL := 2) (ret := (some (.object "java/lang/Object"))) (by decide) rfl ?_
  intro p e s m args below meth c s₁ B hml hv
  obtain ⟨rfl, hsz, hP, hK, hD0, hG⟩ := hv
  have hx := B.exec
  have hb := B.bytes
  have hr := B.returns
  have hts := atoms_spec (ws := wsJx4a65c_get_915e3) B.pre
  have hown : s.vm.findClass RJx4a65c = some m.cls := findClass_of_methodNamed B.named
  have hlocks := B.notSynchronized
  subst hsz
  have hD := hD0.self (sz := s.heap.size)
  generalize hAe : va_A [(q0, .inr (3, [.int md, .ref q1, .int 8])), (q1, .inl (cO, 10, .inr (.inr (.inr (.inr f)))))] s.heap.size = A at hD hG ⊢
  have hN := hG.1
  have hA : ∀ q : Nat, s.heap.size ≤ q → A q := fun q h => by rw [← hAe]; exact Or.inr h
  have hS : va_S A s.heap s.heap [] := va_S.rf
  have hP : va_P (dC, dI) vwCl [(q0, .inr (3, [.int md, .ref q1, .int 8])), (q1, .inl (cO, 10, .inr (.inr (.inr (.inr f)))))] s.heap := hP
  have hw0 : (Cond.fieldLink RJx4a65c 48 "java/util/ArrayList" "size" "I").before _ s = true := hts _ (List.mem_cons_of_mem _ (List.mem_append_left _ (List.mem_of_getElem? (i := 0) rfl)))
  have hiJx4a65c : ∀ w ∈ u_ws RJx4a65c TJx4a65c 3, w ∈ wsJx4a65c_get_915e3 := fun _ h => List.mem_cons_of_mem _ (List.mem_append_right _ (h))
  have hl := lv_entry ([.ref q0, .int 5]) (n := 2) (Nat.le_of_ble_eq_true rfl)
  rw [lg_entry_eq]
  generalize (lg_sl ([.ref q0, .int 5]) ++ List.replicate (2 - (lg_sl ([.ref q0, .int 5])).length) Slot.unset).toArray = ls at hl ⊢
  have hl : lv_has ls 2 [(0, .ref q0), (1, .int 5)] := hl
  refine lv_iload_n hx hb dJx4a65c_get_915e3_0 rfl (lv_at hl 1 rfl) ?_
  refine lv_aload_n hx hb dJx4a65c_get_915e3_1 rfl (lv_at hl 0 rfl) ?_
  refine va_get (D := (dC, dI)) (ci := 3) (v := .int 8) (C := RJx4a65c) (T := TJx4a65c) (N := 3) hx hb hts hiJx4a65c hown hK hP 0 rfl rfl 2 (by decide) (hw0) (fun _ h9 => h9) rfl dJx4a65c_get_915e3_2 ?_
  have hPc := hP.sub (ws' := []) [] rfl
  have hDc := hD.sub (ws' := []) [] (by decide) rfl
  have hKc := hK.sub (tys' := []) [] rfl
  have hFc := va_free (wc := []) hD hS hA [] rfl
  refine va_calli (va_runS (As := [.int 5, .int 8]) (rest := []) ⟨hx, hb, hml, hown, hts⟩ (c_J15_checkIndex_7cf53 l dC dI g 5 8 s.heap.size (by decide) (by decide)) (va_cwS 2 hts gJx4a65c_get_915e3_J15_checkIndex_7cf53 rfl rfl rfl (by decide +kernel) ⟨Nat.le_of_ble_eq_true rfl, Nat.le_of_ble_eq_true rfl⟩) ⟨wIn_blind, wIn_at hPc hKc hDc hG hS hFc⟩ rfl rfl hl.1 rfl (lv_room (Nat.le_of_ble_eq_true rfl)) dJx4a65c_get_915e3_5 ⟨Nat.le_of_ble_eq_true rfl, Nat.le_of_ble_eq_true rfl⟩) hS (fun q _ h => hFc q h) hFc (fun r_1 u t H1 locs ht hvm hw hB hz1 hk1 hS => ?_)
  obtain ⟨hP1, hK1, hD1⟩ := hB
  rw [ht] at hP1
  obtain ⟨hP, hD⟩ := va_join (wr := [(q0, .inr (3, [.int md, .ref q1, .int 8])), (q1, .inl (cO, 10, .inr (.inr (.inr (.inr f)))))]) (w1 := []) hP hD [] [0, 1] rfl rfl (by decide) (by decide) hk1 hFc hP1 hD1
  generalize H1 = H at hP hS ⊢
  have hP : va_P (dC, dI) vwCl [(q0, .inr (3, [.int md, .ref q1, .int 8])), (q1, .inl (cO, 10, .inr (.inr (.inr (.inr f)))))] H := hP
  have hD : va_D A [(q0, .inr (3, [.int md, .ref q1, .int 8])), (q1, .inl (cO, 10, .inr (.inr (.inr (.inr f)))))] := hD
  refine lt_ci (y := 5) hw ?_
  refine lv_pop hx hb dJx4a65c_get_915e3_8 rfl ?_
  refine lv_aload_n hx hb dJx4a65c_get_915e3_9 rfl (lv_at hl 0 rfl) ?_
  refine lv_iload_n hx hb dJx4a65c_get_915e3_10 rfl (lv_at hl 1 rfl) ?_
  have hPc := hP.sub (ws' := [(q0, .inr (3, [.int md, .ref q1, .int 8])), (q1, .inl (cO, 10, .inr (.inr (.inr (.inr f)))))]) [0, 1] rfl
  have hDc := hD.sub (ws' := [(q0, .inr (3, [.int md, .ref q1, .int 8])), (q1, .inl (cO, 10, .inr (.inr (.inr (.inr f)))))]) [0, 1] (by decide) rfl
  have hKc := hK.sub (tys' := [(cO, .object "java/lang/Object")]) [0] rfl
  have hFc := va_free (wc := [(q0, .inr (3, [.int md, .ref q1, .int 8])), (q1, .inl (cO, 10, .inr (.inr (.inr (.inr f)))))]) hD hS hA [0, 1] rfl
  refine va_callr (va_runV (As := [.int 5]) (rest := []) ⟨hx, hb, hml, hown, hts⟩ (c_Jx4a65c_elementData_915e3_5 l dC dI g q0 q1 md 8 cO f v H.size hv) (cwV 1 hts gJx4a65c_get_915e3_Jx4a65c_elementData_915e3 rfl rfl rfl (by decide +kernel) ⟨Nat.le_of_ble_eq_true rfl, Nat.le_of_ble_eq_true rfl⟩) ⟨wIn_blind, va_recv hK hP (ci := 3) (q0 := 0) rfl rfl, wIn_at hPc hKc hDc hG hS hFc⟩ rfl rfl hl.1 rfl (lv_room (Nat.le_of_ble_eq_true rfl)) dJx4a65c_get_915e3_11 ⟨Nat.le_of_ble_eq_true rfl, Nat.le_of_ble_eq_true rfl⟩) hS (fun q _ h => hFc q h) hFc (fun u r_2 t H1 locs ht hvm hw hB hz1 hk1 hS => ?_)
  obtain ⟨hra, hP1, hK1, hD1⟩ := hB
  rw [ht] at hP1
  obtain ⟨hP, hD⟩ := va_join (wr := []) (w1 := [(q0, .inr (3, [.int md, .ref q1, .int 8])), (q1, .inl (cO, 10, .inr (.inr (.inr (.inr f)))))]) hP hD [0, 1] [] rfl rfl (by decide) (by decide) hk1 hFc hP1 hD1
  generalize H1 = H at hP hS ⊢
  have hP : va_P (dC, dI) vwCl [(q0, .inr (3, [.int md, .ref q1, .int 8])), (q1, .inl (cO, 10, .inr (.inr (.inr (.inr f)))))] H := hP
  have hD : va_D A [(q0, .inr (3, [.int md, .ref q1, .int 8])), (q1, .inl (cO, 10, .inr (.inr (.inr (.inr f)))))] := hD
  refine lt_v (y := .ref v) (congrArg Value.ref hra) ?_
  have hP9 := hP.sub (ws' := [(q0, .inr (3, [.int md, .ref q1, .int 8])), (q1, .inl (cO, 10, .inr (.inr (.inr (.inr f)))))]) [0, 1] rfl
  have hD9 := hD.sub (ws' := [(q0, .inr (3, [.int md, .ref q1, .int 8])), (q1, .inl (cO, 10, .inr (.inr (.inr (.inr f)))))]) [0, 1] (by decide) rfl
  have hK9 := hK.sub (tys' := [(cO, .object "java/lang/Object")]) [0] rfl
  exact W.aret (v := .ref v) hx hb hr (Or.inl ⟨_, rfl⟩) (Or.inr ⟨_, rfl⟩) (fun t ht hW => ⟨⟨(), v, rfl, trivial, rfl, wOut_at ht hW hP9 hK9 hD9⟩, hS.F ht⟩) hS.2.2 dJx4a65c_get_915e3_14

set_option maxHeartbeats 4000000 in
set_option maxRecDepth 100000 in
theorem c_Jx4a65c_get_915e3_6_8 (l : Launch) (dC : Nat → ClassId) (dI : Nat → Nat → Nat) (g : Nat × Nat × Nat) (q0 : Nat) (q1 : Nat) (md : Int32) (cO : ClassId) (f : Nat → Option Nat) (v : Nat) (sz : Nat) (hv : f 6 = some v) : Met l yJx4a65c_get_915e3 wsJx4a65c_get_915e3 ({ frames := 2, cells := 0, slots := 0, locals := 43 } : Room) (va_Pc [.ref q0, .int 6] (wIn dC dI g [(q0, .inr (3, [.int md, .ref q1, .int 8])), (q1, .inl (cO, 10, .inr (.inr (.inr (.inr f)))))] [(cO, .object "java/lang/Object")] sz)) (va_Qr (fun (u : Unit) => True) (fun (u : Unit) (ra : Nat) (t : State) => ra = v ∧ wOut dC dI [(q0, .inr (3, [.int md, .ref q1, .int 8])), (q1, .inl (cO, 10, .inr (.inr (.inr (.inr f)))))] [(cO, .object "java/lang/Object")] (va_A [(q0, .inr (3, [.int md, .ref q1, .int 8])), (q1, .inl (cO, 10, .inr (.inr (.inr (.inr f)))))] sz) t) (va_A [(q0, .inr (3, [.int md, .ref q1, .int 8])), (q1, .inl (cO, 10, .inr (.inr (.inr (.inr f)))))] sz)) 0 0 (va_A [(q0, .inr (3, [.int md, .ref q1, .int 8])), (q1, .inl (cO, 10, .inr (.inr (.inr (.inr f)))))] sz) := by
  refine Met.ofW (cc := cJx4a65c_get_915e3) (maxL := 2) (ret := (some (.object "java/lang/Object"))) (by decide) rfl ?_
  intro p e s m args below meth c s₁ B hml hv
  obtain ⟨rfl, hsz, hP, hK, hD0, hG⟩ := hv
  have hx := B.exec
  have hb := B.bytes
  have hr := B.returns
  have hts := atoms_spec (ws := wsJx4a65c_get_915e3) B.pre
  have hown : s.vm.findClass RJx4a65c = some m.cls := findClass_of_methodNamed B.named
  have hlocks := B.notSynchronized
  subst hsz
  have hD := hD0.self (sz := s.heap.size)
  generalize hAe : va_A [(q0, .inr (3, [.int md, .ref q1, .int 8])), (q1, .inl (cO, 10, .inr (.inr (.inr (.inr f)))))] s.heap.size = A at hD hG ⊢
  have hN := hG.1
  have hA : ∀ q : Nat, s.heap.size ≤ q → A q := fun q h => by rw [← hAe]; exact Or.inr h
  have hS : va_S A s.heap s.heap [] := va_S.rf
  have hP : va_P (dC, dI) vwCl [(q0, .inr (3, [.int md, .ref q1, .int 8])), (q1, .inl (cO, 10, .inr (.inr (.inr (.inr f)))))] s.heap := hP
  have hw0 : (Cond.fieldLink RJx4a65c 48 "java/util/ArrayList" "size" "I").before _ s = true := hts _ (List.mem_cons_of_mem _ (List.mem_append_left _ (List.mem_of_getElem? (i := 0) rfl)))
  have hiJx4a65c : ∀ w ∈ u_ws RJx4a65c TJx4a65c 3, w ∈ wsJx4a65c_get_915e3 := fun _ h => List.mem_cons_of_mem _ (List.mem_append_right _ (h))
  have hl := lv_entry ([.ref q0, .int 6]) (n := 2) (Nat.le_of_ble_eq_true rfl)
  rw [lg_entry_eq]
  generalize (lg_sl ([.ref q0, .int 6]) ++ List.replicate (2 - (lg_sl ([.ref q0, .int 6])).length) Slot.unset).toArray = ls at hl ⊢
  have hl : lv_has ls 2 [(0, .ref q0), (1, .int 6)] := hl
  refine lv_iload_n hx hb dJx4a65c_get_915e3_0 rfl (lv_at hl 1 rfl) ?_
  refine lv_aload_n hx hb dJx4a65c_get_915e3_1 rfl (lv_at hl 0 rfl) ?_
  refine va_get (D := (dC, dI)) (ci := 3) (v := .int 8) (C := RJx4a65c) (T := TJx4a65c) (N := 3) hx hb hts hiJx4a65c hown hK hP 0 rfl rfl 2 (by decide) (hw0) (fun _ h9 => h9) rfl dJx4a65c_get_915e3_2 ?_
  have hPc := hP.sub (ws' := []) [] rfl
  have hDc := hD.sub (ws' := []) [] (by decide) rfl
  have hKc := hK.sub (tys' := []) [] rfl
  have hFc := va_free (wc := []) hD hS hA [] rfl
  refine va_calli (va_runS (As := [.int 6, .int 8]) (rest := []) ⟨hx, hb, hml, hown, hts⟩ (c_J15_checkIndex_7cf53 l dC dI g 6 8 s.heap.size (by decide) (by decide)) (va_cwS 2 hts gJx4a65c_get_915e3_J15_checkIndex_7cf53 rfl rfl rfl (by decide +kernel) ⟨Nat.le_of_ble_eq_true rfl, Nat.le_of_ble_eq_true rfl⟩) ⟨wIn_blind, wIn_at hPc hKc hDc hG hS hFc⟩ rfl rfl hl.1 rfl (lv_room (Nat.le_of_ble_eq_true rfl)) dJx4a65c_get_915e3_5 ⟨Nat.le_of_ble_eq_true rfl, Nat.le_of_ble_eq_true rfl⟩) hS (fun q _ h => hFc q h) hFc (fun r_1 u t H1 locs ht hvm hw hB hz1 hk1 hS => ?_)
  obtain ⟨hP1, hK1, hD1⟩ := hB
  rw [ht] at hP1
  obtain ⟨hP, hD⟩ := va_join (wr := [(q0, .inr (3, [.int md, .ref q1, .int 8])), (q1, .inl (cO, 10, .inr (.inr (.inr (.inr f)))))]) (w1 := []) hP hD [] [0, 1] rfl rfl (by decide) (by decide) hk1 hFc hP1 hD1
  generalize H1 = H at hP hS ⊢
  have hP : va_P (dC, dI) vwCl [(q0, .inr (3, [.int md, .ref q1, .int 8])), (q1, .inl (cO, 10, .inr (.inr (.inr (.inr f)))))] H := hP
  have hD : va_D A [(q0, .inr (3, [.int md, .ref q1, .int 8])), (q1, .inl (cO, 10, .inr (.inr (.inr (.inr f)))))] := hD
  refine lt_ci (y := 6) hw ?_
  refine lv_pop hx hb dJx4a65c_get_915e3_8 rfl ?_
  refine lv_aload_n hx hb dJx4a65c_get_915e3_9 rfl (lv_at hl 0 rfl) ?_
  refine lv_iload_n hx hb dJx4a65c_get_915e3_10 rfl (lv_at hl 1 rfl) ?_
  have hPc := hP.sub (ws' := [(q0, .inr (3, [.int md, .ref q1, .int 8])), (q1, .inl (cO, 10, .inr (.inr (.inr (.inr f)))))]) [0, 1] rfl
  have hDc := hD.sub (ws' := [(q0, .inr (3, [.int md, .ref q1, .int 8])), (q1, .inl (cO, 10, .inr (.inr (.inr (.inr f)))))]) [0, 1] (by decide) rfl
  have hKc := hK.sub (tys' := [(cO, .object "java/lang/Object")]) [0] rfl
  have hFc := va_free (wc := [(q0, .inr (3, [.int md, .ref q1, .int 8])), (q1, .inl (cO, 10, .inr (.inr (.inr (.inr f)))))]) hD hS hA [0, 1] rfl
  refine va_callr (va_runV (As := [.int 6]) (rest := []) ⟨hx, hb, hml, hown, hts⟩ (c_Jx4a65c_elementData_915e3_6 l dC dI g q0 q1 md 8 cO f v H.size hv) (cwV 1 hts gJx4a65c_get_915e3_Jx4a65c_elementData_915e3 rfl rfl rfl (by decide +kernel) ⟨Nat.le_of_ble_eq_true rfl, Nat.le_of_ble_eq_true rfl⟩) ⟨wIn_blind, va_recv hK hP (ci := 3) (q0 := 0) rfl rfl, wIn_at hPc hKc hDc hG hS hFc⟩ rfl rfl hl.1 rfl (lv_room (Nat.le_of_ble_eq_true rfl)) dJx4a65c_get_915e3_11 ⟨Nat.le_of_ble_eq_true rfl, Nat.le_of_ble_eq_true rfl⟩) hS (fun q _ h => hFc q h) hFc (fun u r_2 t H1 locs ht hvm hw hB hz1 hk1 hS => ?_)
  obtain ⟨hra, hP1, hK1, hD1⟩ := hB
  rw [ht] at hP1
  obtain ⟨hP, hD⟩ := va_join (wr := []) (w1 := [(q0, .inr (3, [.int md, .ref q1, .int 8])), (q1, .inl (cO, 10, .inr (.inr (.inr (.inr f)))))]) hP hD [0, 1] [] rfl rfl (by decide) (by decide) hk1 hFc hP1 hD1
  generalize H1 = H at hP hS ⊢
  have hP : va_P (dC, dI) vwCl [(q0, .inr (3, [.int md, .ref q1, .int 8])), (q1, .inl (cO, 10, .inr (.inr (.inr (.inr f)))))] H := hP
  have hD : va_D A [(q0, .inr (3, [.int md, .ref q1, .int 8])), (q1, .inl (cO, 10, .inr (.inr (.inr (.inr f)))))] := hD
  refine lt_v (y := .ref v) (congrArg Value.ref hra) ?_
  have hP9 := hP.sub (ws' := [(q0, .inr (3, [.int md, .ref q1, .int 8])), (q1, .inl (cO, 10, .inr (.inr (.inr (.inr f)))))]) [0, 1] rfl
  have hD9 := hD.sub (ws' := [(q0, .inr (3, [.int md, .ref q1, .int 8])), (q1, .inl (cO, 10, .inr (.inr (.inr (.inr f)))))]) [0, 1] (by decide) rfl
  have hK9 := hK.sub (tys' := [(cO, .object "java/lang/Object")]) [0] rfl
  exact W.aret (v := .ref v) hx hb hr (Or.inl ⟨_, rfl⟩) (Or.inr ⟨_, rfl⟩) (fun t ht hW => ⟨⟨(), v, rfl, trivial, rfl, wOut_at ht hW hP9 hK9 hD9⟩, hS.F ht⟩) hS.2.2 dJx4a65c_get_915e3_14

set_option maxHeartbeats 4000000 in
set_option maxRecDepth 100000 in
theorem c_Jx4a65c_get_915e3_7_8 (l : Launch) (dC : Nat → ClassId) (dI : Nat → Nat → Nat) (g : Nat × Nat × Nat) (q0 : Nat) (q1 : Nat) (md : Int32) (cO : ClassId) (f : Nat → Option Nat) (v : Nat) (sz : Nat) (hv : f 7 = some v) : Met l yJx4a65c_get_915e3 wsJx4a65c_get_915e3 ({ frames := 2, cells := 0, slots := 0, locals := 43 } : Room) (va_Pc [.ref q0, .int 7] (wIn dC dI g [(q0, .inr (3, [.int md, .ref q1, .int 8])), (q1, .inl (cO, 10, .inr (.inr (.inr (.inr f)))))] [(cO, .object "java/lang/Object")] sz)) (va_Qr (fun (u : Unit) => True) (fun (u : Unit) (ra : Nat) (t : State) => ra = v ∧ wOut dC dI [(q0, .inr (3, [.int md, .ref q1, .int 8])), (q1, .inl (cO, 10, .inr (.inr (.inr (.inr f)))))] [(cO, .object "java/lang/Object")] (va_A [(q0, .inr (3, [.int md, .ref q1, .int 8])), (q1, .inl (cO, 10, .inr (.inr (.inr (.inr f)))))] sz) t) (va_A [(q0, .inr (3, [.int md, .ref q1, .int 8])), (q1, .inl (cO, 10, .inr (.inr (.inr (.inr f)))))] sz)) 0 0 (va_A [(q0, .inr (3, [.int md, .ref q1, .int 8])), (q1, .inl (cO, 10, .inr (.inr (.inr (.inr f)))))] sz) := by
  refine Met.ofW (cc := cJx4a65c_get_915e3) (maxL := 2) (ret := (some (.object "java/lang/Object"))) (by decide) rfl ?_
  intro p e s m args below meth c s₁ B hml hv
  obtain ⟨rfl, hsz, hP, hK, hD0, hG⟩ := hv
  have hx := B.exec
  have hb := B.bytes
  have hr := B.returns
  have hts := atoms_spec (ws := wsJx4a65c_get_915e3) B.pre
  have hown : s.vm.findClass RJx4a65c = some m.cls := findClass_of_methodNamed B.named
  have hlocks := B.notSynchronized
  subst hsz
  have hD := hD0.self (sz := s.heap.size)
  generalize hAe : va_A [(q0, .inr (3, [.int md, .ref q1, .int 8])), (q1, .inl (cO, 10, .inr (.inr (.inr (.inr f)))))] s.heap.size = A at hD hG ⊢
  have hN := hG.1
  have hA : ∀ q : Nat, s.heap.size ≤ q → A q := fun q h => by rw [← hAe]; exact Or.inr h
  have hS : va_S A s.heap s.heap [] := va_S.rf
  have hP : va_P (dC, dI) vwCl [(q0, .inr (3, [.int md, .ref q1, .int 8])), (q1, .inl (cO, 10, .inr (.inr (.inr (.inr f)))))] s.heap := hP
  have hw0 : (Cond.fieldLink RJx4a65c 48 "java/util/ArrayList" "size" "I").before _ s = true := hts _ (List.mem_cons_of_mem _ (List.mem_append_left _ (List.mem_of_getElem? (i := 0) rfl)))
  have hiJx4a65c : ∀ w ∈ u_ws RJx4a65c TJx4a65c 3, w ∈ wsJx4a65c_get_915e3 := fun _ h => List.mem_cons_of_mem _ (List.mem_append_right _ (h))
  have hl := lv_entry ([.ref q0, .int 7]) (n := 2) (Nat.le_of_ble_eq_true rfl)
  rw [lg_entry_eq]
  generalize (lg_sl ([.ref q0, .int 7]) ++ List.replicate (2 - (lg_sl ([.ref q0, .int 7])).length) Slot.unset).toArray = ls at hl ⊢
  have hl : lv_has ls 2 [(0, .ref q0), (1, .int 7)] := hl
  refine lv_iload_n hx hb dJx4a65c_get_915e3_0 rfl (lv_at hl 1 rfl) ?_
  refine lv_aload_n hx hb dJx4a65c_get_915e3_1 rfl (lv_at hl 0 rfl) ?_
  refine va_get (D := (dC, dI)) (ci := 3) (v := .int 8) (C := RJx4a65c) (T := TJx4a65c) (N := 3) hx hb hts hiJx4a65c hown hK hP 0 rfl rfl 2 (by decide) (hw0) (fun _ h9 => h9) rfl dJx4a65c_get_915e3_2 ?_
  have hPc := hP.sub (ws' := []) [] rfl
  have hDc := hD.sub (ws' := []) [] (by decide) rfl
  have hKc := hK.sub (tys' := []) [] rfl
  have hFc := va_free (wc := []) hD hS hA [] rfl
  refine va_calli (va_runS (As := [.int 7, .int 8]) (rest := []) ⟨hx, hb, hml, hown, hts⟩ (c_J15_checkIndex_7cf53 l dC dI g 7 8 s.heap.size (by decide) (by decide)) (va_cwS 2 hts gJx4a65c_get_915e3_J15_checkIndex_7cf53 rfl rfl rfl (by decide +kernel) ⟨Nat.le_of_ble_eq_true rfl, Nat.le_of_ble_eq_true rfl⟩) ⟨wIn_blind, wIn_at hPc hKc hDc hG hS hFc⟩ rfl rfl hl.1 rfl (lv_room (Nat.le_of_ble_eq_true rfl)) dJx4a65c_get_915e3_5 ⟨Nat.le_of_ble_eq_true rfl, Nat.le_of_ble_eq_true rfl⟩) hS (fun q _ h => hFc q h) hFc (fun r_1 u t H1 locs ht hvm hw hB hz1 hk1 hS => ?_)
  obtain ⟨hP1, hK1, hD1⟩ := hB
  rw [ht] at hP1
  obtain ⟨hP, hD⟩ := va_join (wr := [(q0, .inr (3, [.int md, .ref q1, .int 8])), (q1, .inl (cO, 10, .inr (.inr (.inr (.inr f)))))]) (w1 := []) hP hD [] [0, 1] rfl rfl (by decide) (by decide) hk1 hFc hP1 hD1
  generalize H1 = H at hP hS ⊢
  have hP : va_P (dC, dI) vwCl [(q0, .inr (3, [.int md, .ref q1, .int 8])), (q1, .inl (cO, 10, .inr (.inr (.inr (.inr f)))))] H := hP
  have hD : va_D A [(q0, .inr (3, [.int md, .ref q1, .int 8])), (q1, .inl (cO, 10, .inr (.inr (.inr (.inr f)))))] := hD
  refine lt_ci (y := 7) hw ?_
  refine lv_pop hx hb dJx4a65c_get_915e3_8 rfl ?_
  refine lv_aload_n hx hb dJx4a65c_get_915e3_9 rfl (lv_at hl 0 rfl) ?_
  refine lv_iload_n hx hb dJx4a65c_get_915e3_10 rfl (lv_at hl 1 rfl) ?_
  have hPc := hP.sub (ws' := [(q0, .inr (3, [.int md, .ref q1, .int 8])), (q1, .inl (cO, 10, .inr (.inr (.inr (.inr f)))))]) [0, 1] rfl
  have hDc := hD.sub (ws' := [(q0, .inr (3, [.int md, .ref q1, .int 8])), (q1, .inl (cO, 10, .inr (.inr (.inr (.inr f)))))]) [0, 1] (by decide) rfl
  have hKc := hK.sub (tys' := [(cO, .object "java/lang/Object")]) [0] rfl
  have hFc := va_free (wc := [(q0, .inr (3, [.int md, .ref q1, .int 8])), (q1, .inl (cO, 10, .inr (.inr (.inr (.inr f)))))]) hD hS hA [0, 1] rfl
  refine va_callr (va_runV (As := [.int 7]) (rest := []) ⟨hx, hb, hml, hown, hts⟩ (c_Jx4a65c_elementData_915e3_7 l dC dI g q0 q1 md 8 cO f v H.size hv) (cwV 1 hts gJx4a65c_get_915e3_Jx4a65c_elementData_915e3 rfl rfl rfl (by decide +kernel) ⟨Nat.le_of_ble_eq_true rfl, Nat.le_of_ble_eq_true rfl⟩) ⟨wIn_blind, va_recv hK hP (ci := 3) (q0 := 0) rfl rfl, wIn_at hPc hKc hDc hG hS hFc⟩ rfl rfl hl.1 rfl (lv_room (Nat.le_of_ble_eq_true rfl)) dJx4a65c_get_915e3_11 ⟨Nat.le_of_ble_eq_true rfl, Nat.le_of_ble_eq_true rfl⟩) hS (fun q _ h => hFc q h) hFc (fun u r_2 t H1 locs ht hvm hw hB hz1 hk1 hS => ?_)
  obtain ⟨hra, hP1, hK1, hD1⟩ := hB
  rw [ht] at hP1
  obtain ⟨hP, hD⟩ := va_join (wr := []) (w1 := [(q0, .inr (3, [.int md, .ref q1, .int 8])), (q1, .inl (cO, 10, .inr (.inr (.inr (.inr f)))))]) hP hD [0, 1] [] rfl rfl (by decide) (by decide) hk1 hFc hP1 hD1
  generalize H1 = H at hP hS ⊢
  have hP : va_P (dC, dI) vwCl [(q0, .inr (3, [.int md, .ref q1, .int 8])), (q1, .inl (cO, 10, .inr (.inr (.inr (.inr f)))))] H := hP
  have hD : va_D A [(q0, .inr (3, [.int md, .ref q1, .int 8])), (q1, .inl (cO, 10, .inr (.inr (.inr (.inr f)))))] := hD
  refine lt_v (y := .ref v) (congrArg Value.ref hra) ?_
  have hP9 := hP.sub (ws' := [(q0, .inr (3, [.int md, .ref q1, .int 8])), (q1, .inl (cO, 10, .inr (.inr (.inr (.inr f)))))]) [0, 1] rfl
  have hD9 := hD.sub (ws' := [(q0, .inr (3, [.int md, .ref q1, .int 8])), (q1, .inl (cO, 10, .inr (.inr (.inr (.inr f)))))]) [0, 1] (by decide) rfl
  have hK9 := hK.sub (tys' := [(cO, .object "java/lang/Object")]) [0] rfl
  exact W.aret (v := .ref v) hx hb hr (Or.inl ⟨_, rfl⟩) (Or.inr ⟨_, rfl⟩) (fun t ht hW => ⟨⟨(), v, rfl, trivial, rfl, wOut_at ht hW hP9 hK9 hD9⟩, hS.F ht⟩) hS.2.2 dJx4a65c_get_915e3_14

set_option maxHeartbeats 4000000 in
set_option maxRecDepth 100000 in
theorem c_Jx4a65c_size_8abf5 (l : Launch) (dC : Nat → ClassId) (dI : Nat → Nat → Nat) (g : Nat × Nat × Nat) (q0 : Nat) (q1 : Nat) (md : Int32) (z : Int32) (sz : Nat) : Met l yJx4a65c_size_8abf5 wsJx4a65c_size_8abf5 ({ frames := 0, cells := 0, slots := 0, locals := 0 } : Room) (va_Pc [.ref q0] (wIn dC dI g [(q0, .inr (3, [.int md, .ref q1, .int z]))] [] sz)) (va_Qi (fun (r : Int32) (u : Unit) => r = z) (fun (u : Unit) (t : State) => wOut dC dI [(q0, .inr (3, [.int md, .ref q1, .int z]))] [] (va_A [(q0, .inr (3, [.int md, .ref q1, .int z]))] sz) t) (va_A [(q0, .inr (3, [.int md, .ref q1, .int z]))] sz)) 0 0 (va_A [(q0, .inr (3, [.int md, .ref q1, .int z]))] sz) := by
  refine Met.ofW (cc := cJx4a65c_size_8abf5) (maxL := 1) (ret := (some .int)) (by decide) rfl ?_
  intro p e s m args below meth c s₁ B hml hv
  obtain ⟨rfl, hsz, hP, hK, hD0, hG⟩ := hv
  have hx := B.exec
  have hb := B.bytes
  have hr := B.returns
  have hts := atoms_spec (ws := wsJx4a65c_size_8abf5) B.pre
  have hown : s.vm.findClass RJx4a65c = some m.cls := findClass_of_methodNamed B.named
  have hlocks := B.notSynchronized
  subst hsz
  have hD := hD0.self (sz := s.heap.size)
  generalize hAe : va_A [(q0, .inr (3, [.int md, .ref q1, .int z]))] s.heap.size = A at hD hG ⊢
  have hN := hG.1
  have hA : ∀ q : Nat, s.heap.size ≤ q → A q := fun q h => by rw [← hAe]; exact Or.inr h
  have hS : va_S A s.heap s.heap [] := va_S.rf
  have hP : va_P (dC, dI) vwCl [(q0, .inr (3, [.int md, .ref q1, .int z]))] s.heap := hP
  have hw0 : (Cond.fieldLink RJx4a65c 48 "java/util/ArrayList" "size" "I").before _ s = true := hts _ (List.mem_cons_of_mem _ (List.mem_append_left _ (List.mem_of_getElem? (i := 0) rfl)))
  have hiJx4a65c : ∀ w ∈ u_ws RJx4a65c TJx4a65c 3, w ∈ wsJx4a65c_size_8abf5 := fun _ h => List.mem_cons_of_mem _ (List.mem_append_right _ (h))
  have hl := lv_entry ([.ref q0]) (n := 1) (Nat.le_of_ble_eq_true rfl)
  rw [lg_entry_eq]
  generalize (lg_sl ([.ref q0]) ++ List.replicate (1 - (lg_sl ([.ref q0])).length) Slot.unset).toArray = ls at hl ⊢
  have hl : lv_has ls 1 [(0, .ref q0)] := hl
  refine lv_aload_n hx hb dJx4a65c_size_8abf5_0 rfl (lv_at hl 0 rfl) ?_
  refine va_get (D := (dC, dI)) (ci := 3) (v := .int z) (C := RJx4a65c) (T := TJx4a65c) (N := 3) hx hb hts hiJx4a65c hown hK hP 0 rfl rfl 2 (by decide) (hw0) (fun _ h9 => h9) rfl dJx4a65c_size_8abf5_1 ?_
  have hP9 := hP.sub (ws' := [(q0, .inr (3, [.int md, .ref q1, .int z]))]) [0] rfl
  have hD9 := hD.sub (ws' := [(q0, .inr (3, [.int md, .ref q1, .int z]))]) [0] (by decide) rfl
  have hK9 := hK.sub (tys' := []) [] rfl
  exact W.iret (v := z) hx hb hr (fun t ht hW => ⟨⟨z, (), rfl, rfl, wOut_at ht hW hP9 hK9 hD9⟩, hS.F ht⟩) hS.2.2 dJx4a65c_size_8abf5_4

set_option maxHeartbeats 4000000 in
set_option maxRecDepth 100000 in
theorem c_Jx35411_init_45d68 (l : Launch) (dC : Nat → ClassId) (dI : Nat → Nat → Nat) (g : Nat × Nat × Nat) (it : Nat) (q0 : Nat) (q1 : Nat) (md : Int32) (z : Int32) (sz : Nat) : Met l yJx35411_init_45d68 wsJx35411_init_45d68 ({ frames := 1, cells := 0, slots := 0, locals := 20 } : Room) (va_Pc [.ref it, .ref q0] (wIn dC dI g [(it, .inr (2, [.int 0, .int 0, .int 0, .null])), (q0, .inr (3, [.int md, .ref q1, .int z]))] [] sz)) (va_Qv (fun (u : Unit) => True) (fun (u : Unit) (t : State) => wOut dC dI [(it, .inr (2, [.int 0, .int (-1), .int md, .ref q0])), (q0, .inr (3, [.int md, .ref q1, .int z]))] [] (va_A [(it, .inr (2, [.int 0, .int 0, .int 0, .null])), (q0, .inr (3, [.int md, .ref q1, .int z]))] sz) t) (va_A [(it, .inr (2, [.int 0, .int 0, .int 0, .null])), (q0, .inr (3, [.int md, .ref q1, .int z]))] sz)) 0 0 (va_A [(it, .inr (2, [.int 0, .int 0, .int 0, .null])), (q0, .inr (3, [.int md, .ref q1, .int z]))] sz) := by
  refine Met.ofW (cc := cJx35411_init_45d68) (maxL := 2) (ret := none) (by decide) rfl ?_
  intro p e s m args below meth c s₁ B hml hv
  obtain ⟨rfl, hsz, hP, hK, hD0, hG⟩ := hv
  have hx := B.exec
  have hb := B.bytes
  have hr := B.returns
  have hts := atoms_spec (ws := wsJx35411_init_45d68) B.pre
  have hown : s.vm.findClass RJx35411 = some m.cls := findClass_of_methodNamed B.named
  have hlocks := B.notSynchronized
  have hin : meth.name = "<init>" := (name_of_methodNamed B.named B.method).1
  subst hsz
  have hD := hD0.self (sz := s.heap.size)
  generalize hAe : va_A [(it, .inr (2, [.int 0, .int 0, .int 0, .null])), (q0, .inr (3, [.int md, .ref q1, .int z]))] s.heap.size = A at hD hG ⊢
  have hN := hG.1
  have hA : ∀ q : Nat, s.heap.size ≤ q → A q := fun q h => by rw [← hAe]; exact Or.inr h
  have hS : va_S A s.heap s.heap [] := va_S.rf
  have hP : va_P (dC, dI) vwCl [(it, .inr (2, [.int 0, .int 0, .int 0, .null])), (q0, .inr (3, [.int md, .ref q1, .int z]))] s.heap := hP
  have hw0 : (Cond.fieldLink RJx35411 1 "java/util/ArrayList$Itr" "this$0" "Ljava/util/ArrayList;").before _ s = true := hts _ (List.mem_cons_of_mem _ (List.mem_append_left _ (List.mem_append_left _ (List.mem_of_getElem? (i := 0) rfl))))
  have hiJx35411 : ∀ w ∈ u_ws RJx35411 TJx35411 4, w ∈ wsJx35411_init_45d68 := fun _ h => List.mem_cons_of_mem _ (List.mem_append_left _ (List.mem_append_right _ (h)))
  have hw2 : (Cond.methodLink RJx35411 7 objectInit).before _ s = true := hts _ (List.mem_cons_of_mem _ (List.mem_append_left _ (List.mem_append_left _ (List.mem_of_getElem? (i := 1) rfl))))
  have hw3 : (Cond.instanceMethod objectInit).before _ s = true := hts _ (List.mem_cons_of_mem _ (List.mem_append_left _ (List.mem_append_left _ (List.mem_of_getElem? (i := 2) rfl))))
  have hw4 : (Cond.code objectInit ⟨#[0xb1]⟩ 1 none).before _ s = true := hts _ (List.mem_cons_of_mem _ (List.mem_append_left _ (List.mem_append_left _ (List.mem_of_getElem? (i := 3) rfl))))
  have hw5 : (Cond.fieldLink RJx35411 13 "java/util/ArrayList$Itr" "lastRet" "I").before _ s = true := hts _ (List.mem_cons_of_mem _ (List.mem_append_left _ (List.mem_append_left _ (List.mem_of_getElem? (i := 4) rfl))))
  have hw6 : (Cond.fieldLink RJx35411 17 "java/util/ArrayList" "modCount" "I").before _ s = true := hts _ (List.mem_cons_of_mem _ (List.mem_append_left _ (List.mem_append_left _ (List.mem_of_getElem? (i := 5) rfl))))
  have hiJx4a65c : ∀ w ∈ u_ws RJx4a65c TJx4a65c 3, w ∈ wsJx35411_init_45d68 := fun _ h => List.mem_cons_of_mem _ (List.mem_append_right _ (h))
  have hw8 : (Cond.sameField "java/util/ArrayList" "java/util/AbstractList" "modCount" "I").before _ s = true := hts _ (List.mem_cons_of_mem _ (List.mem_append_left _ (List.mem_append_left _ (List.mem_of_getElem? (i := 6) rfl))))
  have hw9 : (Cond.fieldLink RJx35411 22 "java/util/ArrayList$Itr" "expectedModCount" "I").before _ s = true := hts _ (List.mem_cons_of_mem _ (List.mem_append_left _ (List.mem_append_left _ (List.mem_of_getElem? (i := 7) rfl))))
  have hl := lv_entry ([.ref it, .ref q0]) (n := 2) (Nat.le_of_ble_eq_true rfl)
  rw [lg_entry_eq]
  generalize (lg_sl ([.ref it, .ref q0]) ++ List.replicate (2 - (lg_sl ([.ref it, .ref q0])).length) Slot.unset).toArray = ls at hl ⊢
  have hl : lv_has ls 2 [(0, .ref it), (1, .ref q0)] := hl
  refine lv_aload_n hx hb dJx35411_init_45d68_0 rfl (lv_at hl 0 rfl) ?_
  refine lv_aload_n hx hb dJx35411_init_45d68_1 rfl (lv_at hl 1 rfl) ?_
  refine va_putF (D := (dC, dI)) (ci := 2) (v := .ref q0) (ty := .object "java/util/ArrayList") (C := RJx35411) (T := TJx35411) (N := 4) hx hb hts hiJx35411 tyJx35411 tyJx35411_ok nmJx35411 hown hK hP hD hS 0 rfl rfl 3 (by decide) (hw0) (fun _ h9 => h9) rfl hin rfl (by decide +kernel) rfl rfl (Nat.le_of_ble_eq_true rfl) dJx35411_init_45d68_2 (fun H locs hP hD hS => ?_)
  have hP : va_P (dC, dI) vwCl [(it, .inr (2, [.int 0, .int 0, .int 0, .ref q0])), (q0, .inr (3, [.int md, .ref q1, .int z]))] H := hP
  have hD : va_D A [(it, .inr (2, [.int 0, .int 0, .int 0, .ref q0])), (q0, .inr (3, [.int md, .ref q1, .int z]))] := hD
  refine lv_aload_n hx hb dJx35411_init_45d68_5 rfl (lv_at hl 0 rfl) ?_
  refine W.objInit hx hb hown hw2 hw3 hw4 rfl (by rw [hml]; exact hl.1) rfl dJx35411_init_45d68_6 (Nat.le_of_ble_eq_true rfl) (Nat.le_of_ble_eq_true rfl) ?_
  refine W.eq (g2 := F0 m 9 ls []) rfl ?_
  refine lv_aload_n hx hb dJx35411_init_45d68_9 rfl (lv_at hl 0 rfl) ?_
  refine lv_iconst (v := (-1)) hx hb dJx35411_init_45d68_10 (by decide) ?_
  refine va_put (D := (dC, dI)) (ci := 2) (v := .int (-1)) (ty := .int) (C := RJx35411) (T := TJx35411) (N := 4) hx hb hts hiJx35411 tyJx35411 tyJx35411_ok nmJx35411 hown hK hP hD hS 0 rfl rfl 1 (by decide) (hw5) (fun _ h9 => h9) rfl (by decide +kernel) rfl rfl (Nat.le_of_ble_eq_true rfl) dJx35411_init_45d68_11 (fun H locs hP hD hS => ?_)
  have hP : va_P (dC, dI) vwCl [(it, .inr (2, [.int 0, .int (-1), .int 0, .ref q0])), (q0, .inr (3, [.int md, .ref q1, .int z]))] H := hP
  have hD : va_D A [(it, .inr (2, [.int 0, .int (-1), .int 0, .ref q0])), (q0, .inr (3, [.int md, .ref q1, .int z]))] := hD
  refine lv_aload_n hx hb dJx35411_init_45d68_14 rfl (lv_at hl 0 rfl) ?_
  refine lv_aload_n hx hb dJx35411_init_45d68_15 rfl (lv_at hl 0 rfl) ?_
  refine va_get (D := (dC, dI)) (ci := 2) (v := .ref q0) (C := RJx35411) (T := TJx35411) (N := 4) hx hb hts hiJx35411 hown hK hP 0 rfl rfl 3 (by decide) (hw0) (fun _ h9 => h9) rfl dJx35411_init_45d68_16 ?_
  refine va_get (D := (dC, dI)) (ci := 3) (v := .int md) (C := RJx4a65c) (T := TJx4a65c) (N := 3) hx hb hts hiJx4a65c hown hK hP 1 rfl rfl 0 (by decide) (hw6) (fun x9 h9 => u_same (hw8) x9 h9) rfl dJx35411_init_45d68_19 ?_
  refine va_put (D := (dC, dI)) (ci := 2) (v := .int md) (ty := .int) (C := RJx35411) (T := TJx35411) (N := 4) hx hb hts hiJx35411 tyJx35411 tyJx35411_ok nmJx35411 hown hK hP hD hS 0 rfl rfl 2 (by decide) (hw9) (fun _ h9 => h9) rfl (by decide +kernel) rfl rfl (Nat.le_of_ble_eq_true rfl) dJx35411_init_45d68_22 (fun H locs hP hD hS => ?_)
  have hP : va_P (dC, dI) vwCl [(it, .inr (2, [.int 0, .int (-1), .int md, .ref q0])), (q0, .inr (3, [.int md, .ref q1, .int z]))] H := hP
  have hD : va_D A [(it, .inr (2, [.int 0, .int (-1), .int md, .ref q0])), (q0, .inr (3, [.int md, .ref q1, .int z]))] := hD
  have hP9 := hP.sub (ws' := [(it, .inr (2, [.int 0, .int (-1), .int md, .ref q0])), (q0, .inr (3, [.int md, .ref q1, .int z]))]) [0, 1] rfl
  have hD9 := hD.sub (ws' := [(it, .inr (2, [.int 0, .int (-1), .int md, .ref q0])), (q0, .inr (3, [.int md, .ref q1, .int z]))]) [0, 1] (by decide) rfl
  have hK9 := hK.sub (tys' := []) [] rfl
  exact W.vret hx hb hr (fun t ht hW => ⟨⟨(), rfl, trivial, wOut_at ht hW hP9 hK9 hD9⟩, hS.F ht⟩) hS.2.2 dJx35411_init_45d68_25

set_option maxHeartbeats 4000000 in
set_option maxRecDepth 100000 in
theorem c_Jx4a65c_iterator_32c93 (l : Launch) (dC : Nat → ClassId) (dI : Nat → Nat → Nat) (g : Nat × Nat × Nat) (q0 : Nat) (q1 : Nat) (md : Int32) (z : Int32) (sz : Nat) : Met l yJx4a65c_iterator_32c93 wsJx4a65c_iterator_32c93 ({ frames := 2, cells := 1, slots := 4, locals := 41 } : Room) (va_Pc [.ref q0] (wIn dC dI g [(q0, .inr (3, [.int md, .ref q1, .int z]))] [] sz)) (va_Qr (fun (u : Nat) => True) (fun (u : Nat) (ra : Nat) (t : State) => ra = u ∧ wOut dC dI [(u, .inr (2, [.int 0, .int (-1), .int md, .ref q0])), (q0, .inr (3, [.int md, .ref q1, .int z]))] [] (va_A [(q0, .inr (3, [.int md, .ref q1, .int z]))] sz) t) (va_A [(q0, .inr (3, [.int md, .ref q1, .int z]))] sz)) 1 4 (va_A [(q0, .inr (3, [.int md, .ref q1, .int z]))] sz) := by
  refine Met.ofW (cc := cJx4a65c_iterator_32c93) (maxL := 1) (ret := (some (.object "java/util/Iterator"))) (by decide) rfl ?_
  intro p e s m args below meth c s₁ B hml hv
  obtain ⟨rfl, hsz, hP, hK, hD0, hG⟩ := hv
  have hx := B.exec
  have hb := B.bytes
  have hr := B.returns
  have hts := atoms_spec (ws := wsJx4a65c_iterator_32c93) B.pre
  have hown : s.vm.findClass RJx4a65c = some m.cls := findClass_of_methodNamed B.named
  have hlocks := B.notSynchronized
  subst hsz
  have hD := hD0.self (sz := s.heap.size)
  generalize hAe : va_A [(q0, .inr (3, [.int md, .ref q1, .int z]))] s.heap.size = A at hD hG ⊢
  have hN := hG.1
  have hA : ∀ q : Nat, s.heap.size ≤ q → A q := fun q h => by rw [← hAe]; exact Or.inr h
  have hS : va_S A s.heap s.heap [] := va_S.rf
  have hP : va_P (dC, dI) vwCl [(q0, .inr (3, [.int md, .ref q1, .int z]))] s.heap := hP
  have hiJx35411 : ∀ w ∈ u_ws RJx35411 TJx35411 4, w ∈ wsJx4a65c_iterator_32c93 := fun _ h => List.mem_cons_of_mem _ (List.mem_append_left _ (List.mem_append_right _ (h)))
  have hw1 : (Cond.classLink RJx4a65c 267 RJx35411).before _ s = true := hts _ (List.mem_cons_of_mem _ (List.mem_append_left _ (List.mem_append_left _ (List.mem_of_getElem? (i := 0) rfl))))
  have hw2 : (Cond.instantiable RJx35411 4).before _ s = true := hts _ (List.mem_cons_of_mem _ (List.mem_append_left _ (List.mem_append_left _ (List.mem_of_getElem? (i := 1) rfl))))
  have hw3 : (Cond.initialized RJx35411).before _ s = true := hts _ (List.mem_cons_of_mem _ (List.mem_append_left _ (List.mem_append_left _ (List.mem_of_getElem? (i := 2) rfl))))
  have hw4 : (Cond.methodLink RJx4a65c 269 yJx35411_init_45d68).before _ s = true := hts _ (List.mem_cons_of_mem _ (List.mem_append_left _ (List.mem_append_left _ (List.mem_of_getElem? (i := 3) rfl))))
  have hw5 : (Cond.instanceMethod yJx35411_init_45d68).before _ s = true := hts _ (List.mem_cons_of_mem _ (List.mem_append_left _ (List.mem_append_left _ (List.mem_of_getElem? (i := 4) rfl))))
  have hl := lv_entry ([.ref q0]) (n := 1) (Nat.le_of_ble_eq_true rfl)
  rw [lg_entry_eq]
  generalize (lg_sl ([.ref q0]) ++ List.replicate (1 - (lg_sl ([.ref q0])).length) Slot.unset).toArray = ls at hl ⊢
  have hl : lv_has ls 1 [(0, .ref q0)] := hl
  refine va_new (ci := 2) (fs := [.int 0, .int 0, .int 0, .null]) (C := RJx35411) (T := TJx35411) (N := 4) hx hb hts hiJx35411 tyJx35411 tyJx35411_ok hown hw1 hw2 hw3 hK hP hD hS hA rfl (fun j hj => by rcases (show j = 0 ∨ j = 1 ∨ j = 2 ∨ j = 3 by omega) with rfl | rfl | rfl | rfl <;> rfl) (Nat.le_of_ble_eq_true rfl) (Nat.le_of_ble_eq_true rfl) dJx4a65c_iterator_32c93_0 (fun q_1 H hP hD hS => ?_)
  have hP : va_P (dC, dI) vwCl [(q0, .inr (3, [.int md, .ref q1, .int z])), (q_1, .inr (2, [.int 0, .int 0, .int 0, .null]))] H := hP
  have hD : va_D A [(q0, .inr (3, [.int md, .ref q1, .int z])), (q_1, .inr (2, [.int 0, .int 0, .int 0, .null]))] := hD
  refine W.widen (k := 1) (n := 4) (Nat.le_of_ble_eq_true rfl) (Nat.le_of_ble_eq_true rfl) ?_
  refine lv_dup hx hb dJx4a65c_iterator_32c93_3 rfl ?_
  refine lv_aload_n hx hb dJx4a65c_iterator_32c93_4 rfl (lv_at hl 0 rfl) ?_
  have hPc := hP.sub (ws' := [(q_1, .inr (2, [.int 0, .int 0, .int 0, .null])), (q0, .inr (3, [.int md, .ref q1, .int z]))]) [1, 0] rfl
  have hDc := hD.sub (ws' := [(q_1, .inr (2, [.int 0, .int 0, .int 0, .null])), (q0, .inr (3, [.int md, .ref q1, .int z]))]) [1, 0] (by decide) rfl
  have hKc := hK.sub (tys' := []) [] rfl
  have hFc := va_free (wc := [(q_1, .inr (2, [.int 0, .int 0, .int 0, .null])), (q0, .inr (3, [.int md, .ref q1, .int z]))]) hD hS hA [1, 0] rfl
  refine va_callv (va_runI (As := [.ref q0]) (rest := [.ref q_1]) ⟨hx, hb, hml, hown, hts⟩ (c_Jx35411_init_45d68 l dC dI g q_1 q0 q1 md z H.size) (cwI 1 hts gJx4a65c_iterator_32c93_Jx35411_init_45d68 rfl rfl rfl hw3 hw4 hw5 rfl (by decide +kernel) ⟨Nat.le_of_ble_eq_true rfl, Nat.le_of_ble_eq_true rfl⟩) ⟨wIn_blind, wIn_at hPc hKc hDc hG hS hFc⟩ rfl rfl hl.1 rfl (lv_room (Nat.le_of_ble_eq_true rfl)) dJx4a65c_iterator_32c93_5 ⟨Nat.le_of_ble_eq_true rfl, Nat.le_of_ble_eq_true rfl⟩) hS (fun q _ h => hFc q h) hFc (fun u t H1 locs ht hvm hw hB hz1 hk1 hS => ?_)
  obtain ⟨hP1, hK1, hD1⟩ := hB
  rw [ht] at hP1
  obtain ⟨hP, hD⟩ := va_join (wr := []) (w1 := [(q_1, .inr (2, [.int 0, .int (-1), .int md, .ref q0])), (q0, .inr (3, [.int md, .ref q1, .int z]))]) hP hD [1, 0] [] rfl rfl (by decide) (by decide) hk1 hFc hP1 hD1
  generalize H1 = H at hP hS ⊢
  have hP : va_P (dC, dI) vwCl [(q_1, .inr (2, [.int 0, .int (-1), .int md, .ref q0])), (q0, .inr (3, [.int md, .ref q1, .int z]))] H := hP
  have hD : va_D A [(q_1, .inr (2, [.int 0, .int (-1), .int md, .ref q0])), (q0, .inr (3, [.int md, .ref q1, .int z]))] := hD
  have hP9 := hP.sub (ws' := [(q_1, .inr (2, [.int 0, .int (-1), .int md, .ref q0])), (q0, .inr (3, [.int md, .ref q1, .int z]))]) [0, 1] rfl
  have hD9 := hD.sub (ws' := [(q_1, .inr (2, [.int 0, .int (-1), .int md, .ref q0])), (q0, .inr (3, [.int md, .ref q1, .int z]))]) [0, 1] (by decide) rfl
  have hK9 := hK.sub (tys' := []) [] rfl
  exact W.aret (v := .ref q_1) hx hb hr (Or.inl ⟨_, rfl⟩) (Or.inr ⟨_, rfl⟩) (fun t ht hW => ⟨⟨q_1, q_1, rfl, trivial, rfl, wOut_at ht hW hP9 hK9 hD9⟩, hS.F ht⟩) hS.2.2 dJx4a65c_iterator_32c93_8

set_option maxHeartbeats 4000000 in
set_option maxRecDepth 100000 in
theorem c_Jx35411_hasNext_aae02_0 (l : Launch) (dC : Nat → ClassId) (dI : Nat → Nat → Nat) (g : Nat × Nat × Nat) (it : Nat) (q0 : Nat) (q1 : Nat) (md : Int32) (la : Int32) (me : Int32) (sz : Nat) : Met l yJx35411_hasNext_aae02 wsJx35411_hasNext_aae02 ({ frames := 0, cells := 0, slots := 0, locals := 0 } : Room) (va_Pc [.ref it] (wIn dC dI g [(it, .inr (2, [.int 0, .int la, .int me, .ref q0])), (q0, .inr (3, [.int md, .ref q1, .int 4]))] [] sz)) (va_Qi (fun (r : Int32) (u : Unit) => r = 1) (fun (u : Unit) (t : State) => wOut dC dI [(it, .inr (2, [.int 0, .int la, .int me, .ref q0])), (q0, .inr (3, [.int md, .ref q1, .int 4]))] [] (va_A [(it, .inr (2, [.int 0, .int la, .int me, .ref q0])), (q0, .inr (3, [.int md, .ref q1, .int 4]))] sz) t) (va_A [(it, .inr (2, [.int 0, .int la, .int me, .ref q0])), (q0, .inr (3, [.int md, .ref q1, .int 4]))] sz)) 0 0 (va_A [(it, .inr (2, [.int 0, .int la, .int me, .ref q0])), (q0, .inr (3, [.int md, .ref q1, .int 4]))] sz) := by
  refine Met.ofW (cc := cJx35411_hasNext_aae02) (maxL := 1) (ret := (some .boolean)) (by decide) rfl ?_
  intro p e s m args below meth c s₁ B hml hv
  obtain ⟨rfl, hsz, hP, hK, hD0, hG⟩ := hv
  have hx := B.exec
  have hb := B.bytes
  have hr := B.returns
  have hts := atoms_spec (ws := wsJx35411_hasNext_aae02) B.pre
  have hown : s.vm.findClass RJx35411 = some m.cls := findClass_of_methodNamed B.named
  have hlocks := B.notSynchronized
  subst hsz
  have hD := hD0.self (sz := s.heap.size)
  generalize hAe : va_A [(it, .inr (2, [.int 0, .int la, .int me, .ref q0])), (q0, .inr (3, [.int md, .ref q1, .int 4]))] s.heap.size = A at hD hG ⊢
  have hN := hG.1
  have hA : ∀ q : Nat, s.heap.size ≤ q → A q := fun q h => by rw [← hAe]; exact Or.inr h
  have hS : va_S A s.heap s.heap [] := va_S.rf
  have hP : va_P (dC, dI) vwCl [(it, .inr (2, [.int 0, .int la, .int me, .ref q0])), (q0, .inr (3, [.int md, .ref q1, .int 4]))] s.heap := hP
  have hw0 : (Cond.fieldLink RJx35411 25 "java/util/ArrayList$Itr" "cursor" "I").before _ s = true := hts _ (List.mem_cons_of_mem _ (List.mem_append_left _ (List.mem_append_left _ (List.mem_of_getElem? (i := 0) rfl))))
  have hiJx35411 : ∀ w ∈ u_ws RJx35411 TJx35411 4, w ∈ wsJx35411_hasNext_aae02 := fun _ h => List.mem_cons_of_mem _ (List.mem_append_left _ (List.mem_append_right _ (h)))
  have hw2 : (Cond.fieldLink RJx35411 1 "java/util/ArrayList$Itr" "this$0" "Ljava/util/ArrayList;").before _ s = true := hts _ (List.mem_cons_of_mem _ (List.mem_append_left _ (List.mem_append_left _ (List.mem_of_getElem? (i := 1) rfl))))
  have hiJx4a65c : ∀ w ∈ u_ws RJx4a65c TJx4a65c 3, w ∈ wsJx35411_hasNext_aae02 := fun _ h => List.mem_cons_of_mem _ (List.mem_append_right _ (h))
  have hl := lv_entry ([.ref it]) (n := 1) (Nat.le_of_ble_eq_true rfl)
  rw [lg_entry_eq]
  generalize (lg_sl ([.ref it]) ++ List.replicate (1 - (lg_sl ([.ref it])).length) Slot.unset).toArray = ls at hl ⊢
  have hl : lv_has ls 1 [(0, .ref it)] := hl
  refine lv_aload_n hx hb dJx35411_hasNext_aae02_0 rfl (lv_at hl 0 rfl) ?_
  refine va_get (D := (dC, dI)) (ci := 2) (v := .int 0) (C := RJx35411) (T := TJx35411) (N := 4) hx hb hts hiJx35411 hown hK hP 0 rfl rfl 0 (by decide) (hw0) (fun _ h9 => h9) rfl dJx35411_hasNext_aae02_1 ?_
  refine lv_aload_n hx hb dJx35411_hasNext_aae02_4 rfl (lv_at hl 0 rfl) ?_
  refine va_get (D := (dC, dI)) (ci := 2) (v := .ref q0) (C := RJx35411) (T := TJx35411) (N := 4) hx hb hts hiJx35411 hown hK hP 0 rfl rfl 3 (by decide) (hw2) (fun _ h9 => h9) rfl dJx35411_hasNext_aae02_5 ?_
  refine va_getN (D := (dC, dI)) (ci := 3) (v := .int 4) (C := RJx4a65c) (T := TJx4a65c) (N := 3) hx hb hts hiJx4a65c hown hK hP 1 rfl rfl 2 (by decide) (va_Nw.use rfl (hN _ (List.mem_of_getElem? (i := 49) rfl))) (fun _ h9 => h9) rfl dJx35411_hasNext_aae02_8 ?_
  refine lv_icmp_eq (tgt := 18) hx hb dJx35411_hasNext_aae02_11 (by decide) (fun c => absurd c (by decide)) (fun _ => ?_)
  refine lv_iconst (v := 1) hx hb dJx35411_hasNext_aae02_14 (by decide) ?_
  refine lv_goto (tgt := 19) hx hb dJx35411_hasNext_aae02_15 (by decide) ?_
  have hP9 := hP.sub (ws' := [(it, .inr (2, [.int 0, .int la, .int me, .ref q0])), (q0, .inr (3, [.int md, .ref q1, .int 4]))]) [0, 1] rfl
  have hD9 := hD.sub (ws' := [(it, .inr (2, [.int 0, .int la, .int me, .ref q0])), (q0, .inr (3, [.int md, .ref q1, .int 4]))]) [0, 1] (by decide) rfl
  have hK9 := hK.sub (tys' := []) [] rfl
  exact W.zret (v := 1) hx hb hr (by first | rfl | decide) (fun t ht hW => ⟨⟨1, (), rfl, rfl, wOut_at ht hW hP9 hK9 hD9⟩, hS.F ht⟩) hS.2.2 dJx35411_hasNext_aae02_19

set_option maxHeartbeats 4000000 in
set_option maxRecDepth 100000 in
theorem c_Jx35411_hasNext_aae02_1 (l : Launch) (dC : Nat → ClassId) (dI : Nat → Nat → Nat) (g : Nat × Nat × Nat) (it : Nat) (q0 : Nat) (q1 : Nat) (md : Int32) (la : Int32) (me : Int32) (sz : Nat) : Met l yJx35411_hasNext_aae02 wsJx35411_hasNext_aae02 ({ frames := 0, cells := 0, slots := 0, locals := 0 } : Room) (va_Pc [.ref it] (wIn dC dI g [(it, .inr (2, [.int 1, .int la, .int me, .ref q0])), (q0, .inr (3, [.int md, .ref q1, .int 4]))] [] sz)) (va_Qi (fun (r : Int32) (u : Unit) => r = 1) (fun (u : Unit) (t : State) => wOut dC dI [(it, .inr (2, [.int 1, .int la, .int me, .ref q0])), (q0, .inr (3, [.int md, .ref q1, .int 4]))] [] (va_A [(it, .inr (2, [.int 1, .int la, .int me, .ref q0])), (q0, .inr (3, [.int md, .ref q1, .int 4]))] sz) t) (va_A [(it, .inr (2, [.int 1, .int la, .int me, .ref q0])), (q0, .inr (3, [.int md, .ref q1, .int 4]))] sz)) 0 0 (va_A [(it, .inr (2, [.int 1, .int la, .int me, .ref q0])), (q0, .inr (3, [.int md, .ref q1, .int 4]))] sz) := by
  refine Met.ofW (cc := cJx35411_hasNext_aae02) (maxL := 1) (ret := (some .boolean)) (by decide) rfl ?_
  intro p e s m args below meth c s₁ B hml hv
  obtain ⟨rfl, hsz, hP, hK, hD0, hG⟩ := hv
  have hx := B.exec
  have hb := B.bytes
  have hr := B.returns
  have hts := atoms_spec (ws := wsJx35411_hasNext_aae02) B.pre
  have hown : s.vm.findClass RJx35411 = some m.cls := findClass_of_methodNamed B.named
  have hlocks := B.notSynchronized
  subst hsz
  have hD := hD0.self (sz := s.heap.size)
  generalize hAe : va_A [(it, .inr (2, [.int 1, .int la, .int me, .ref q0])), (q0, .inr (3, [.int md, .ref q1, .int 4]))] s.heap.size = A at hD hG ⊢
  have hN := hG.1
  have hA : ∀ q : Nat, s.heap.size ≤ q → A q := fun q h => by rw [← hAe]; exact Or.inr h
  have hS : va_S A s.heap s.heap [] := va_S.rf
  have hP : va_P (dC, dI) vwCl [(it, .inr (2, [.int 1, .int la, .int me, .ref q0])), (q0, .inr (3, [.int md, .ref q1, .int 4]))] s.heap := hP
  have hw0 : (Cond.fieldLink RJx35411 25 "java/util/ArrayList$Itr" "cursor" "I").before _ s = true := hts _ (List.mem_cons_of_mem _ (List.mem_append_left _ (List.mem_append_left _ (List.mem_of_getElem? (i := 0) rfl))))
  have hiJx35411 : ∀ w ∈ u_ws RJx35411 TJx35411 4, w ∈ wsJx35411_hasNext_aae02 := fun _ h => List.mem_cons_of_mem _ (List.mem_append_left _ (List.mem_append_right _ (h)))
  have hw2 : (Cond.fieldLink RJx35411 1 "java/util/ArrayList$Itr" "this$0" "Ljava/util/ArrayList;").before _ s = true := hts _ (List.mem_cons_of_mem _ (List.mem_append_left _ (List.mem_append_left _ (List.mem_of_getElem? (i := 1) rfl))))
  have hiJx4a65c : ∀ w ∈ u_ws RJx4a65c TJx4a65c 3, w ∈ wsJx35411_hasNext_aae02 := fun _ h => List.mem_cons_of_mem _ (List.mem_append_right _ (h))
  have hl := lv_entry ([.ref it]) (n := 1) (Nat.le_of_ble_eq_true rfl)
  rw [lg_entry_eq]
  generalize (lg_sl ([.ref it]) ++ List.replicate (1 - (lg_sl ([.ref it])).length) Slot.unset).toArray = ls at hl ⊢
  have hl : lv_has ls 1 [(0, .ref it)] := hl
  refine lv_aload_n hx hb dJx35411_hasNext_aae02_0 rfl (lv_at hl 0 rfl) ?_
  refine va_get (D := (dC, dI)) (ci := 2) (v := .int 1) (C := RJx35411) (T := TJx35411) (N := 4) hx hb hts hiJx35411 hown hK hP 0 rfl rfl 0 (by decide) (hw0) (fun _ h9 => h9) rfl dJx35411_hasNext_aae02_1 ?_
  refine lv_aload_n hx hb dJx35411_hasNext_aae02_4 rfl (lv_at hl 0 rfl) ?_
  refine va_get (D := (dC, dI)) (ci := 2) (v := .ref q0) (C := RJx35411) (T := TJx35411) (N := 4) hx hb hts hiJx35411 hown hK hP 0 rfl rfl 3 (by decide) (hw2) (fun _ h9 => h9) rfl dJx35411_hasNext_aae02_5 ?_
  refine va_getN (D := (dC, dI)) (ci := 3) (v := .int 4) (C := RJx4a65c) (T := TJx4a65c) (N := 3) hx hb hts hiJx4a65c hown hK hP 1 rfl rfl 2 (by decide) (va_Nw.use rfl (hN _ (List.mem_of_getElem? (i := 49) rfl))) (fun _ h9 => h9) rfl dJx35411_hasNext_aae02_8 ?_
  refine lv_icmp_eq (tgt := 18) hx hb dJx35411_hasNext_aae02_11 (by decide) (fun c => absurd c (by decide)) (fun _ => ?_)
  refine lv_iconst (v := 1) hx hb dJx35411_hasNext_aae02_14 (by decide) ?_
  refine lv_goto (tgt := 19) hx hb dJx35411_hasNext_aae02_15 (by decide) ?_
  have hP9 := hP.sub (ws' := [(it, .inr (2, [.int 1, .int la, .int me, .ref q0])), (q0, .inr (3, [.int md, .ref q1, .int 4]))]) [0, 1] rfl
  have hD9 := hD.sub (ws' := [(it, .inr (2, [.int 1, .int la, .int me, .ref q0])), (q0, .inr (3, [.int md, .ref q1, .int 4]))]) [0, 1] (by decide) rfl
  have hK9 := hK.sub (tys' := []) [] rfl
  exact W.zret (v := 1) hx hb hr (by first | rfl | decide) (fun t ht hW => ⟨⟨1, (), rfl, rfl, wOut_at ht hW hP9 hK9 hD9⟩, hS.F ht⟩) hS.2.2 dJx35411_hasNext_aae02_19

set_option maxHeartbeats 4000000 in
set_option maxRecDepth 100000 in
theorem c_Jx35411_hasNext_aae02_2 (l : Launch) (dC : Nat → ClassId) (dI : Nat → Nat → Nat) (g : Nat × Nat × Nat) (it : Nat) (q0 : Nat) (q1 : Nat) (md : Int32) (la : Int32) (me : Int32) (sz : Nat) : Met l yJx35411_hasNext_aae02 wsJx35411_hasNext_aae02 ({ frames := 0, cells := 0, slots := 0, locals := 0 } : Room) (va_Pc [.ref it] (wIn dC dI g [(it, .inr (2, [.int 2, .int la, .int me, .ref q0])), (q0, .inr (3, [.int md, .ref q1, .int 4]))] [] sz)) (va_Qi (fun (r : Int32) (u : Unit) => r = 1) (fun (u : Unit) (t : State) => wOut dC dI [(it, .inr (2, [.int 2, .int la, .int me, .ref q0])), (q0, .inr (3, [.int md, .ref q1, .int 4]))] [] (va_A [(it, .inr (2, [.int 2, .int la, .int me, .ref q0])), (q0, .inr (3, [.int md, .ref q1, .int 4]))] sz) t) (va_A [(it, .inr (2, [.int 2, .int la, .int me, .ref q0])), (q0, .inr (3, [.int md, .ref q1, .int 4]))] sz)) 0 0 (va_A [(it, .inr (2, [.int 2, .int la, .int me, .ref q0])), (q0, .inr (3, [.int md, .ref q1, .int 4]))] sz) := by
  refine Met.ofW (cc := cJx35411_hasNext_aae02) (maxL := 1) (ret := (some .boolean)) (by decide) rfl ?_
  intro p e s m args below meth c s₁ B hml hv
  obtain ⟨rfl, hsz, hP, hK, hD0, hG⟩ := hv
  have hx := B.exec
  have hb := B.bytes
  have hr := B.returns
  have hts := atoms_spec (ws := wsJx35411_hasNext_aae02) B.pre
  have hown : s.vm.findClass RJx35411 = some m.cls := findClass_of_methodNamed B.named
  have hlocks := B.notSynchronized
  subst hsz
  have hD := hD0.self (sz := s.heap.size)
  generalize hAe : va_A [(it, .inr (2, [.int 2, .int la, .int me, .ref q0])), (q0, .inr (3, [.int md, .ref q1, .int 4]))] s.heap.size = A at hD hG ⊢
  have hN := hG.1
  have hA : ∀ q : Nat, s.heap.size ≤ q → A q := fun q h => by rw [← hAe]; exact Or.inr h
  have hS : va_S A s.heap s.heap [] := va_S.rf
  have hP : va_P (dC, dI) vwCl [(it, .inr (2, [.int 2, .int la, .int me, .ref q0])), (q0, .inr (3, [.int md, .ref q1, .int 4]))] s.heap := hP
  have hw0 : (Cond.fieldLink RJx35411 25 "java/util/ArrayList$Itr" "cursor" "I").before _ s = true := hts _ (List.mem_cons_of_mem _ (List.mem_append_left _ (List.mem_append_left _ (List.mem_of_getElem? (i := 0) rfl))))
  have hiJx35411 : ∀ w ∈ u_ws RJx35411 TJx35411 4, w ∈ wsJx35411_hasNext_aae02 := fun _ h => List.mem_cons_of_mem _ (List.mem_append_left _ (List.mem_append_right _ (h)))
  have hw2 : (Cond.fieldLink RJx35411 1 "java/util/ArrayList$Itr" "this$0" "Ljava/util/ArrayList;").before _ s = true := hts _ (List.mem_cons_of_mem _ (List.mem_append_left _ (List.mem_append_left _ (List.mem_of_getElem? (i := 1) rfl))))
  have hiJx4a65c : ∀ w ∈ u_ws RJx4a65c TJx4a65c 3, w ∈ wsJx35411_hasNext_aae02 := fun _ h => List.mem_cons_of_mem _ (List.mem_append_right _ (h))
  have hl := lv_entry ([.ref it]) (n := 1) (Nat.le_of_ble_eq_true rfl)
  rw [lg_entry_eq]
  generalize (lg_sl ([.ref it]) ++ List.replicate (1 - (lg_sl ([.ref it])).length) Slot.unset).toArray = ls at hl ⊢
  have hl : lv_has ls 1 [(0, .ref it)] := hl
  refine lv_aload_n hx hb dJx35411_hasNext_aae02_0 rfl (lv_at hl 0 rfl) ?_
  refine va_get (D := (dC, dI)) (ci := 2) (v := .int 2) (C := RJx35411) (T := TJx35411) (N := 4) hx hb hts hiJx35411 hown hK hP 0 rfl rfl 0 (by decide) (hw0) (fun _ h9 => h9) rfl dJx35411_hasNext_aae02_1 ?_
  refine lv_aload_n hx hb dJx35411_hasNext_aae02_4 rfl (lv_at hl 0 rfl) ?_
  refine va_get (D := (dC, dI)) (ci := 2) (v := .ref q0) (C := RJx35411) (T := TJx35411) (N := 4) hx hb hts hiJx35411 hown hK hP 0 rfl rfl 3 (by decide) (hw2) (fun _ h9 => h9) rfl dJx35411_hasNext_aae02_5 ?_
  refine va_getN (D := (dC, dI)) (ci := 3) (v := .int 4) (C := RJx4a65c) (T := TJx4a65c) (N := 3) hx hb hts hiJx4a65c hown hK hP 1 rfl rfl 2 (by decide) (va_Nw.use rfl (hN _ (List.mem_of_getElem? (i := 49) rfl))) (fun _ h9 => h9) rfl dJx35411_hasNext_aae02_8 ?_
  refine lv_icmp_eq (tgt := 18) hx hb dJx35411_hasNext_aae02_11 (by decide) (fun c => absurd c (by decide)) (fun _ => ?_)
  refine lv_iconst (v := 1) hx hb dJx35411_hasNext_aae02_14 (by decide) ?_
  refine lv_goto (tgt := 19) hx hb dJx35411_hasNext_aae02_15 (by decide) ?_
  have hP9 := hP.sub (ws' := [(it, .inr (2, [.int 2, .int la, .int me, .ref q0])), (q0, .inr (3, [.int md, .ref q1, .int 4]))]) [0, 1] rfl
  have hD9 := hD.sub (ws' := [(it, .inr (2, [.int 2, .int la, .int me, .ref q0])), (q0, .inr (3, [.int md, .ref q1, .int 4]))]) [0, 1] (by decide) rfl
  have hK9 := hK.sub (tys' := []) [] rfl
  exact W.zret (v := 1) hx hb hr (by first | rfl | decide) (fun t ht hW => ⟨⟨1, (), rfl, rfl, wOut_at ht hW hP9 hK9 hD9⟩, hS.F ht⟩) hS.2.2 dJx35411_hasNext_aae02_19

set_option maxHeartbeats 4000000 in
set_option maxRecDepth 100000 in
theorem c_Jx35411_hasNext_aae02_3 (l : Launch) (dC : Nat → ClassId) (dI : Nat → Nat → Nat) (g : Nat × Nat × Nat) (it : Nat) (q0 : Nat) (q1 : Nat) (md : Int32) (la : Int32) (me : Int32) (sz : Nat) : Met l yJx35411_hasNext_aae02 wsJx35411_hasNext_aae02 ({ frames := 0, cells := 0, slots := 0, locals := 0 } : Room) (va_Pc [.ref it] (wIn dC dI g [(it, .inr (2, [.int 3, .int la, .int me, .ref q0])), (q0, .inr (3, [.int md, .ref q1, .int 4]))] [] sz)) (va_Qi (fun (r : Int32) (u : Unit) => r = 1) (fun (u : Unit) (t : State) => wOut dC dI [(it, .inr (2, [.int 3, .int la, .int me, .ref q0])), (q0, .inr (3, [.int md, .ref q1, .int 4]))] [] (va_A [(it, .inr (2, [.int 3, .int la, .int me, .ref q0])), (q0, .inr (3, [.int md, .ref q1, .int 4]))] sz) t) (va_A [(it, .inr (2, [.int 3, .int la, .int me, .ref q0])), (q0, .inr (3, [.int md, .ref q1, .int 4]))] sz)) 0 0 (va_A [(it, .inr (2, [.int 3, .int la, .int me, .ref q0])), (q0, .inr (3, [.int md, .ref q1, .int 4]))] sz) := by
  refine Met.ofW (cc := cJx35411_hasNext_aae02) (maxL := 1) (ret := (some .boolean)) (by decide) rfl ?_
  intro p e s m args below meth c s₁ B hml hv
  obtain ⟨rfl, hsz, hP, hK, hD0, hG⟩ := hv
  have hx := B.exec
  have hb := B.bytes
  have hr := B.returns
  have hts := atoms_spec (ws := wsJx35411_hasNext_aae02) B.pre
  have hown : s.vm.findClass RJx35411 = some m.cls := findClass_of_methodNamed B.named
  have hlocks := B.notSynchronized
  subst hsz
  have hD := hD0.self (sz := s.heap.size)
  generalize hAe : va_A [(it, .inr (2, [.int 3, .int la, .int me, .ref q0])), (q0, .inr (3, [.int md, .ref q1, .int 4]))] s.heap.size = A at hD hG ⊢
  have hN := hG.1
  have hA : ∀ q : Nat, s.heap.size ≤ q → A q := fun q h => by rw [← hAe]; exact Or.inr h
  have hS : va_S A s.heap s.heap [] := va_S.rf
  have hP : va_P (dC, dI) vwCl [(it, .inr (2, [.int 3, .int la, .int me, .ref q0])), (q0, .inr (3, [.int md, .ref q1, .int 4]))] s.heap := hP
  have hw0 : (Cond.fieldLink RJx35411 25 "java/util/ArrayList$Itr" "cursor" "I").before _ s = true := hts _ (List.mem_cons_of_mem _ (List.mem_append_left _ (List.mem_append_left _ (List.mem_of_getElem? (i := 0) rfl))))
  have hiJx35411 : ∀ w ∈ u_ws RJx35411 TJx35411 4, w ∈ wsJx35411_hasNext_aae02 := fun _ h => List.mem_cons_of_mem _ (List.mem_append_left _ (List.mem_append_right _ (h)))
  have hw2 : (Cond.fieldLink RJx35411 1 "java/util/ArrayList$Itr" "this$0" "Ljava/util/ArrayList;").before _ s = true := hts _ (List.mem_cons_of_mem _ (List.mem_append_left _ (List.mem_append_left _ (List.mem_of_getElem? (i := 1) rfl))))
  have hiJx4a65c : ∀ w ∈ u_ws RJx4a65c TJx4a65c 3, w ∈ wsJx35411_hasNext_aae02 := fun _ h => List.mem_cons_of_mem _ (List.mem_append_right _ (h))
  have hl := lv_entry ([.ref it]) (n := 1) (Nat.le_of_ble_eq_true rfl)
  rw [lg_entry_eq]
  generalize (lg_sl ([.ref it]) ++ List.replicate (1 - (lg_sl ([.ref it])).length) Slot.unset).toArray = ls at hl ⊢
  have hl : lv_has ls 1 [(0, .ref it)] := hl
  refine lv_aload_n hx hb dJx35411_hasNext_aae02_0 rfl (lv_at hl 0 rfl) ?_
  refine va_get (D := (dC, dI)) (ci := 2) (v := .int 3) (C := RJx35411) (T := TJx35411) (N := 4) hx hb hts hiJx35411 hown hK hP 0 rfl rfl 0 (by decide) (hw0) (fun _ h9 => h9) rfl dJx35411_hasNext_aae02_1 ?_
  refine lv_aload_n hx hb dJx35411_hasNext_aae02_4 rfl (lv_at hl 0 rfl) ?_
  refine va_get (D := (dC, dI)) (ci := 2) (v := .ref q0) (C := RJx35411) (T := TJx35411) (N := 4) hx hb hts hiJx35411 hown hK hP 0 rfl rfl 3 (by decide) (hw2) (fun _ h9 => h9) rfl dJx35411_hasNext_aae02_5 ?_
  refine va_getN (D := (dC, dI)) (ci := 3) (v := .int 4) (C := RJx4a65c) (T := TJx4a65c) (N := 3) hx hb hts hiJx4a65c hown hK hP 1 rfl rfl 2 (by decide) (va_Nw.use rfl (hN _ (List.mem_of_getElem? (i := 49) rfl))) (fun _ h9 => h9) rfl dJx35411_hasNext_aae02_8 ?_
  refine lv_icmp_eq (tgt := 18) hx hb dJx35411_hasNext_aae02_11 (by decide) (fun c => absurd c (by decide)) (fun _ => ?_)
  refine lv_iconst (v := 1) hx hb dJx35411_hasNext_aae02_14 (by decide) ?_
  refine lv_goto (tgt := 19) hx hb dJx35411_hasNext_aae02_15 (by decide) ?_
  have hP9 := hP.sub (ws' := [(it, .inr (2, [.int 3, .int la, .int me, .ref q0])), (q0, .inr (3, [.int md, .ref q1, .int 4]))]) [0, 1] rfl
  have hD9 := hD.sub (ws' := [(it, .inr (2, [.int 3, .int la, .int me, .ref q0])), (q0, .inr (3, [.int md, .ref q1, .int 4]))]) [0, 1] (by decide) rfl
  have hK9 := hK.sub (tys' := []) [] rfl
  exact W.zret (v := 1) hx hb hr (by first | rfl | decide) (fun t ht hW => ⟨⟨1, (), rfl, rfl, wOut_at ht hW hP9 hK9 hD9⟩, hS.F ht⟩) hS.2.2 dJx35411_hasNext_aae02_19

set_option maxHeartbeats 4000000 in
set_option maxRecDepth 100000 in
theorem c_Jx35411_hasNext_aae02_4 (l : Launch) (dC : Nat → ClassId) (dI : Nat → Nat → Nat) (g : Nat × Nat × Nat) (it : Nat) (q0 : Nat) (q1 : Nat) (md : Int32) (la : Int32) (me : Int32) (sz : Nat) : Met l yJx35411_hasNext_aae02 wsJx35411_hasNext_aae02 ({ frames := 0, cells := 0, slots := 0, locals := 0 } : Room) (va_Pc [.ref it] (wIn dC dI g [(it, .inr (2, [.int 4, .int la, .int me, .ref q0])), (q0, .inr (3, [.int md, .ref q1, .int 4]))] [] sz)) (va_Qi (fun (r : Int32) (u : Unit) => r = 0) (fun (u : Unit) (t : State) => wOut dC dI [(it, .inr (2, [.int 4, .int la, .int me, .ref q0])), (q0, .inr (3, [.int md, .ref q1, .int 4]))] [] (va_A [(it, .inr (2, [.int 4, .int la, .int me, .ref q0])), (q0, .inr (3, [.int md, .ref q1, .int 4]))] sz) t) (va_A [(it, .inr (2, [.int 4, .int la, .int me, .ref q0])), (q0, .inr (3, [.int md, .ref q1, .int 4]))] sz)) 0 0 (va_A [(it, .inr (2, [.int 4, .int la, .int me, .ref q0])), (q0, .inr (3, [.int md, .ref q1, .int 4]))] sz) := by
  refine Met.ofW (cc := cJx35411_hasNext_aae02) (maxL := 1) (ret := (some .boolean)) (by decide) rfl ?_
  intro p e s m args below meth c s₁ B hml hv
  obtain ⟨rfl, hsz, hP, hK, hD0, hG⟩ := hv
  have hx := B.exec
  have hb := B.bytes
  have hr := B.returns
  have hts := atoms_spec (ws := wsJx35411_hasNext_aae02) B.pre
  have hown : s.vm.findClass RJx35411 = some m.cls := findClass_of_methodNamed B.named
  have hlocks := B.notSynchronized
  subst hsz
  have hD := hD0.self (sz := s.heap.size)
  generalize hAe : va_A [(it, .inr (2, [.int 4, .int la, .int me, .ref q0])), (q0, .inr (3, [.int md, .ref q1, .int 4]))] s.heap.size = A at hD hG ⊢
  have hN := hG.1
  have hA : ∀ q : Nat, s.heap.size ≤ q → A q := fun q h => by rw [← hAe]; exact Or.inr h
  have hS : va_S A s.heap s.heap [] := va_S.rf
  have hP : va_P (dC, dI) vwCl [(it, .inr (2, [.int 4, .int la, .int me, .ref q0])), (q0, .inr (3, [.int md, .ref q1, .int 4]))] s.heap := hP
  have hw0 : (Cond.fieldLink RJx35411 25 "java/util/ArrayList$Itr" "cursor" "I").before _ s = true := hts _ (List.mem_cons_of_mem _ (List.mem_append_left _ (List.mem_append_left _ (List.mem_of_getElem? (i := 0) rfl))))
  have hiJx35411 : ∀ w ∈ u_ws RJx35411 TJx35411 4, w ∈ wsJx35411_hasNext_aae02 := fun _ h => List.mem_cons_of_mem _ (List.mem_append_left _ (List.mem_append_right _ (h)))
  have hw2 : (Cond.fieldLink RJx35411 1 "java/util/ArrayList$Itr" "this$0" "Ljava/util/ArrayList;").before _ s = true := hts _ (List.mem_cons_of_mem _ (List.mem_append_left _ (List.mem_append_left _ (List.mem_of_getElem? (i := 1) rfl))))
  have hiJx4a65c : ∀ w ∈ u_ws RJx4a65c TJx4a65c 3, w ∈ wsJx35411_hasNext_aae02 := fun _ h => List.mem_cons_of_mem _ (List.mem_append_right _ (h))
  have hl := lv_entry ([.ref it]) (n := 1) (Nat.le_of_ble_eq_true rfl)
  rw [lg_entry_eq]
  generalize (lg_sl ([.ref it]) ++ List.replicate (1 - (lg_sl ([.ref it])).length) Slot.unset).toArray = ls at hl ⊢
  have hl : lv_has ls 1 [(0, .ref it)] := hl
  refine lv_aload_n hx hb dJx35411_hasNext_aae02_0 rfl (lv_at hl 0 rfl) ?_
  refine va_get (D := (dC, dI)) (ci := 2) (v := .int 4) (C := RJx35411) (T := TJx35411) (N := 4) hx hb hts hiJx35411 hown hK hP 0 rfl rfl 0 (by decide) (hw0) (fun _ h9 => h9) rfl dJx35411_hasNext_aae02_1 ?_
  refine lv_aload_n hx hb dJx35411_hasNext_aae02_4 rfl (lv_at hl 0 rfl) ?_
  refine va_get (D := (dC, dI)) (ci := 2) (v := .ref q0) (C := RJx35411) (T := TJx35411) (N := 4) hx hb hts hiJx35411 hown hK hP 0 rfl rfl 3 (by decide) (hw2) (fun _ h9 => h9) rfl dJx35411_hasNext_aae02_5 ?_
  refine va_getN (D := (dC, dI)) (ci := 3) (v := .int 4) (C := RJx4a65c) (T := TJx4a65c) (N := 3) hx hb hts hiJx4a65c hown hK hP 1 rfl rfl 2 (by decide) (va_Nw.use rfl (hN _ (List.mem_of_getElem? (i := 49) rfl))) (fun _ h9 => h9) rfl dJx35411_hasNext_aae02_8 ?_
  refine lv_icmp_eq (tgt := 18) hx hb dJx35411_hasNext_aae02_11 (by decide) (fun _ => ?_) (fun c => absurd (by decide) c)
  refine lv_iconst (v := 0) hx hb dJx35411_hasNext_aae02_18 (by decide) ?_
  have hP9 := hP.sub (ws' := [(it, .inr (2, [.int 4, .int la, .int me, .ref q0])), (q0, .inr (3, [.int md, .ref q1, .int 4]))]) [0, 1] rfl
  have hD9 := hD.sub (ws' := [(it, .inr (2, [.int 4, .int la, .int me, .ref q0])), (q0, .inr (3, [.int md, .ref q1, .int 4]))]) [0, 1] (by decide) rfl
  have hK9 := hK.sub (tys' := []) [] rfl
  exact W.zret (v := 0) hx hb hr (by first | rfl | decide) (fun t ht hW => ⟨⟨0, (), rfl, rfl, wOut_at ht hW hP9 hK9 hD9⟩, hS.F ht⟩) hS.2.2 dJx35411_hasNext_aae02_19

set_option maxHeartbeats 4000000 in
set_option maxRecDepth 100000 in
theorem c_Jx35411_checkForComodification_da8c8 (l : Launch) (dC : Nat → ClassId) (dI : Nat → Nat → Nat) (g : Nat × Nat × Nat) (it : Nat) (cu : Int32) (la : Int32) (q0 : Nat) (q1 : Nat) (md : Int32) (z : Int32) (sz : Nat) : Met l yJx35411_checkForComodification_da8c8 wsJx35411_checkForComodification_da8c8 ({ frames := 0, cells := 0, slots := 0, locals := 0 } : Room) (va_Pc [.ref it] (wIn dC dI g [(it, .inr (2, [.int cu, .int la, .int md, .ref q0])), (q0, .inr (3, [.int md, .ref q1, .int z]))] [] sz)) (va_Qv (fun (u : Unit) => True) (fun (u : Unit) (t : State) => wOut dC dI [(it, .inr (2, [.int cu, .int la, .int md, .ref q0])), (q0, .inr (3, [.int md, .ref q1, .int z]))] [] (va_A [(it, .inr (2, [.int cu, .int la, .int md, .ref q0])), (q0, .inr (3, [.int md, .ref q1, .int z]))] sz) t) (va_A [(it, .inr (2, [.int cu, .int la, .int md, .ref q0])), (q0, .inr (3, [.int md, .ref q1, .int z]))] sz)) 0 0 (va_A [(it, .inr (2, [.int cu, .int la, .int md, .ref q0])), (q0, .inr (3, [.int md, .ref q1, .int z]))] sz) := by
  refine Met.ofW (cc := cJx35411_checkForComodification_da8c8) (maxL := 1) (ret := none) (by decide) rfl ?_
  intro p e s m args below meth c s₁ B hml hv
  obtain ⟨rfl, hsz, hP, hK, hD0, hG⟩ := hv
  have hx := B.exec
  have hb := B.bytes
  have hr := B.returns
  have hts := atoms_spec (ws := wsJx35411_checkForComodification_da8c8) B.pre
  have hown : s.vm.findClass RJx35411 = some m.cls := findClass_of_methodNamed B.named
  have hlocks := B.notSynchronized
  subst hsz
  have hD := hD0.self (sz := s.heap.size)
  generalize hAe : va_A [(it, .inr (2, [.int cu, .int la, .int md, .ref q0])), (q0, .inr (3, [.int md, .ref q1, .int z]))] s.heap.size = A at hD hG ⊢
  have hN := hG.1
  have hA : ∀ q : Nat, s.heap.size ≤ q → A q := fun q h => by rw [← hAe]; exact Or.inr h
  have hS : va_S A s.heap s.heap [] := va_S.rf
  have hP : va_P (dC, dI) vwCl [(it, .inr (2, [.int cu, .int la, .int md, .ref q0])), (q0, .inr (3, [.int md, .ref q1, .int z]))] s.heap := hP
  have hw0 : (Cond.fieldLink RJx35411 1 "java/util/ArrayList$Itr" "this$0" "Ljava/util/ArrayList;").before _ s = true := hts _ (List.mem_cons_of_mem _ (List.mem_append_left _ (List.mem_append_left _ (List.mem_of_getElem? (i := 0) rfl))))
  have hiJx35411 : ∀ w ∈ u_ws RJx35411 TJx35411 4, w ∈ wsJx35411_checkForComodification_da8c8 := fun _ h => List.mem_cons_of_mem _ (List.mem_append_left _ (List.mem_append_right _ (h)))
  have hw2 : (Cond.fieldLink RJx35411 17 "java/util/ArrayList" "modCount" "I").before _ s = true := hts _ (List.mem_cons_of_mem _ (List.mem_append_left _ (List.mem_append_left _ (List.mem_of_getElem? (i := 1) rfl))))
  have hiJx4a65c : ∀ w ∈ u_ws RJx4a65c TJx4a65c 3, w ∈ wsJx35411_checkForComodification_da8c8 := fun _ h => List.mem_cons_of_mem _ (List.mem_append_right _ (h))
  have hw4 : (Cond.sameField "java/util/ArrayList" "java/util/AbstractList" "modCount" "I").before _ s = true := hts _ (List.mem_cons_of_mem _ (List.mem_append_left _ (List.mem_append_left _ (List.mem_of_getElem? (i := 2) rfl))))
  have hw5 : (Cond.fieldLink RJx35411 22 "java/util/ArrayList$Itr" "expectedModCount" "I").before _ s = true := hts _ (List.mem_cons_of_mem _ (List.mem_append_left _ (List.mem_append_left _ (List.mem_of_getElem? (i := 3) rfl))))
  have hl := lv_entry ([.ref it]) (n := 1) (Nat.le_of_ble_eq_true rfl)
  rw [lg_entry_eq]
  generalize (lg_sl ([.ref it]) ++ List.replicate (1 - (lg_sl ([.ref it])).length) Slot.unset).toArray = ls at hl ⊢
  have hl : lv_has ls 1 [(0, .ref it)] := hl
  refine lv_aload_n hx hb dJx35411_checkForComodification_da8c8_0 rfl (lv_at hl 0 rfl) ?_
  refine va_get (D := (dC, dI)) (ci := 2) (v := .ref q0) (C := RJx35411) (T := TJx35411) (N := 4) hx hb hts hiJx35411 hown hK hP 0 rfl rfl 3 (by decide) (hw0) (fun _ h9 => h9) rfl dJx35411_checkForComodification_da8c8_1 ?_
  refine va_get (D := (dC, dI)) (ci := 3) (v := .int md) (C := RJx4a65c) (T := TJx4a65c) (N := 3) hx hb hts hiJx4a65c hown hK hP 1 rfl rfl 0 (by decide) (hw2) (fun x9 h9 => u_same (hw4) x9 h9) rfl dJx35411_checkForComodification_da8c8_4 ?_
  refine lv_aload_n hx hb dJx35411_checkForComodification_da8c8_7 rfl (lv_at hl 0 rfl) ?_
  refine va_get (D := (dC, dI)) (ci := 2) (v := .int md) (C := RJx35411) (T := TJx35411) (N := 4) hx hb hts hiJx35411 hown hK hP 0 rfl rfl 2 (by decide) (hw5) (fun _ h9 => h9) rfl dJx35411_checkForComodification_da8c8_8 ?_
  refine lv_icmp_eq (tgt := 22) hx hb dJx35411_checkForComodification_da8c8_11 (by decide) (fun _ => ?_) (fun c => absurd (rfl) c)
  have hP9 := hP.sub (ws' := [(it, .inr (2, [.int cu, .int la, .int md, .ref q0])), (q0, .inr (3, [.int md, .ref q1, .int z]))]) [0, 1] rfl
  have hD9 := hD.sub (ws' := [(it, .inr (2, [.int cu, .int la, .int md, .ref q0])), (q0, .inr (3, [.int md, .ref q1, .int z]))]) [0, 1] (by decide) rfl
  have hK9 := hK.sub (tys' := []) [] rfl
  exact W.vret hx hb hr (fun t ht hW => ⟨⟨(), rfl, trivial, wOut_at ht hW hP9 hK9 hD9⟩, hS.F ht⟩) hS.2.2 dJx35411_checkForComodification_da8c8_22

set_option maxHeartbeats 4000000 in
set_option maxRecDepth 100000 in
theorem c_Jx35411_next_0502b_0 (l : Launch) (dC : Nat → ClassId) (dI : Nat → Nat → Nat) (g : Nat × Nat × Nat) (it : Nat) (la : Int32) (q0 : Nat) (q1 : Nat) (md : Int32) (cO : ClassId) (f : Nat → Option Nat) (v : Nat) (sz : Nat) (hv : f 0 = some v) : Met l yJx35411_next_0502b wsJx35411_next_0502b ({ frames := 1, cells := 0, slots := 0, locals := 20 } : Room) (va_Pc [.ref it] (wIn dC dI g [(it, .inr (2, [.int 0, .int la, .int md, .ref q0])), (q0, .inr (3, [.int md, .ref q1, .int 4])), (q1, .inl (cO, 10, .inr (.inr (.inr (.inr f)))))] [(cO, .object "java/lang/Object")] sz)) (va_Qr (fun (u : Unit) => True) (fun (u : Unit) (ra : Nat) (t : State) => ra = v ∧ wOut dC dI [(q1, .inl (cO, 10, .inr (.inr (.inr (.inr f))))), (it, .inr (2, [.int 1, .int 0, .int md, .ref q0])), (q0, .inr (3, [.int md, .ref q1, .int 4]))] [(cO, .object "java/lang/Object")] (va_A [(it, .inr (2, [.int 0, .int la, .int md, .ref q0])), (q0, .inr (3, [.int md, .ref q1, .int 4])), (q1, .inl (cO, 10, .inr (.inr (.inr (.inr f)))))] sz) t) (va_A [(it, .inr (2, [.int 0, .int la, .int md, .ref q0])), (q0, .inr (3, [.int md, .ref q1, .int 4])), (q1, .inl (cO, 10, .inr (.inr (.inr (.inr f)))))] sz)) 0 0 (va_A [(it, .inr (2, [.int 0, .int la, .int md, .ref q0])), (q0, .inr (3, [.int md, .ref q1, .int 4])), (q1, .inl (cO, 10, .inr (.inr (.inr (.inr f)))))] sz) := by
  refine Met.ofW (cc := cJx35411_next_0502b) (maxL := 3) (ret := (some (.object "java/lang/Object"))) (by decide) rfl ?_
  intro p e s m args below meth c s₁ B hml hv
  obtain ⟨rfl, hsz, hP, hK, hD0, hG⟩ := hv
  have hx := B.exec
  have hb := B.bytes
  have hr := B.returns
  have hts := atoms_spec (ws := wsJx35411_next_0502b) B.pre
  have hown : s.vm.findClass RJx35411 = some m.cls := findClass_of_methodNamed B.named
  have hlocks := B.notSynchronized
  subst hsz
  have hD := hD0.self (sz := s.heap.size)
  generalize hAe : va_A [(it, .inr (2, [.int 0, .int la, .int md, .ref q0])), (q0, .inr (3, [.int md, .ref q1, .int 4])), (q1, .inl (cO, 10, .inr (.inr (.inr (.inr f)))))] s.heap.size = A at hD hG ⊢
  have hN := hG.1
  have hA : ∀ q : Nat, s.heap.size ≤ q → A q := fun q h => by rw [← hAe]; exact Or.inr h
  have hS : va_S A s.heap s.heap [] := va_S.rf
  have hP : va_P (dC, dI) vwCl [(it, .inr (2, [.int 0, .int la, .int md, .ref q0])), (q0, .inr (3, [.int md, .ref q1, .int 4])), (q1, .inl (cO, 10, .inr (.inr (.inr (.inr f)))))] s.heap := hP
  have hw0 : (Cond.fieldLink RJx35411 25 "java/util/ArrayList$Itr" "cursor" "I").before _ s = true := hts _ (List.mem_cons_of_mem _ (List.mem_append_left _ (List.mem_append_left _ (List.mem_of_getElem? (i := 0) rfl))))
  have hiJx35411 : ∀ w ∈ u_ws RJx35411 TJx35411 4, w ∈ wsJx35411_next_0502b := fun _ h => List.mem_cons_of_mem _ (List.mem_append_left _ (List.mem_append_right _ (h)))
  have hw2 : (Cond.fieldLink RJx35411 1 "java/util/ArrayList$Itr" "this$0" "Ljava/util/ArrayList;").before _ s = true := hts _ (List.mem_cons_of_mem _ (List.mem_append_left _ (List.mem_append_left _ (List.mem_of_getElem? (i := 1) rfl))))
  have hiJx4a65c : ∀ w ∈ u_ws RJx4a65c TJx4a65c 3, w ∈ wsJx35411_next_0502b := fun _ h => List.mem_cons_of_mem _ (List.mem_append_right _ (h))
  have hw4 : (Cond.fieldLink RJx35411 37 "java/util/ArrayList" "elementData" "[Ljava/lang/Object;").before _ s = true := hts _ (List.mem_cons_of_mem _ (List.mem_append_left _ (List.mem_append_left _ (List.mem_of_getElem? (i := 2) rfl))))
  have hw5 : (Cond.fieldLink RJx35411 13 "java/util/ArrayList$Itr" "lastRet" "I").before _ s = true := hts _ (List.mem_cons_of_mem _ (List.mem_append_left _ (List.mem_append_left _ (List.mem_of_getElem? (i := 3) rfl))))
  have hl := lv_entry ([.ref it]) (n := 3) (Nat.le_of_ble_eq_true rfl)
  rw [lg_entry_eq]
  generalize (lg_sl ([.ref it]) ++ List.replicate (3 - (lg_sl ([.ref it])).length) Slot.unset).toArray = ls at hl ⊢
  have hl : lv_has ls 3 [(0, .ref it)] := hl
  refine lv_aload_n hx hb dJx35411_next_0502b_0 rfl (lv_at hl 0 rfl) ?_
  have hPc := hP.sub (ws' := [(it, .inr (2, [.int 0, .int la, .int md, .ref q0])), (q0, .inr (3, [.int md, .ref q1, .int 4]))]) [0, 1] rfl
  have hDc := hD.sub (ws' := [(it, .inr (2, [.int 0, .int la, .int md, .ref q0])), (q0, .inr (3, [.int md, .ref q1, .int 4]))]) [0, 1] (by decide) rfl
  have hKc := hK.sub (tys' := []) [] rfl
  have hFc := va_free (wc := [(it, .inr (2, [.int 0, .int la, .int md, .ref q0])), (q0, .inr (3, [.int md, .ref q1, .int 4]))]) hD hS hA [0, 1] rfl
  refine va_callv (va_runV (As := []) (rest := []) ⟨hx, hb, hml, hown, hts⟩ (c_Jx35411_checkForComodification_da8c8 l dC dI g it 0 la q0 q1 md 4 s.heap.size) (cwV 0 hts gJx35411_next_0502b_Jx35411_checkForComodification_da8c8 rfl rfl rfl (by decide +kernel) ⟨Nat.le_of_ble_eq_true rfl, Nat.le_of_ble_eq_true rfl⟩) ⟨wIn_blind, va_recv hK hP (ci := 2) (q0 := 0) rfl rfl, wIn_at hPc hKc hDc hG hS hFc⟩ rfl rfl hl.1 rfl (lv_room (Nat.le_of_ble_eq_true rfl)) dJx35411_next_0502b_1 ⟨Nat.le_of_ble_eq_true rfl, Nat.le_of_ble_eq_true rfl⟩) hS (fun q _ h => hFc q h) hFc (fun u t H1 locs ht hvm hw hB hz1 hk1 hS => ?_)
  obtain ⟨hP1, hK1, hD1⟩ := hB
  rw [ht] at hP1
  obtain ⟨hP, hD⟩ := va_join (wr := [(q1, .inl (cO, 10, .inr (.inr (.inr (.inr f)))))]) (w1 := [(it, .inr (2, [.int 0, .int la, .int md, .ref q0])), (q0, .inr (3, [.int md, .ref q1, .int 4]))]) hP hD [0, 1] [2] rfl rfl (by decide) (by decide) hk1 hFc hP1 hD1
  generalize H1 = H at hP hS ⊢
  have hP : va_P (dC, dI) vwCl [(q1, .inl (cO, 10, .inr (.inr (.inr (.inr f))))), (it, .inr (2, [.int 0, .int la, .int md, .ref q0])), (q0, .inr (3, [.int md, .ref q1, .int 4]))] H := hP
  have hD : va_D A [(q1, .inl (cO, 10, .inr (.inr (.inr (.inr f))))), (it, .inr (2, [.int 0, .int la, .int md, .ref q0])), (q0, .inr (3, [.int md, .ref q1, .int 4]))] := hD
  refine lv_aload_n hx hb dJx35411_next_0502b_4 rfl (lv_at hl 0 rfl) ?_
  refine va_get (D := (dC, dI)) (ci := 2) (v := .int 0) (C := RJx35411) (T := TJx35411) (N := 4) hx hb hts hiJx35411 hown hK hP 1 rfl rfl 0 (by decide) (hw0) (fun _ h9 => h9) rfl dJx35411_next_0502b_5 ?_
  refine lv_istore_n (lv' := [(1, .int 0), (0, .ref it)]) hx hb dJx35411_next_0502b_8 rfl hl (by decide) rfl (fun ls hl => ?_)
  refine lv_iload_n hx hb dJx35411_next_0502b_9 rfl (lv_at hl 0 rfl) ?_
  refine lv_aload_n hx hb dJx35411_next_0502b_10 rfl (lv_at hl 1 rfl) ?_
  refine va_get (D := (dC, dI)) (ci := 2) (v := .ref q0) (C := RJx35411) (T := TJx35411) (N := 4) hx hb hts hiJx35411 hown hK hP 1 rfl rfl 3 (by decide) (hw2) (fun _ h9 => h9) rfl dJx35411_next_0502b_11 ?_
  refine va_getN (D := (dC, dI)) (ci := 3) (v := .int 4) (C := RJx4a65c) (T := TJx4a65c) (N := 3) hx hb hts hiJx4a65c hown hK hP 2 rfl rfl 2 (by decide) (va_Nw.use rfl (hN _ (List.mem_of_getElem? (i := 49) rfl))) (fun _ h9 => h9) rfl dJx35411_next_0502b_14 ?_
  refine lv_icmp_lt (tgt := 28) hx hb dJx35411_next_0502b_17 (by decide) (fun _ => ?_) (fun c => absurd (by decide) c)
  refine lv_aload_n hx hb dJx35411_next_0502b_28 rfl (lv_at hl 1 rfl) ?_
  refine va_get (D := (dC, dI)) (ci := 2) (v := .ref q0) (C := RJx35411) (T := TJx35411) (N := 4) hx hb hts hiJx35411 hown hK hP 1 rfl rfl 3 (by decide) (hw2) (fun _ h9 => h9) rfl dJx35411_next_0502b_29 ?_
  refine va_get (D := (dC, dI)) (ci := 3) (v := .ref q1) (C := RJx4a65c) (T := TJx4a65c) (N := 3) hx hb hts hiJx4a65c hown hK hP 2 rfl rfl 1 (by decide) (hw4) (fun _ h9 => h9) rfl dJx35411_next_0502b_32 ?_
  refine lv_astore_n (lv' := [(2, .ref q1), (1, .int 0), (0, .ref it)]) hx hb dJx35411_next_0502b_35 rfl hl (by decide) rfl (fun ls hl => ?_)
  refine lv_iload_n hx hb dJx35411_next_0502b_36 rfl (lv_at hl 1 rfl) ?_
  refine lv_aload_n hx hb dJx35411_next_0502b_37 rfl (lv_at hl 0 rfl) ?_
  refine va_alen (D := (dC, dI)) hx hb hK hP 0 0 rfl rfl (v := 10) rfl dJx35411_next_0502b_38 ?_
  refine lv_icmp_lt (tgt := 50) hx hb dJx35411_next_0502b_39 (by decide) (fun _ => ?_) (fun c => absurd (by decide) c)
  refine lv_aload_n hx hb dJx35411_next_0502b_50 rfl (lv_at hl 2 rfl) ?_
  refine lv_iload_n hx hb dJx35411_next_0502b_51 rfl (lv_at hl 1 rfl) ?_
  refine lv_iconst (v := 1) hx hb dJx35411_next_0502b_52 (by decide) ?_
  refine lv_iadd hx hb dJx35411_next_0502b_53 ?_
  refine lt_ci (y := 1) (by first | rfl | decide) ?_
  refine va_put (D := (dC, dI)) (ci := 2) (v := .int 1) (ty := .int) (C := RJx35411) (T := TJx35411) (N := 4) hx hb hts hiJx35411 tyJx35411 tyJx35411_ok nmJx35411 hown hK hP hD hS 1 rfl rfl 0 (by decide) (hw0) (fun _ h9 => h9) rfl (by decide +kernel) rfl rfl (Nat.le_of_ble_eq_true rfl) dJx35411_next_0502b_54 (fun H locs hP hD hS => ?_)
  have hP : va_P (dC, dI) vwCl [(q1, .inl (cO, 10, .inr (.inr (.inr (.inr f))))), (it, .inr (2, [.int 1, .int la, .int md, .ref q0])), (q0, .inr (3, [.int md, .ref q1, .int 4]))] H := hP
  have hD : va_D A [(q1, .inl (cO, 10, .inr (.inr (.inr (.inr f))))), (it, .inr (2, [.int 1, .int la, .int md, .ref q0])), (q0, .inr (3, [.int md, .ref q1, .int 4]))] := hD
  refine lv_aload_n hx hb dJx35411_next_0502b_57 rfl (lv_at hl 0 rfl) ?_
  refine lv_aload_n hx hb dJx35411_next_0502b_58 rfl (lv_at hl 2 rfl) ?_
  refine lv_iload_n hx hb dJx35411_next_0502b_59 rfl (lv_at hl 1 rfl) ?_
  refine lv_dup_x1 hx hb dJx35411_next_0502b_60 rfl rfl ?_
  refine va_put (D := (dC, dI)) (ci := 2) (v := .int 0) (ty := .int) (C := RJx35411) (T := TJx35411) (N := 4) hx hb hts hiJx35411 tyJx35411 tyJx35411_ok nmJx35411 hown hK hP hD hS 1 rfl rfl 1 (by decide) (hw5) (fun _ h9 => h9) rfl (by decide +kernel) rfl rfl (Nat.le_of_ble_eq_true rfl) dJx35411_next_0502b_61 (fun H locs hP hD hS => ?_)
  have hP : va_P (dC, dI) vwCl [(q1, .inl (cO, 10, .inr (.inr (.inr (.inr f))))), (it, .inr (2, [.int 1, .int 0, .int md, .ref q0])), (q0, .inr (3, [.int md, .ref q1, .int 4]))] H := hP
  have hD : va_D A [(q1, .inl (cO, 10, .inr (.inr (.inr (.inr f))))), (it, .inr (2, [.int 1, .int 0, .int md, .ref q0])), (q0, .inr (3, [.int md, .ref q1, .int 4]))] := hD
  refine va_aldq (D := (dC, dI)) (C := "java/lang/Object") hx hb hK hP 0 0 rfl rfl (by unfold vp_in; decide) dJx35411_next_0502b_64 ?_
  refine lt_v (y := .ref v) (congrArg va_rf hv) ?_
  have hP9 := hP.sub (ws' := [(q1, .inl (cO, 10, .inr (.inr (.inr (.inr f))))), (it, .inr (2, [.int 1, .int 0, .int md, .ref q0])), (q0, .inr (3, [.int md, .ref q1, .int 4]))]) [0, 1, 2] rfl
  have hD9 := hD.sub (ws' := [(q1, .inl (cO, 10, .inr (.inr (.inr (.inr f))))), (it, .inr (2, [.int 1, .int 0, .int md, .ref q0])), (q0, .inr (3, [.int md, .ref q1, .int 4]))]) [0, 1, 2] (by decide) rfl
  have hK9 := hK.sub (tys' := [(cO, .object "java/lang/Object")]) [0] rfl
  exact W.aret (v := .ref v) hx hb hr (Or.inl ⟨_, rfl⟩) (Or.inr ⟨_, rfl⟩) (fun t ht hW => ⟨⟨(), v, rfl, trivial, rfl, wOut_at ht hW hP9 hK9 hD9⟩, hS.F ht⟩) hS.2.2 dJx35411_next_0502b_65

set_option maxHeartbeats 4000000 in
set_option maxRecDepth 100000 in
theorem c_Jx35411_next_0502b_1 (l : Launch) (dC : Nat → ClassId) (dI : Nat → Nat → Nat) (g : Nat × Nat × Nat) (it : Nat) (la : Int32) (q0 : Nat) (q1 : Nat) (md : Int32) (cO : ClassId) (f : Nat → Option Nat) (v : Nat) (sz : Nat) (hv : f 1 = some v) : Met l yJx35411_next_0502b wsJx35411_next_0502b ({ frames := 1, cells := 0, slots := 0, locals := 20 } : Room) (va_Pc [.ref it] (wIn dC dI g [(it, .inr (2, [.int 1, .int la, .int md, .ref q0])), (q0, .inr (3, [.int md, .ref q1, .int 4])), (q1, .inl (cO, 10, .inr (.inr (.inr (.inr f)))))] [(cO, .object "java/lang/Object")] sz)) (va_Qr (fun (u : Unit) => True) (fun (u : Unit) (ra : Nat) (t : State) => ra = v ∧ wOut dC dI [(q1, .inl (cO, 10, .inr (.inr (.inr (.inr f))))), (it, .inr (2, [.int 2, .int 1, .int md, .ref q0])), (q0, .inr (3, [.int md, .ref q1, .int 4]))] [(cO, .object "java/lang/Object")] (va_A [(it, .inr (2, [.int 1, .int la, .int md, .ref q0])), (q0, .inr (3, [.int md, .ref q1, .int 4])), (q1, .inl (cO, 10, .inr (.inr (.inr (.inr f)))))] sz) t) (va_A [(it, .inr (2, [.int 1, .int la, .int md, .ref q0])), (q0, .inr (3, [.int md, .ref q1, .int 4])), (q1, .inl (cO, 10, .inr (.inr (.inr (.inr f)))))] sz)) 0 0 (va_A [(it, .inr (2, [.int 1, .int la, .int md, .ref q0])), (q0, .inr (3, [.int md, .ref q1, .int 4])), (q1, .inl (cO, 10, .inr (.inr (.inr (.inr f)))))] sz) := by
  refine Met.ofW (cc := cJx35411_next_0502b) (maxL := 3) (ret := (some (.object "java/lang/Object"))) (by decide) rfl ?_
  intro p e s m args below meth c s₁ B hml hv
  obtain ⟨rfl, hsz, hP, hK, hD0, hG⟩ := hv
  have hx := B.exec
  have hb := B.bytes
  have hr := B.returns
  have hts := atoms_spec (ws := wsJx35411_next_0502b) B.pre
  have hown : s.vm.findClass RJx35411 = some m.cls := findClass_of_methodNamed B.named
  have hlocks := B.notSynchronized
  subst hsz
  have hD := hD0.self (sz := s.heap.size)
  generalize hAe : va_A [(it, .inr (2, [.int 1, .int la, .int md, .ref q0])), (q0, .inr (3, [.int md, .ref q1, .int 4])), (q1, .inl (cO, 10, .inr (.inr (.inr (.inr f)))))] s.heap.size = A at hD hG ⊢
  have hN := hG.1
  have hA : ∀ q : Nat, s.heap.size ≤ q → A q := fun q h => by rw [← hAe]; exact Or.inr h
  have hS : va_S A s.heap s.heap [] := va_S.rf
  have hP : va_P (dC, dI) vwCl [(it, .inr (2, [.int 1, .int la, .int md, .ref q0])), (q0, .inr (3, [.int md, .ref q1, .int 4])), (q1, .inl (cO, 10, .inr (.inr (.inr (.inr f)))))] s.heap := hP
  have hw0 : (Cond.fieldLink RJx35411 25 "java/util/ArrayList$Itr" "cursor" "I").before _ s = true := hts _ (List.mem_cons_of_mem _ (List.mem_append_left _ (List.mem_append_left _ (List.mem_of_getElem? (i := 0) rfl))))
  have hiJx35411 : ∀ w ∈ u_ws RJx35411 TJx35411 4, w ∈ wsJx35411_next_0502b := fun _ h => List.mem_cons_of_mem _ (List.mem_append_left _ (List.mem_append_right _ (h)))
  have hw2 : (Cond.fieldLink RJx35411 1 "java/util/ArrayList$Itr" "this$0" "Ljava/util/ArrayList;").before _ s = true := hts _ (List.mem_cons_of_mem _ (List.mem_append_left _ (List.mem_append_left _ (List.mem_of_getElem? (i := 1) rfl))))
  have hiJx4a65c : ∀ w ∈ u_ws RJx4a65c TJx4a65c 3, w ∈ wsJx35411_next_0502b := fun _ h => List.mem_cons_of_mem _ (List.mem_append_right _ (h))
  have hw4 : (Cond.fieldLink RJx35411 37 "java/util/ArrayList" "elementData" "[Ljava/lang/Object;").before _ s = true := hts _ (List.mem_cons_of_mem _ (List.mem_append_left _ (List.mem_append_left _ (List.mem_of_getElem? (i := 2) rfl))))
  have hw5 : (Cond.fieldLink RJx35411 13 "java/util/ArrayList$Itr" "lastRet" "I").before _ s = true := hts _ (List.mem_cons_of_mem _ (List.mem_append_left _ (List.mem_append_left _ (List.mem_of_getElem? (i := 3) rfl))))
  have hl := lv_entry ([.ref it]) (n := 3) (Nat.le_of_ble_eq_true rfl)
  rw [lg_entry_eq]
  generalize (lg_sl ([.ref it]) ++ List.replicate (3 - (lg_sl ([.ref it])).length) Slot.unset).toArray = ls at hl ⊢
  have hl : lv_has ls 3 [(0, .ref it)] := hl
  refine lv_aload_n hx hb dJx35411_next_0502b_0 rfl (lv_at hl 0 rfl) ?_
  have hPc := hP.sub (ws' := [(it, .inr (2, [.int 1, .int la, .int md, .ref q0])), (q0, .inr (3, [.int md, .ref q1, .int 4]))]) [0, 1] rfl
  have hDc := hD.sub (ws' := [(it, .inr (2, [.int 1, .int la, .int md, .ref q0])), (q0, .inr (3, [.int md, .ref q1, .int 4]))]) [0, 1] (by decide) rfl
  have hKc := hK.sub (tys' := []) [] rfl
  have hFc := va_free (wc := [(it, .inr (2, [.int 1, .int la, .int md, .ref q0])), (q0, .inr (3, [.int md, .ref q1, .int 4]))]) hD hS hA [0, 1] rfl
  refine va_callv (va_runV (As := []) (rest := []) ⟨hx, hb, hml, hown, hts⟩ (c_Jx35411_checkForComodification_da8c8 l dC dI g it 1 la q0 q1 md 4 s.heap.size) (cwV 0 hts gJx35411_next_0502b_Jx35411_checkForComodification_da8c8 rfl rfl rfl (by decide +kernel) ⟨Nat.le_of_ble_eq_true rfl, Nat.le_of_ble_eq_true rfl⟩) ⟨wIn_blind, va_recv hK hP (ci := 2) (q0 := 0) rfl rfl, wIn_at hPc hKc hDc hG hS hFc⟩ rfl rfl hl.1 rfl (lv_room (Nat.le_of_ble_eq_true rfl)) dJx35411_next_0502b_1 ⟨Nat.le_of_ble_eq_true rfl, Nat.le_of_ble_eq_true rfl⟩) hS (fun q _ h => hFc q h) hFc (fun u t H1 locs ht hvm hw hB hz1 hk1 hS => ?_)
  obtain ⟨hP1, hK1, hD1⟩ := hB
  rw [ht] at hP1
  obtain ⟨hP, hD⟩ := va_join (wr := [(q1, .inl (cO, 10, .inr (.inr (.inr (.inr f)))))]) (w1 := [(it, .inr (2, [.int 1, .int la, .int md, .ref q0])), (q0, .inr (3, [.int md, .ref q1, .int 4]))]) hP hD [0, 1] [2] rfl rfl (by decide) (by decide) hk1 hFc hP1 hD1
  generalize H1 = H at hP hS ⊢
  have hP : va_P (dC, dI) vwCl [(q1, .inl (cO, 10, .inr (.inr (.inr (.inr f))))), (it, .inr (2, [.int 1, .int la, .int md, .ref q0])), (q0, .inr (3, [.int md, .ref q1, .int 4]))] H := hP
  have hD : va_D A [(q1, .inl (cO, 10, .inr (.inr (.inr (.inr f))))), (it, .inr (2, [.int 1, .int la, .int md, .ref q0])), (q0, .inr (3, [.int md, .ref q1, .int 4]))] := hD
  refine lv_aload_n hx hb dJx35411_next_0502b_4 rfl (lv_at hl 0 rfl) ?_
  refine va_get (D := (dC, dI)) (ci := 2) (v := .int 1) (C := RJx35411) (T := TJx35411) (N := 4) hx hb hts hiJx35411 hown hK hP 1 rfl rfl 0 (by decide) (hw0) (fun _ h9 => h9) rfl dJx35411_next_0502b_5 ?_
  refine lv_istore_n (lv' := [(1, .int 1), (0, .ref it)]) hx hb dJx35411_next_0502b_8 rfl hl (by decide) rfl (fun ls hl => ?_)
  refine lv_iload_n hx hb dJx35411_next_0502b_9 rfl (lv_at hl 0 rfl) ?_
  refine lv_aload_n hx hb dJx35411_next_0502b_10 rfl (lv_at hl 1 rfl) ?_
  refine va_get (D := (dC, dI)) (ci := 2) (v := .ref q0) (C := RJx35411) (T := TJx35411) (N := 4) hx hb hts hiJx35411 hown hK hP 1 rfl rfl 3 (by decide) (hw2) (fun _ h9 => h9) rfl dJx35411_next_0502b_11 ?_
  refine va_getN (D := (dC, dI)) (ci := 3) (v := .int 4) (C := RJx4a65c) (T := TJx4a65c) (N := 3) hx hb hts hiJx4a65c hown hK hP 2 rfl rfl 2 (by decide) (va_Nw.use rfl (hN _ (List.mem_of_getElem? (i := 49) rfl))) (fun _ h9 => h9) rfl dJx35411_next_0502b_14 ?_
  refine lv_icmp_lt (tgt := 28) hx hb dJx35411_next_0502b_17 (by decide) (fun _ => ?_) (fun c => absurd (by decide) c)
  refine lv_aload_n hx hb dJx35411_next_0502b_28 rfl (lv_at hl 1 rfl) ?_
  refine va_get (D := (dC, dI)) (ci := 2) (v := .ref q0) (C := RJx35411) (T := TJx35411) (N := 4) hx hb hts hiJx35411 hown hK hP 1 rfl rfl 3 (by decide) (hw2) (fun _ h9 => h9) rfl dJx35411_next_0502b_29 ?_
  refine va_get (D := (dC, dI)) (ci := 3) (v := .ref q1) (C := RJx4a65c) (T := TJx4a65c) (N := 3) hx hb hts hiJx4a65c hown hK hP 2 rfl rfl 1 (by decide) (hw4) (fun _ h9 => h9) rfl dJx35411_next_0502b_32 ?_
  refine lv_astore_n (lv' := [(2, .ref q1), (1, .int 1), (0, .ref it)]) hx hb dJx35411_next_0502b_35 rfl hl (by decide) rfl (fun ls hl => ?_)
  refine lv_iload_n hx hb dJx35411_next_0502b_36 rfl (lv_at hl 1 rfl) ?_
  refine lv_aload_n hx hb dJx35411_next_0502b_37 rfl (lv_at hl 0 rfl) ?_
  refine va_alen (D := (dC, dI)) hx hb hK hP 0 0 rfl rfl (v := 10) rfl dJx35411_next_0502b_38 ?_
  refine lv_icmp_lt (tgt := 50) hx hb dJx35411_next_0502b_39 (by decide) (fun _ => ?_) (fun c => absurd (by decide) c)
  refine lv_aload_n hx hb dJx35411_next_0502b_50 rfl (lv_at hl 2 rfl) ?_
  refine lv_iload_n hx hb dJx35411_next_0502b_51 rfl (lv_at hl 1 rfl) ?_
  refine lv_iconst (v := 1) hx hb dJx35411_next_0502b_52 (by decide) ?_
  refine lv_iadd hx hb dJx35411_next_0502b_53 ?_
  refine lt_ci (y := 2) (by first | rfl | decide) ?_
  refine va_put (D := (dC, dI)) (ci := 2) (v := .int 2) (ty := .int) (C := RJx35411) (T := TJx35411) (N := 4) hx hb hts hiJx35411 tyJx35411 tyJx35411_ok nmJx35411 hown hK hP hD hS 1 rfl rfl 0 (by decide) (hw0) (fun _ h9 => h9) rfl (by decide +kernel) rfl rfl (Nat.le_of_ble_eq_true rfl) dJx35411_next_0502b_54 (fun H locs hP hD hS => ?_)
  have hP : va_P (dC, dI) vwCl [(q1, .inl (cO, 10, .inr (.inr (.inr (.inr f))))), (it, .inr (2, [.int 2, .int la, .int md, .ref q0])), (q0, .inr (3, [.int md, .ref q1, .int 4]))] H := hP
  have hD : va_D A [(q1, .inl (cO, 10, .inr (.inr (.inr (.inr f))))), (it, .inr (2, [.int 2, .int la, .int md, .ref q0])), (q0, .inr (3, [.int md, .ref q1, .int 4]))] := hD
  refine lv_aload_n hx hb dJx35411_next_0502b_57 rfl (lv_at hl 0 rfl) ?_
  refine lv_aload_n hx hb dJx35411_next_0502b_58 rfl (lv_at hl 2 rfl) ?_
  refine lv_iload_n hx hb dJx35411_next_0502b_59 rfl (lv_at hl 1 rfl) ?_
  refine lv_dup_x1 hx hb dJx35411_next_0502b_60 rfl rfl ?_
  refine va_put (D := (dC, dI)) (ci := 2) (v := .int 1) (ty := .int) (C := RJx35411) (T := TJx35411) (N := 4) hx hb hts hiJx35411 tyJx35411 tyJx35411_ok nmJx35411 hown hK hP hD hS 1 rfl rfl 1 (by decide) (hw5) (fun _ h9 => h9) rfl (by decide +kernel) rfl rfl (Nat.le_of_ble_eq_true rfl) dJx35411_next_0502b_61 (fun H locs hP hD hS => ?_)
  have hP : va_P (dC, dI) vwCl [(q1, .inl (cO, 10, .inr (.inr (.inr (.inr f))))), (it, .inr (2, [.int 2, .int 1, .int md, .ref q0])), (q0, .inr (3, [.int md, .ref q1, .int 4]))] H := hP
  have hD : va_D A [(q1, .inl (cO, 10, .inr (.inr (.inr (.inr f))))), (it, .inr (2, [.int 2, .int 1, .int md, .ref q0])), (q0, .inr (3, [.int md, .ref q1, .int 4]))] := hD
  refine va_aldq (D := (dC, dI)) (C := "java/lang/Object") hx hb hK hP 0 0 rfl rfl (by unfold vp_in; decide) dJx35411_next_0502b_64 ?_
  refine lt_v (y := .ref v) (congrArg va_rf hv) ?_
  have hP9 := hP.sub (ws' := [(q1, .inl (cO, 10, .inr (.inr (.inr (.inr f))))), (it, .inr (2, [.int 2, .int 1, .int md, .ref q0])), (q0, .inr (3, [.int md, .ref q1, .int 4]))]) [0, 1, 2] rfl
  have hD9 := hD.sub (ws' := [(q1, .inl (cO, 10, .inr (.inr (.inr (.inr f))))), (it, .inr (2, [.int 2, .int 1, .int md, .ref q0])), (q0, .inr (3, [.int md, .ref q1, .int 4]))]) [0, 1, 2] (by decide) rfl
  have hK9 := hK.sub (tys' := [(cO, .object "java/lang/Object")]) [0] rfl
  exact W.aret (v := .ref v) hx hb hr (Or.inl ⟨_, rfl⟩) (Or.inr ⟨_, rfl⟩) (fun t ht hW => ⟨⟨(), v, rfl, trivial, rfl, wOut_at ht hW hP9 hK9 hD9⟩, hS.F ht⟩) hS.2.2 dJx35411_next_0502b_65

set_option maxHeartbeats 4000000 in
set_option maxRecDepth 100000 in
theorem c_Jx35411_next_0502b_2 (l : Launch) (dC : Nat → ClassId) (dI : Nat → Nat → Nat) (g : Nat × Nat × Nat) (it : Nat) (la : Int32) (q0 : Nat) (q1 : Nat) (md : Int32) (cO : ClassId) (f : Nat → Option Nat) (v : Nat) (sz : Nat) (hv : f 2 = some v) : Met l yJx35411_next_0502b wsJx35411_next_0502b ({ frames := 1, cells := 0, slots := 0, locals := 20 } : Room) (va_Pc [.ref it] (wIn dC dI g [(it, .inr (2, [.int 2, .int la, .int md, .ref q0])), (q0, .inr (3, [.int md, .ref q1, .int 4])), (q1, .inl (cO, 10, .inr (.inr (.inr (.inr f)))))] [(cO, .object "java/lang/Object")] sz)) (va_Qr (fun (u : Unit) => True) (fun (u : Unit) (ra : Nat) (t : State) => ra = v ∧ wOut dC dI [(q1, .inl (cO, 10, .inr (.inr (.inr (.inr f))))), (it, .inr (2, [.int 3, .int 2, .int md, .ref q0])), (q0, .inr (3, [.int md, .ref q1, .int 4]))] [(cO, .object "java/lang/Object")] (va_A [(it, .inr (2, [.int 2, .int la, .int md, .ref q0])), (q0, .inr (3, [.int md, .ref q1, .int 4])), (q1, .inl (cO, 10, .inr (.inr (.inr (.inr f)))))] sz) t) (va_A [(it, .inr (2, [.int 2, .int la, .int md, .ref q0])), (q0, .inr (3, [.int md, .ref q1, .int 4])), (q1, .inl (cO, 10, .inr (.inr (.inr (.inr f)))))] sz)) 0 0 (va_A [(it, .inr (2, [.int 2, .int la, .int md, .ref q0])), (q0, .inr (3, [.int md, .ref q1, .int 4])), (q1, .inl (cO, 10, .inr (.inr (.inr (.inr f)))))] sz) := by
  refine Met.ofW (cc := cJx35411_next_0502b) (maxL := 3) (ret := (some (.object "java/lang/Object"))) (by decide) rfl ?_
  intro p e s m args below meth c s₁ B hml hv
  obtain ⟨rfl, hsz, hP, hK, hD0, hG⟩ := hv
  have hx := B.exec
  have hb := B.bytes
  have hr := B.returns
  have hts := atoms_spec (ws := wsJx35411_next_0502b) B.pre
  have hown : s.vm.findClass RJx35411 = some m.cls := findClass_of_methodNamed B.named
  have hlocks := B.notSynchronized
  subst hsz
  have hD := hD0.self (sz := s.heap.size)
  generalize hAe : va_A [(it, .inr (2, [.int 2, .int la, .int md, .ref q0])), (q0, .inr (3, [.int md, .ref q1, .int 4])), (q1, .inl (cO, 10, .inr (.inr (.inr (.inr f)))))] s.heap.size = A at hD hG ⊢
  have hN := hG.1
  have hA : ∀ q : Nat, s.heap.size ≤ q → A q := fun q h => by rw [← hAe]; exact Or.inr h
  have hS : va_S A s.heap s.heap [] := va_S.rf
  have hP : va_P (dC, dI) vwCl [(it, .inr (2, [.int 2, .int la, .int md, .ref q0])), (q0, .inr (3, [.int md, .ref q1, .int 4])), (q1, .inl (cO, 10, .inr (.inr (.inr (.inr f)))))] s.heap := hP
  have hw0 : (Cond.fieldLink RJx35411 25 "java/util/ArrayList$Itr" "cursor" "I").before _ s = true := hts _ (List.mem_cons_of_mem _ (List.mem_append_left _ (List.mem_append_left _ (List.mem_of_getElem? (i := 0) rfl))))
  have hiJx35411 : ∀ w ∈ u_ws RJx35411 TJx35411 4, w ∈ wsJx35411_next_0502b := fun _ h => List.mem_cons_of_mem _ (List.mem_append_left _ (List.mem_append_right _ (h)))
  have hw2 : (Cond.fieldLink RJx35411 1 "java/util/ArrayList$Itr" "this$0" "Ljava/util/ArrayList;").before _ s = true := hts _ (List.mem_cons_of_mem _ (List.mem_append_left _ (List.mem_append_left _ (List.mem_of_getElem? (i := 1) rfl))))
  have hiJx4a65c : ∀ w ∈ u_ws RJx4a65c TJx4a65c 3, w ∈ wsJx35411_next_0502b := fun _ h => List.mem_cons_of_mem _ (List.mem_append_right _ (h))
  have hw4 : (Cond.fieldLink RJx35411 37 "java/util/ArrayList" "elementData" "[Ljava/lang/Object;").before _ s = true := hts _ (List.mem_cons_of_mem _ (List.mem_append_left _ (List.mem_append_left _ (List.mem_of_getElem? (i := 2) rfl))))
  have hw5 : (Cond.fieldLink RJx35411 13 "java/util/ArrayList$Itr" "lastRet" "I").before _ s = true := hts _ (List.mem_cons_of_mem _ (List.mem_append_left _ (List.mem_append_left _ (List.mem_of_getElem? (i := 3) rfl))))
  have hl := lv_entry ([.ref it]) (n := 3) (Nat.le_of_ble_eq_true rfl)
  rw [lg_entry_eq]
  generalize (lg_sl ([.ref it]) ++ List.replicate (3 - (lg_sl ([.ref it])).length) Slot.unset).toArray = ls at hl ⊢
  have hl : lv_has ls 3 [(0, .ref it)] := hl
  refine lv_aload_n hx hb dJx35411_next_0502b_0 rfl (lv_at hl 0 rfl) ?_
  have hPc := hP.sub (ws' := [(it, .inr (2, [.int 2, .int la, .int md, .ref q0])), (q0, .inr (3, [.int md, .ref q1, .int 4]))]) [0, 1] rfl
  have hDc := hD.sub (ws' := [(it, .inr (2, [.int 2, .int la, .int md, .ref q0])), (q0, .inr (3, [.int md, .ref q1, .int 4]))]) [0, 1] (by decide) rfl
  have hKc := hK.sub (tys' := []) [] rfl
  have hFc := va_free (wc := [(it, .inr (2, [.int 2, .int la, .int md, .ref q0])), (q0, .inr (3, [.int md, .ref q1, .int 4]))]) hD hS hA [0, 1] rfl
  refine va_callv (va_runV (As := []) (rest := []) ⟨hx, hb, hml, hown, hts⟩ (c_Jx35411_checkForComodification_da8c8 l dC dI g it 2 la q0 q1 md 4 s.heap.size) (cwV 0 hts gJx35411_next_0502b_Jx35411_checkForComodification_da8c8 rfl rfl rfl (by decide +kernel) ⟨Nat.le_of_ble_eq_true rfl, Nat.le_of_ble_eq_true rfl⟩) ⟨wIn_blind, va_recv hK hP (ci := 2) (q0 := 0) rfl rfl, wIn_at hPc hKc hDc hG hS hFc⟩ rfl rfl hl.1 rfl (lv_room (Nat.le_of_ble_eq_true rfl)) dJx35411_next_0502b_1 ⟨Nat.le_of_ble_eq_true rfl, Nat.le_of_ble_eq_true rfl⟩) hS (fun q _ h => hFc q h) hFc (fun u t H1 locs ht hvm hw hB hz1 hk1 hS => ?_)
  obtain ⟨hP1, hK1, hD1⟩ := hB
  rw [ht] at hP1
  obtain ⟨hP, hD⟩ := va_join (wr := [(q1, .inl (cO, 10, .inr (.inr (.inr (.inr f)))))]) (w1 := [(it, .inr (2, [.int 2, .int la, .int md, .ref q0])), (q0, .inr (3, [.int md, .ref q1, .int 4]))]) hP hD [0, 1] [2] rfl rfl (by decide) (by decide) hk1 hFc hP1 hD1
  generalize H1 = H at hP hS ⊢
  have hP : va_P (dC, dI) vwCl [(q1, .inl (cO, 10, .inr (.inr (.inr (.inr f))))), (it, .inr (2, [.int 2, .int la, .int md, .ref q0])), (q0, .inr (3, [.int md, .ref q1, .int 4]))] H := hP
  have hD : va_D A [(q1, .inl (cO, 10, .inr (.inr (.inr (.inr f))))), (it, .inr (2, [.int 2, .int la, .int md, .ref q0])), (q0, .inr (3, [.int md, .ref q1, .int 4]))] := hD
  refine lv_aload_n hx hb dJx35411_next_0502b_4 rfl (lv_at hl 0 rfl) ?_
  refine va_get (D := (dC, dI)) (ci := 2) (v := .int 2) (C := RJx35411) (T := TJx35411) (N := 4) hx hb hts hiJx35411 hown hK hP 1 rfl rfl 0 (by decide) (hw0) (fun _ h9 => h9) rfl dJx35411_next_0502b_5 ?_
  refine lv_istore_n (lv' := [(1, .int 2), (0, .ref it)]) hx hb dJx35411_next_0502b_8 rfl hl (by decide) rfl (fun ls hl => ?_)
  refine lv_iload_n hx hb dJx35411_next_0502b_9 rfl (lv_at hl 0 rfl) ?_
  refine lv_aload_n hx hb dJx35411_next_0502b_10 rfl (lv_at hl 1 rfl) ?_
  refine va_get (D := (dC, dI)) (ci := 2) (v := .ref q0) (C := RJx35411) (T := TJx35411) (N := 4) hx hb hts hiJx35411 hown hK hP 1 rfl rfl 3 (by decide) (hw2) (fun _ h9 => h9) rfl dJx35411_next_0502b_11 ?_
  refine va_getN (D := (dC, dI)) (ci := 3) (v := .int 4) (C := RJx4a65c) (T := TJx4a65c) (N := 3) hx hb hts hiJx4a65c hown hK hP 2 rfl rfl 2 (by decide) (va_Nw.use rfl (hN _ (List.mem_of_getElem? (i := 49) rfl))) (fun _ h9 => h9) rfl dJx35411_next_0502b_14 ?_
  refine lv_icmp_lt (tgt := 28) hx hb dJx35411_next_0502b_17 (by decide) (fun _ => ?_) (fun c => absurd (by decide) c)
  refine lv_aload_n hx hb dJx35411_next_0502b_28 rfl (lv_at hl 1 rfl) ?_
  refine va_get (D := (dC, dI)) (ci := 2) (v := .ref q0) (C := RJx35411) (T := TJx35411) (N := 4) hx hb hts hiJx35411 hown hK hP 1 rfl rfl 3 (by decide) (hw2) (fun _ h9 => h9) rfl dJx35411_next_0502b_29 ?_
  refine va_get (D := (dC, dI)) (ci := 3) (v := .ref q1) (C := RJx4a65c) (T := TJx4a65c) (N := 3) hx hb hts hiJx4a65c hown hK hP 2 rfl rfl 1 (by decide) (hw4) (fun _ h9 => h9) rfl dJx35411_next_0502b_32 ?_
  refine lv_astore_n (lv' := [(2, .ref q1), (1, .int 2), (0, .ref it)]) hx hb dJx35411_next_0502b_35 rfl hl (by decide) rfl (fun ls hl => ?_)
  refine lv_iload_n hx hb dJx35411_next_0502b_36 rfl (lv_at hl 1 rfl) ?_
  refine lv_aload_n hx hb dJx35411_next_0502b_37 rfl (lv_at hl 0 rfl) ?_
  refine va_alen (D := (dC, dI)) hx hb hK hP 0 0 rfl rfl (v := 10) rfl dJx35411_next_0502b_38 ?_
  refine lv_icmp_lt (tgt := 50) hx hb dJx35411_next_0502b_39 (by decide) (fun _ => ?_) (fun c => absurd (by decide) c)
  refine lv_aload_n hx hb dJx35411_next_0502b_50 rfl (lv_at hl 2 rfl) ?_
  refine lv_iload_n hx hb dJx35411_next_0502b_51 rfl (lv_at hl 1 rfl) ?_
  refine lv_iconst (v := 1) hx hb dJx35411_next_0502b_52 (by decide) ?_
  refine lv_iadd hx hb dJx35411_next_0502b_53 ?_
  refine lt_ci (y := 3) (by first | rfl | decide) ?_
  refine va_put (D := (dC, dI)) (ci := 2) (v := .int 3) (ty := .int) (C := RJx35411) (T := TJx35411) (N := 4) hx hb hts hiJx35411 tyJx35411 tyJx35411_ok nmJx35411 hown hK hP hD hS 1 rfl rfl 0 (by decide) (hw0) (fun _ h9 => h9) rfl (by decide +kernel) rfl rfl (Nat.le_of_ble_eq_true rfl) dJx35411_next_0502b_54 (fun H locs hP hD hS => ?_)
  have hP : va_P (dC, dI) vwCl [(q1, .inl (cO, 10, .inr (.inr (.inr (.inr f))))), (it, .inr (2, [.int 3, .int la, .int md, .ref q0])), (q0, .inr (3, [.int md, .ref q1, .int 4]))] H := hP
  have hD : va_D A [(q1, .inl (cO, 10, .inr (.inr (.inr (.inr f))))), (it, .inr (2, [.int 3, .int la, .int md, .ref q0])), (q0, .inr (3, [.int md, .ref q1, .int 4]))] := hD
  refine lv_aload_n hx hb dJx35411_next_0502b_57 rfl (lv_at hl 0 rfl) ?_
  refine lv_aload_n hx hb dJx35411_next_0502b_58 rfl (lv_at hl 2 rfl) ?_
  refine lv_iload_n hx hb dJx35411_next_0502b_59 rfl (lv_at hl 1 rfl) ?_
  refine lv_dup_x1 hx hb dJx35411_next_0502b_60 rfl rfl ?_
  refine va_put (D := (dC, dI)) (ci := 2) (v := .int 2) (ty := .int) (C := RJx35411) (T := TJx35411) (N := 4) hx hb hts hiJx35411 tyJx35411 tyJx35411_ok nmJx35411 hown hK hP hD hS 1 rfl rfl 1 (by decide) (hw5) (fun _ h9 => h9) rfl (by decide +kernel) rfl rfl (Nat.le_of_ble_eq_true rfl) dJx35411_next_0502b_61 (fun H locs hP hD hS => ?_)
  have hP : va_P (dC, dI) vwCl [(q1, .inl (cO, 10, .inr (.inr (.inr (.inr f))))), (it, .inr (2, [.int 3, .int 2, .int md, .ref q0])), (q0, .inr (3, [.int md, .ref q1, .int 4]))] H := hP
  have hD : va_D A [(q1, .inl (cO, 10, .inr (.inr (.inr (.inr f))))), (it, .inr (2, [.int 3, .int 2, .int md, .ref q0])), (q0, .inr (3, [.int md, .ref q1, .int 4]))] := hD
  refine va_aldq (D := (dC, dI)) (C := "java/lang/Object") hx hb hK hP 0 0 rfl rfl (by unfold vp_in; decide) dJx35411_next_0502b_64 ?_
  refine lt_v (y := .ref v) (congrArg va_rf hv) ?_
  have hP9 := hP.sub (ws' := [(q1, .inl (cO, 10, .inr (.inr (.inr (.inr f))))), (it, .inr (2, [.int 3, .int 2, .int md, .ref q0])), (q0, .inr (3, [.int md, .ref q1, .int 4]))]) [0, 1, 2] rfl
  have hD9 := hD.sub (ws' := [(q1, .inl (cO, 10, .inr (.inr (.inr (.inr f))))), (it, .inr (2, [.int 3, .int 2, .int md, .ref q0])), (q0, .inr (3, [.int md, .ref q1, .int 4]))]) [0, 1, 2] (by decide) rfl
  have hK9 := hK.sub (tys' := [(cO, .object "java/lang/Object")]) [0] rfl
  exact W.aret (v := .ref v) hx hb hr (Or.inl ⟨_, rfl⟩) (Or.inr ⟨_, rfl⟩) (fun t ht hW => ⟨⟨(), v, rfl, trivial, rfl, wOut_at ht hW hP9 hK9 hD9⟩, hS.F ht⟩) hS.2.2 dJx35411_next_0502b_65

set_option maxHeartbeats 4000000 in
set_option maxRecDepth 100000 in
theorem c_Jx35411_next_0502b_3 (l : Launch) (dC : Nat → ClassId) (dI : Nat → Nat → Nat) (g : Nat × Nat × Nat) (it : Nat) (la : Int32) (q0 : Nat) (q1 : Nat) (md : Int32) (cO : ClassId) (f : Nat → Option Nat) (v : Nat) (sz : Nat) (hv : f 3 = some v) : Met l yJx35411_next_0502b wsJx35411_next_0502b ({ frames := 1, cells := 0, slots := 0, locals := 20 } : Room) (va_Pc [.ref it] (wIn dC dI g [(it, .inr (2, [.int 3, .int la, .int md, .ref q0])), (q0, .inr (3, [.int md, .ref q1, .int 4])), (q1, .inl (cO, 10, .inr (.inr (.inr (.inr f)))))] [(cO, .object "java/lang/Object")] sz)) (va_Qr (fun (u : Unit) => True) (fun (u : Unit) (ra : Nat) (t : State) => ra = v ∧ wOut dC dI [(q1, .inl (cO, 10, .inr (.inr (.inr (.inr f))))), (it, .inr (2, [.int 4, .int 3, .int md, .ref q0])), (q0, .inr (3, [.int md, .ref q1, .int 4]))] [(cO, .object "java/lang/Object")] (va_A [(it, .inr (2, [.int 3, .int la, .int md, .ref q0])), (q0, .inr (3, [.int md, .ref q1, .int 4])), (q1, .inl (cO, 10, .inr (.inr (.inr (.inr f)))))] sz) t) (va_A [(it, .inr (2, [.int 3, .int la, .int md, .ref q0])), (q0, .inr (3, [.int md, .ref q1, .int 4])), (q1, .inl (cO, 10, .inr (.inr (.inr (.inr f)))))] sz)) 0 0 (va_A [(it, .inr (2, [.int 3, .int la, .int md, .ref q0])), (q0, .inr (3, [.int md, .ref q1, .int 4])), (q1, .inl (cO, 10, .inr (.inr (.inr (.inr f)))))] sz) := by
  refine Met.ofW (cc := cJx35411_next_0502b) (maxL := 3) (ret := (some (.object "java/lang/Object"))) (by decide) rfl ?_
  intro p e s m args below meth c s₁ B hml hv
  obtain ⟨rfl, hsz, hP, hK, hD0, hG⟩ := hv
  have hx := B.exec
  have hb := B.bytes
  have hr := B.returns
  have hts := atoms_spec (ws := wsJx35411_next_0502b) B.pre
  have hown : s.vm.findClass RJx35411 = some m.cls := findClass_of_methodNamed B.named
  have hlocks := B.notSynchronized
  subst hsz
  have hD := hD0.self (sz := s.heap.size)
  generalize hAe : va_A [(it, .inr (2, [.int 3, .int la, .int md, .ref q0])), (q0, .inr (3, [.int md, .ref q1, .int 4])), (q1, .inl (cO, 10, .inr (.inr (.inr (.inr f)))))] s.heap.size = A at hD hG ⊢
  have hN := hG.1
  have hA : ∀ q : Nat, s.heap.size ≤ q → A q := fun q h => by rw [← hAe]; exact Or.inr h
  have hS : va_S A s.heap s.heap [] := va_S.rf
  have hP : va_P (dC, dI) vwCl [(it, .inr (2, [.int 3, .int la, .int md, .ref q0])), (q0, .inr (3, [.int md, .ref q1, .int 4])), (q1, .inl (cO, 10, .inr (.inr (.inr (.inr f)))))] s.heap := hP
  have hw0 : (Cond.fieldLink RJx35411 25 "java/util/ArrayList$Itr" "cursor" "I").before _ s = true := hts _ (List.mem_cons_of_mem _ (List.mem_append_left _ (List.mem_append_left _ (List.mem_of_getElem? (i := 0) rfl))))
  have hiJx35411 : ∀ w ∈ u_ws RJx35411 TJx35411 4, w ∈ wsJx35411_next_0502b := fun _ h => List.mem_cons_of_mem _ (List.mem_append_left _ (List.mem_append_right _ (h)))
  have hw2 : (Cond.fieldLink RJx35411 1 "java/util/ArrayList$Itr" "this$0" "Ljava/util/ArrayList;").before _ s = true := hts _ (List.mem_cons_of_mem _ (List.mem_append_left _ (List.mem_append_left _ (List.mem_of_getElem? (i := 1) rfl))))
  have hiJx4a65c : ∀ w ∈ u_ws RJx4a65c TJx4a65c 3, w ∈ wsJx35411_next_0502b := fun _ h => List.mem_cons_of_mem _ (List.mem_append_right _ (h))
  have hw4 : (Cond.fieldLink RJx35411 37 "java/util/ArrayList" "elementData" "[Ljava/lang/Object;").before _ s = true := hts _ (List.mem_cons_of_mem _ (List.mem_append_left _ (List.mem_append_left _ (List.mem_of_getElem? (i := 2) rfl))))
  have hw5 : (Cond.fieldLink RJx35411 13 "java/util/ArrayList$Itr" "lastRet" "I").before _ s = true := hts _ (List.mem_cons_of_mem _ (List.mem_append_left _ (List.mem_append_left _ (List.mem_of_getElem? (i := 3) rfl))))
  have hl := lv_entry ([.ref it]) (n := 3) (Nat.le_of_ble_eq_true rfl)
  rw [lg_entry_eq]
  generalize (lg_sl ([.ref it]) ++ List.replicate (3 - (lg_sl ([.ref it])).length) Slot.unset).toArray = ls at hl ⊢
  have hl : lv_has ls 3 [(0, .ref it)] := hl
  refine lv_aload_n hx hb dJx35411_next_0502b_0 rfl (lv_at hl 0 rfl) ?_
  have hPc := hP.sub (ws' := [(it, .inr (2, [.int 3, .int la, .int md, .ref q0])), (q0, .inr (3, [.int md, .ref q1, .int 4]))]) [0, 1] rfl
  have hDc := hD.sub (ws' := [(it, .inr (2, [.int 3, .int la, .int md, .ref q0])), (q0, .inr (3, [.int md, .ref q1, .int 4]))]) [0, 1] (by decide) rfl
  have hKc := hK.sub (tys' := []) [] rfl
  have hFc := va_free (wc := [(it, .inr (2, [.int 3, .int la, .int md, .ref q0])), (q0, .inr (3, [.int md, .ref q1, .int 4]))]) hD hS hA [0, 1] rfl
  refine va_callv (va_runV (As := []) (rest := []) ⟨hx, hb, hml, hown, hts⟩ (c_Jx35411_checkForComodification_da8c8 l dC dI g it 3 la q0 q1 md 4 s.heap.size) (cwV 0 hts gJx35411_next_0502b_Jx35411_checkForComodification_da8c8 rfl rfl rfl (by decide +kernel) ⟨Nat.le_of_ble_eq_true rfl, Nat.le_of_ble_eq_true rfl⟩) ⟨wIn_blind, va_recv hK hP (ci := 2) (q0 := 0) rfl rfl, wIn_at hPc hKc hDc hG hS hFc⟩ rfl rfl hl.1 rfl (lv_room (Nat.le_of_ble_eq_true rfl)) dJx35411_next_0502b_1 ⟨Nat.le_of_ble_eq_true rfl, Nat.le_of_ble_eq_true rfl⟩) hS (fun q _ h => hFc q h) hFc (fun u t H1 locs ht hvm hw hB hz1 hk1 hS => ?_)
  obtain ⟨hP1, hK1, hD1⟩ := hB
  rw [ht] at hP1
  obtain ⟨hP, hD⟩ := va_join (wr := [(q1, .inl (cO, 10, .inr (.inr (.inr (.inr f)))))]) (w1 := [(it, .inr (2, [.int 3, .int la, .int md, .ref q0])), (q0, .inr (3, [.int md, .ref q1, .int 4]))]) hP hD [0, 1] [2] rfl rfl (by decide) (by decide) hk1 hFc hP1 hD1
  generalize H1 = H at hP hS ⊢
  have hP : va_P (dC, dI) vwCl [(q1, .inl (cO, 10, .inr (.inr (.inr (.inr f))))), (it, .inr (2, [.int 3, .int la, .int md, .ref q0])), (q0, .inr (3, [.int md, .ref q1, .int 4]))] H := hP
  have hD : va_D A [(q1, .inl (cO, 10, .inr (.inr (.inr (.inr f))))), (it, .inr (2, [.int 3, .int la, .int md, .ref q0])), (q0, .inr (3, [.int md, .ref q1, .int 4]))] := hD
  refine lv_aload_n hx hb dJx35411_next_0502b_4 rfl (lv_at hl 0 rfl) ?_
  refine va_get (D := (dC, dI)) (ci := 2) (v := .int 3) (C := RJx35411) (T := TJx35411) (N := 4) hx hb hts hiJx35411 hown hK hP 1 rfl rfl 0 (by decide) (hw0) (fun _ h9 => h9) rfl dJx35411_next_0502b_5 ?_
  refine lv_istore_n (lv' := [(1, .int 3), (0, .ref it)]) hx hb dJx35411_next_0502b_8 rfl hl (by decide) rfl (fun ls hl => ?_)
  refine lv_iload_n hx hb dJx35411_next_0502b_9 rfl (lv_at hl 0 rfl) ?_
  refine lv_aload_n hx hb dJx35411_next_0502b_10 rfl (lv_at hl 1 rfl) ?_
  refine va_get (D := (dC, dI)) (ci := 2) (v := .ref q0) (C := RJx35411) (T := TJx35411) (N := 4) hx hb hts hiJx35411 hown hK hP 1 rfl rfl 3 (by decide) (hw2) (fun _ h9 => h9) rfl dJx35411_next_0502b_11 ?_
  refine va_getN (D := (dC, dI)) (ci := 3) (v := .int 4) (C := RJx4a65c) (T := TJx4a65c) (N := 3) hx hb hts hiJx4a65c hown hK hP 2 rfl rfl 2 (by decide) (va_Nw.use rfl (hN _ (List.mem_of_getElem? (i := 49) rfl))) (fun _ h9 => h9) rfl dJx35411_next_0502b_14 ?_
  refine lv_icmp_lt (tgt := 28) hx hb dJx35411_next_0502b_17 (by decide) (fun _ => ?_) (fun c => absurd (by decide) c)
  refine lv_aload_n hx hb dJx35411_next_0502b_28 rfl (lv_at hl 1 rfl) ?_
  refine va_get (D := (dC, dI)) (ci := 2) (v := .ref q0) (C := RJx35411) (T := TJx35411) (N := 4) hx hb hts hiJx35411 hown hK hP 1 rfl rfl 3 (by decide) (hw2) (fun _ h9 => h9) rfl dJx35411_next_0502b_29 ?_
  refine va_get (D := (dC, dI)) (ci := 3) (v := .ref q1) (C := RJx4a65c) (T := TJx4a65c) (N := 3) hx hb hts hiJx4a65c hown hK hP 2 rfl rfl 1 (by decide) (hw4) (fun _ h9 => h9) rfl dJx35411_next_0502b_32 ?_
  refine lv_astore_n (lv' := [(2, .ref q1), (1, .int 3), (0, .ref it)]) hx hb dJx35411_next_0502b_35 rfl hl (by decide) rfl (fun ls hl => ?_)
  refine lv_iload_n hx hb dJx35411_next_0502b_36 rfl (lv_at hl 1 rfl) ?_
  refine lv_aload_n hx hb dJx35411_next_0502b_37 rfl (lv_at hl 0 rfl) ?_
  refine va_alen (D := (dC, dI)) hx hb hK hP 0 0 rfl rfl (v := 10) rfl dJx35411_next_0502b_38 ?_
  refine lv_icmp_lt (tgt := 50) hx hb dJx35411_next_0502b_39 (by decide) (fun _ => ?_) (fun c => absurd (by decide) c)
  refine lv_aload_n hx hb dJx35411_next_0502b_50 rfl (lv_at hl 2 rfl) ?_
  refine lv_iload_n hx hb dJx35411_next_0502b_51 rfl (lv_at hl 1 rfl) ?_
  refine lv_iconst (v := 1) hx hb dJx35411_next_0502b_52 (by decide) ?_
  refine lv_iadd hx hb dJx35411_next_0502b_53 ?_
  refine lt_ci (y := 4) (by first | rfl | decide) ?_
  refine va_put (D := (dC, dI)) (ci := 2) (v := .int 4) (ty := .int) (C := RJx35411) (T := TJx35411) (N := 4) hx hb hts hiJx35411 tyJx35411 tyJx35411_ok nmJx35411 hown hK hP hD hS 1 rfl rfl 0 (by decide) (hw0) (fun _ h9 => h9) rfl (by decide +kernel) rfl rfl (Nat.le_of_ble_eq_true rfl) dJx35411_next_0502b_54 (fun H locs hP hD hS => ?_)
  have hP : va_P (dC, dI) vwCl [(q1, .inl (cO, 10, .inr (.inr (.inr (.inr f))))), (it, .inr (2, [.int 4, .int la, .int md, .ref q0])), (q0, .inr (3, [.int md, .ref q1, .int 4]))] H := hP
  have hD : va_D A [(q1, .inl (cO, 10, .inr (.inr (.inr (.inr f))))), (it, .inr (2, [.int 4, .int la, .int md, .ref q0])), (q0, .inr (3, [.int md, .ref q1, .int 4]))] := hD
  refine lv_aload_n hx hb dJx35411_next_0502b_57 rfl (lv_at hl 0 rfl) ?_
  refine lv_aload_n hx hb dJx35411_next_0502b_58 rfl (lv_at hl 2 rfl) ?_
  refine lv_iload_n hx hb dJx35411_next_0502b_59 rfl (lv_at hl 1 rfl) ?_
  refine lv_dup_x1 hx hb dJx35411_next_0502b_60 rfl rfl ?_
  refine va_put (D := (dC, dI)) (ci := 2) (v := .int 3) (ty := .int) (C := RJx35411) (T := TJx35411) (N := 4) hx hb hts hiJx35411 tyJx35411 tyJx35411_ok nmJx35411 hown hK hP hD hS 1 rfl rfl 1 (by decide) (hw5) (fun _ h9 => h9) rfl (by decide +kernel) rfl rfl (Nat.le_of_ble_eq_true rfl) dJx35411_next_0502b_61 (fun H locs hP hD hS => ?_)
  have hP : va_P (dC, dI) vwCl [(q1, .inl (cO, 10, .inr (.inr (.inr (.inr f))))), (it, .inr (2, [.int 4, .int 3, .int md, .ref q0])), (q0, .inr (3, [.int md, .ref q1, .int 4]))] H := hP
  have hD : va_D A [(q1, .inl (cO, 10, .inr (.inr (.inr (.inr f))))), (it, .inr (2, [.int 4, .int 3, .int md, .ref q0])), (q0, .inr (3, [.int md, .ref q1, .int 4]))] := hD
  refine va_aldq (D := (dC, dI)) (C := "java/lang/Object") hx hb hK hP 0 0 rfl rfl (by unfold vp_in; decide) dJx35411_next_0502b_64 ?_
  refine lt_v (y := .ref v) (congrArg va_rf hv) ?_
  have hP9 := hP.sub (ws' := [(q1, .inl (cO, 10, .inr (.inr (.inr (.inr f))))), (it, .inr (2, [.int 4, .int 3, .int md, .ref q0])), (q0, .inr (3, [.int md, .ref q1, .int 4]))]) [0, 1, 2] rfl
  have hD9 := hD.sub (ws' := [(q1, .inl (cO, 10, .inr (.inr (.inr (.inr f))))), (it, .inr (2, [.int 4, .int 3, .int md, .ref q0])), (q0, .inr (3, [.int md, .ref q1, .int 4]))]) [0, 1, 2] (by decide) rfl
  have hK9 := hK.sub (tys' := [(cO, .object "java/lang/Object")]) [0] rfl
  exact W.aret (v := .ref v) hx hb hr (Or.inl ⟨_, rfl⟩) (Or.inr ⟨_, rfl⟩) (fun t ht hW => ⟨⟨(), v, rfl, trivial, rfl, wOut_at ht hW hP9 hK9 hD9⟩, hS.F ht⟩) hS.2.2 dJx35411_next_0502b_65
