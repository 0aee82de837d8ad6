set_option maxHeartbeats 4000000 in
set_option maxRecDepth 100000 in
theorem c_J6_bitCount_0f7a4_0 (l : Launch) (dC : Nat → ClassId) (dI : Nat → Nat → Nat) (g : Nat × Nat × Nat) (sz : Nat) : Met l yJ6_bitCount_0f7a4 wsJ6_bitCount_0f7a4 ({ frames := 0, cells := 0, slots := 0, locals := 0 } : Room) (va_Pc [.int 0] (wIn dC dI g [] [] sz)) (va_Qi (fun (r : Int32) (u : Unit) => r = 0) (fun (u : Unit) (t : State) => wOut dC dI [] [] (va_A [] sz) t) (va_A [] sz)) 0 0 (va_A [] sz) := by
  refine Met.ofW (cc := cJ6_bitCount_0f7a4) (maxL := 1) (ret := (some .int)) (by decide) rfl ?_
  intro p e s m args below meth c s₁ B hml hv
  obtain ⟨rfl, hsz, hP, hK, hD0, hG⟩ := hv
  have hx := B.exec
  have hb := B.bytes
  have hr := B.returns
  have hts := atoms_spec (ws := wsJ6_bitCount_0f7a4) B.pre
  have hown : s.vm.findClass RJ6 = some m.cls := findClass_of_methodNamed B.named
  have hlocks := B.notSynchronized
  subst hsz
  have hD := hD0.self (sz := s.heap.size)
  generalize hAe : va_A [] s.heap.size = A at hD hG ⊢
  have hN := hG.1
  have hA : ∀ q : Nat, s.heap.size ≤ q → A q := fun q h => by rw [← hAe]; exact Or.inr h
  have hS : va_S A s.heap s.heap [] := va_S.rf
  have hP : va_P (dC, dI) vwCl [] s.heap := hP
  have hw0 : (Cond.constant RJ6 265 (1431655765)).before _ s = true := hts _ (List.mem_cons_of_mem _ (List.mem_of_getElem? (i := 0) rfl))
  have hw1 : (Cond.constant RJ6 266 (858993459)).before _ s = true := hts _ (List.mem_cons_of_mem _ (List.mem_of_getElem? (i := 1) rfl))
  have hw2 : (Cond.constant RJ6 267 (252645135)).before _ s = true := hts _ (List.mem_cons_of_mem _ (List.mem_of_getElem? (i := 2) rfl))
  have hl := lv_entry ([.int 0]) (n := 1) (Nat.le_of_ble_eq_true rfl)
  rw [lg_entry_eq]
  generalize (lg_sl ([.int 0]) ++ List.replicate (1 - (lg_sl ([.int 0])).length) Slot.unset).toArray = ls at hl ⊢
  have hl : lv_has ls 1 [(0, .int 0)] := hl
  refine lv_iload_n hx hb dJ6_bitCount_0f7a4_0 rfl (lv_at hl 0 rfl) ?_
  refine lv_iload_n hx hb dJ6_bitCount_0f7a4_1 rfl (lv_at hl 0 rfl) ?_
  refine lv_iconst (v := 1) hx hb dJ6_bitCount_0f7a4_2 (by decide) ?_
  refine lv_iushr (v := 0) hx hb dJ6_bitCount_0f7a4_3 (by decide) ?_
  refine lv_ldcw (v := 1431655765) hx hb hown hw0 dJ6_bitCount_0f7a4_4 ?_
  refine lv_iand hx hb dJ6_bitCount_0f7a4_7 ?_
  refine lt_ci (y := 0) (by first | rfl | decide) ?_
  refine lv_isub hx hb dJ6_bitCount_0f7a4_8 ?_
  refine lt_ci (y := 0) (by first | rfl | decide) ?_
  refine lv_istore_n (lv' := [(0, .int 0)]) hx hb dJ6_bitCount_0f7a4_9 rfl hl (by decide) rfl (fun ls hl => ?_)
  refine lv_iload_n hx hb dJ6_bitCount_0f7a4_10 rfl (lv_at hl 0 rfl) ?_
  refine lv_ldcw (v := 858993459) hx hb hown hw1 dJ6_bitCount_0f7a4_11 ?_
  refine lv_iand hx hb dJ6_bitCount_0f7a4_14 ?_
  refine lt_ci (y := 0) (by first | rfl | decide) ?_
  refine lv_iload_n hx hb dJ6_bitCount_0f7a4_15 rfl (lv_at hl 0 rfl) ?_
  refine lv_iconst (v := 2) hx hb dJ6_bitCount_0f7a4_16 (by decide) ?_
  refine lv_iushr (v := 0) hx hb dJ6_bitCount_0f7a4_17 (by decide) ?_
  refine lv_ldcw (v := 858993459) hx hb hown hw1 dJ6_bitCount_0f7a4_18 ?_
  refine lv_iand hx hb dJ6_bitCount_0f7a4_21 ?_
  refine lt_ci (y := 0) (by first | rfl | decide) ?_
  refine lv_iadd hx hb dJ6_bitCount_0f7a4_22 ?_
  refine lt_ci (y := 0) (by first | rfl | decide) ?_
  refine lv_istore_n (lv' := [(0, .int 0)]) hx hb dJ6_bitCount_0f7a4_23 rfl hl (by decide) rfl (fun ls hl => ?_)
  refine lv_iload_n hx hb dJ6_bitCount_0f7a4_24 rfl (lv_at hl 0 rfl) ?_
  refine lv_iload_n hx hb dJ6_bitCount_0f7a4_25 rfl (lv_at hl 0 rfl) ?_
  refine lv_iconst (v := 4) hx hb dJ6_bitCount_0f7a4_26 (by decide) ?_
  refine lv_iushr (v := 0) hx hb dJ6_bitCount_0f7a4_27 (by decide) ?_
  refine lv_iadd hx hb dJ6_bitCount_0f7a4_28 ?_
  refine lt_ci (y := 0) (by first | rfl | decide) ?_
  refine lv_ldcw (v := 252645135) hx hb hown hw2 dJ6_bitCount_0f7a4_29 ?_
  refine lv_iand hx hb dJ6_bitCount_0f7a4_32 ?_
  refine lt_ci (y := 0) (by first | rfl | decide) ?_
  refine lv_istore_n (lv' := [(0, .int 0)]) hx hb dJ6_bitCount_0f7a4_33 rfl hl (by decide) rfl (fun ls hl => ?_)
  refine lv_iload_n hx hb dJ6_bitCount_0f7a4_34 rfl (lv_at hl 0 rfl) ?_
  refine lv_iload_n hx hb dJ6_bitCount_0f7a4_35 rfl (lv_at hl 0 rfl) ?_
  refine lv_bipush (v := 8) hx hb dJ6_bitCount_0f7a4_36 (by decide) ?_
  refine lv_iushr (v := 0) hx hb dJ6_bitCount_0f7a4_38 (by decide) ?_
  refine lv_iadd hx hb dJ6_bitCount_0f7a4_39 ?_
  refine lt_ci (y := 0) (by first | rfl | decide) ?_
  refine lv_istore_n (lv' := [(0, .int 0)]) hx hb dJ6_bitCount_0f7a4_40 rfl hl (by decide) rfl (fun ls hl => ?_)
  refine lv_iload_n hx hb dJ6_bitCount_0f7a4_41 rfl (lv_at hl 0 rfl) ?_
  refine lv_iload_n hx hb dJ6_bitCount_0f7a4_42 rfl (lv_at hl 0 rfl) ?_
  refine lv_bipush (v := 16) hx hb dJ6_bitCount_0f7a4_43 (by decide) ?_
  refine lv_iushr (v := 0) hx hb dJ6_bitCount_0f7a4_45 (by decide) ?_
  refine lv_iadd hx hb dJ6_bitCount_0f7a4_46 ?_
  refine lt_ci (y := 0) (by first | rfl | decide) ?_
  refine lv_istore_n (lv' := [(0, .int 0)]) hx hb dJ6_bitCount_0f7a4_47 rfl hl (by decide) rfl (fun ls hl => ?_)
  refine lv_iload_n hx hb dJ6_bitCount_0f7a4_48 rfl (lv_at hl 0 rfl) ?_
  refine lv_bipush (v := 63) hx hb dJ6_bitCount_0f7a4_49 (by decide) ?_
  refine lv_iand hx hb dJ6_bitCount_0f7a4_51 ?_
  refine lt_ci (y := 0) (by first | rfl | decide) ?_
  have hP9 := hP.sub (ws' := []) [] rfl
  have hD9 := hD.sub (ws' := []) [] (by decide) rfl
  have hK9 := hK.sub (tys' := []) [] rfl
  exact W.iret (v := 0) hx hb hr (fun t ht hW => ⟨⟨0, (), rfl, rfl, wOut_at ht hW hP9 hK9 hD9⟩, hS.F ht⟩) hS.2.2 dJ6_bitCount_0f7a4_52

set_option maxHeartbeats 4000000 in
set_option maxRecDepth 100000 in
theorem c_X0_countEnergy_1 (l : Launch) (dC : Nat → ClassId) (dI : Nat → Nat → Nat) (g : Nat × Nat × Nat) (ah : Nat) (ac : Nat) (au : Nat) (ab : Nat) (an : Nat) (ak : Nat) (ad : Nat) (ar : Nat) (t1 : Nat) (t2 : Nat) (t3 : Nat) (t4 : Nat) (t5 : Nat) (t6 : Nat) (t7 : Nat) (cI : ClassId) (tm : Int32) (sl : Int32) (en : Int64) (sz : Nat) : Met l yX0_countEnergy wsX0_countEnergy ({ frames := 1, cells := 0, slots := 0, locals := 20 } : Room) (va_Pc [.ref ah, .int 1] (wIn dC dI g [(ah, .inr (4, [.ref ac, .ref au, .ref ab, .ref an, .ref ak, .ref ad, .int tm, .int sl, .long en])), (au, .inr (10, [.ref t1, .ref t2, .ref t3, .ref t4, .ref t5, .ref t6, .ref t7, .int 0, .int 0])), (ak, .inr (8, [.ref ar, .int 105, .int 0, .int (-1), .int 0, .int 0, .int 0]))] [(cI, .int)] sz)) (va_Qv (fun (u : Unit) => True) (fun (u : Unit) (t : State) => wOut dC dI [(ah, .inr (4, [.ref ac, .ref au, .ref ab, .ref an, .ref ak, .ref ad, .int tm, .int sl, .long (en + 5)])), (au, .inr (10, [.ref t1, .ref t2, .ref t3, .ref t4, .ref t5, .ref t6, .ref t7, .int 0, .int 0])), (ak, .inr (8, [.ref ar, .int 105, .int 0, .int (-1), .int 0, .int 0, .int 0]))] [(cI, .int)] (va_A [(ah, .inr (4, [.ref ac, .ref au, .ref ab, .ref an, .ref ak, .ref ad, .int tm, .int sl, .long en])), (au, .inr (10, [.ref t1, .ref t2, .ref t3, .ref t4, .ref t5, .ref t6, .ref t7, .int 0, .int 0])), (ak, .inr (8, [.ref ar, .int 105, .int 0, .int (-1), .int 0, .int 0, .int 0]))] sz) t) (va_A [(ah, .inr (4, [.ref ac, .ref au, .ref ab, .ref an, .ref ak, .ref ad, .int tm, .int sl, .long en])), (au, .inr (10, [.ref t1, .ref t2, .ref t3, .ref t4, .ref t5, .ref t6, .ref t7, .int 0, .int 0])), (ak, .inr (8, [.ref ar, .int 105, .int 0, .int (-1), .int 0, .int 0, .int 0]))] sz)) 0 0 (va_A [(ah, .inr (4, [.ref ac, .ref au, .ref ab, .ref an, .ref ak, .ref ad, .int tm, .int sl, .long en])), (au, .inr (10, [.ref t1, .ref t2, .ref t3, .ref t4, .ref t5, .ref t6, .ref t7, .int 0, .int 0])), (ak, .inr (8, [.ref ar, .int 105, .int 0, .int (-1), .int 0, .int 0, .int 0]))] sz) := by
  refine Met.ofW (cc := cX0_countEnergy) (maxL := 4) (ret := none) (by decide) rfl ?_
  intro p e s m args below meth c s₁ B hml hv
  obtain ⟨rfl, hsz, hP, hK, hD0, hG⟩ := hv
  have hx := B.exec
  have hb := B.bytes
  have hr := B.returns
  have hts := atoms_spec (ws := wsX0_countEnergy) B.pre
  have hown : s.vm.findClass RX0 = some m.cls := findClass_of_methodNamed B.named
  have hlocks := B.notSynchronized
  subst hsz
  have hD := hD0.self (sz := s.heap.size)
  generalize hAe : va_A [(ah, .inr (4, [.ref ac, .ref au, .ref ab, .ref an, .ref ak, .ref ad, .int tm, .int sl, .long en])), (au, .inr (10, [.ref t1, .ref t2, .ref t3, .ref t4, .ref t5, .ref t6, .ref t7, .int 0, .int 0])), (ak, .inr (8, [.ref ar, .int 105, .int 0, .int (-1), .int 0, .int 0, .int 0]))] s.heap.size = A at hD hG ⊢
  have hN := hG.1
  have hA : ∀ q : Nat, s.heap.size ≤ q → A q := fun q h => by rw [← hAe]; exact Or.inr h
  have hS : va_S A s.heap s.heap [] := va_S.rf
  have hP : va_P (dC, dI) vwCl [(ah, .inr (4, [.ref ac, .ref au, .ref ab, .ref an, .ref ak, .ref ad, .int tm, .int sl, .long en])), (au, .inr (10, [.ref t1, .ref t2, .ref t3, .ref t4, .ref t5, .ref t6, .ref t7, .int 0, .int 0])), (ak, .inr (8, [.ref ar, .int 105, .int 0, .int (-1), .int 0, .int 0, .int 0]))] s.heap := hP
  have hw0 : (Cond.fieldLink RX0 42 "Tickstation$Chip" "processor" "LTickstation$Processor;").before _ s = true := hts _ (List.mem_cons_of_mem _ (List.mem_append_left _ (List.mem_append_left _ (List.mem_append_left _ (List.mem_of_getElem? (i := 0) rfl)))))
  have hiX0 : ∀ w ∈ u_ws RX0 TX0 9, w ∈ wsX0_countEnergy := fun _ h => List.mem_cons_of_mem _ (List.mem_append_left _ (List.mem_append_left _ (List.mem_append_right _ (h))))
  have hw2 : (Cond.fieldLink RX0 21 "Tickstation$Chip" "timers" "LTickstation$Timers;").before _ s = true := hts _ (List.mem_cons_of_mem _ (List.mem_append_left _ (List.mem_append_left _ (List.mem_append_left _ (List.mem_of_getElem? (i := 1) rfl)))))
  have hw3 : (Cond.fieldLink RX0 155 "Tickstation$Timers" "running" "I").before _ s = true := hts _ (List.mem_cons_of_mem _ (List.mem_append_left _ (List.mem_append_left _ (List.mem_append_left _ (List.mem_of_getElem? (i := 2) rfl)))))
  have hiX6 : ∀ w ∈ u_ws RX6 TX6 9, w ∈ wsX0_countEnergy := fun _ h => List.mem_cons_of_mem _ (List.mem_append_left _ (List.mem_append_right _ (h)))
  have hw5 : (Cond.fieldLink RX0 171 "Tickstation$Chip" "energy" "J").before _ s = true := hts _ (List.mem_cons_of_mem _ (List.mem_append_left _ (List.mem_append_left _ (List.mem_append_left _ (List.mem_of_getElem? (i := 3) rfl)))))
  have hw6 : (Cond.fieldLink RX0 175 "Tickstation$Processor" "state" "C").before _ s = true := hts _ (List.mem_cons_of_mem _ (List.mem_append_left _ (List.mem_append_left _ (List.mem_append_left _ (List.mem_of_getElem? (i := 4) rfl)))))
  have hiX4 : ∀ w ∈ u_ws RX4 TX4 7, w ∈ wsX0_countEnergy := fun _ h => List.mem_cons_of_mem _ (List.mem_append_right _ (h))
  have hl := lv_entry ([.ref ah, .int 1]) (n := 4) (Nat.le_of_ble_eq_true rfl)
  rw [lg_entry_eq]
  generalize (lg_sl ([.ref ah, .int 1]) ++ List.replicate (4 - (lg_sl ([.ref ah, .int 1])).length) Slot.unset).toArray = ls at hl ⊢
  have hl : lv_has ls 4 [(0, .ref ah), (1, .int 1)] := hl
  refine lv_aload_n hx hb dX0_countEnergy_0 rfl (lv_at hl 0 rfl) ?_
  refine va_get (D := (dC, dI)) (ci := 4) (v := .ref ak) (C := RX0) (T := TX0) (N := 9) hx hb hts hiX0 hown hK hP 0 rfl rfl 4 (by decide) (hw0) (fun _ h9 => h9) rfl dX0_countEnergy_1 ?_
  have hPc := hP.sub (ws' := [(ak, .inr (8, [.ref ar, .int 105, .int 0, .int (-1), .int 0, .int 0, .int 0]))]) [2] rfl
  have hDc := hD.sub (ws' := [(ak, .inr (8, [.ref ar, .int 105, .int 0, .int (-1), .int 0, .int 0, .int 0]))]) [2] (by decide) rfl
  have hKc := hK.sub (tys' := [(cI, .int)]) [0] rfl
  have hFc := va_free (wc := [(ak, .inr (8, [.ref ar, .int 105, .int 0, .int (-1), .int 0, .int 0, .int 0]))]) hD hS hA [2] rfl
  refine va_calli (va_runV (As := []) (rest := []) ⟨hx, hb, hml, hown, hts⟩ (c_X4_energyOfBeat l dC dI g ak ar cI s.heap.size) (cwV 0 hts gX0_countEnergy_X4_energyOfBeat rfl rfl rfl (by decide +kernel) ⟨Nat.le_of_ble_eq_true rfl, Nat.le_of_ble_eq_true rfl⟩) ⟨wIn_blind, va_recv hK hP (ci := 8) (q0 := 2) rfl rfl, wIn_at hPc hKc hDc hG hS hFc⟩ rfl rfl hl.1 rfl (lv_room (Nat.le_of_ble_eq_true rfl)) dX0_countEnergy_4 ⟨Nat.le_of_ble_eq_true rfl, Nat.le_of_ble_eq_true rfl⟩) hS (fun q _ h => hFc q h) hFc (fun r_1 u t H1 locs ht hvm hw hB hz1 hk1 hS => ?_)
  obtain ⟨hP1, hK1, hD1⟩ := hB
  rw [ht] at hP1
  obtain ⟨hP, hD⟩ := va_join (wr := [(ah, .inr (4, [.ref ac, .ref au, .ref ab, .ref an, .ref ak, .ref ad, .int tm, .int sl, .long en])), (au, .inr (10, [.ref t1, .ref t2, .ref t3, .ref t4, .ref t5, .ref t6, .ref t7, .int 0, .int 0]))]) (w1 := [(ak, .inr (8, [.ref ar, .int 105, .int 0, .int (-1), .int 0, .int 0, .int 0]))]) hP hD [2] [0, 1] rfl rfl (by decide) (by decide) hk1 hFc hP1 hD1
  generalize H1 = H at hP hS ⊢
  have hP : va_P (dC, dI) vwCl [(ah, .inr (4, [.ref ac, .ref au, .ref ab, .ref an, .ref ak, .ref ad, .int tm, .int sl, .long en])), (au, .inr (10, [.ref t1, .ref t2, .ref t3, .ref t4, .ref t5, .ref t6, .ref t7, .int 0, .int 0])), (ak, .inr (8, [.ref ar, .int 105, .int 0, .int (-1), .int 0, .int 0, .int 0]))] H := hP
  have hD : va_D A [(ah, .inr (4, [.ref ac, .ref au, .ref ab, .ref an, .ref ak, .ref ad, .int tm, .int sl, .long en])), (au, .inr (10, [.ref t1, .ref t2, .ref t3, .ref t4, .ref t5, .ref t6, .ref t7, .int 0, .int 0])), (ak, .inr (8, [.ref ar, .int 105, .int 0, .int (-1), .int 0, .int 0, .int 0]))] := hD
  refine lt_ci (y := 5) hw ?_
  refine lv_aload_n hx hb dX0_countEnergy_7 rfl (lv_at hl 0 rfl) ?_
  refine va_get (D := (dC, dI)) (ci := 4) (v := .ref au) (C := RX0) (T := TX0) (N := 9) hx hb hts hiX0 hown hK hP 0 rfl rfl 1 (by decide) (hw2) (fun _ h9 => h9) rfl dX0_countEnergy_8 ?_
  refine va_get (D := (dC, dI)) (ci := 10) (v := .int 0) (C := RX6) (T := TX6) (N := 9) hx hb hts hiX6 hown hK hP 1 rfl rfl 8 (by decide) (hw3) (fun _ h9 => h9) rfl dX0_countEnergy_11 ?_
  have hPc := hP.sub (ws' := []) [] rfl
  have hDc := hD.sub (ws' := []) [] (by decide) rfl
  have hKc := hK.sub (tys' := []) [] rfl
  have hFc := va_free (wc := []) hD hS hA [] rfl
  refine va_calli (va_runS (As := [.int 0]) (rest := [.int 5]) ⟨hx, hb, hml, hown, hts⟩ (c_J6_bitCount_0f7a4_0 l dC dI g H.size) (va_cwS 1 hts gX0_countEnergy_J6_bitCount_0f7a4 rfl rfl rfl (by decide +kernel) ⟨Nat.le_of_ble_eq_true rfl, Nat.le_of_ble_eq_true rfl⟩) ⟨wIn_blind, wIn_at hPc hKc hDc hG hS hFc⟩ rfl rfl hl.1 rfl (lv_room (Nat.le_of_ble_eq_true rfl)) dX0_countEnergy_14 ⟨Nat.le_of_ble_eq_true rfl, Nat.le_of_ble_eq_true rfl⟩) hS (fun q _ h => hFc q h) hFc (fun r_2 u t H1 locs ht hvm hw hB hz1 hk1 hS => ?_)
  obtain ⟨hP1, hK1, hD1⟩ := hB
  rw [ht] at hP1
  obtain ⟨hP, hD⟩ := va_join (wr := [(ah, .inr (4, [.ref ac, .ref au, .ref ab, .ref an, .ref ak, .ref ad, .int tm, .int sl, .long en])), (au, .inr (10, [.ref t1, .ref t2, .ref t3, .ref t4, .ref t5, .ref t6, .ref t7, .int 0, .int 0])), (ak, .inr (8, [.ref ar, .int 105, .int 0, .int (-1), .int 0, .int 0, .int 0]))]) (w1 := []) hP hD [] [0, 1, 2] rfl rfl (by decide) (by decide) hk1 hFc hP1 hD1
  generalize H1 = H at hP hS ⊢
  have hP : va_P (dC, dI) vwCl [(ah, .inr (4, [.ref ac, .ref au, .ref ab, .ref an, .ref ak, .ref ad, .int tm, .int sl, .long en])), (au, .inr (10, [.ref t1, .ref t2, .ref t3, .ref t4, .ref t5, .ref t6, .ref t7, .int 0, .int 0])), (ak, .inr (8, [.ref ar, .int 105, .int 0, .int (-1), .int 0, .int 0, .int 0]))] H := hP
  have hD : va_D A [(ah, .inr (4, [.ref ac, .ref au, .ref ab, .ref an, .ref ak, .ref ad, .int tm, .int sl, .long en])), (au, .inr (10, [.ref t1, .ref t2, .ref t3, .ref t4, .ref t5, .ref t6, .ref t7, .int 0, .int 0])), (ak, .inr (8, [.ref ar, .int 105, .int 0, .int (-1), .int 0, .int 0, .int 0]))] := hD
  refine lt_ci (y := 0) hw ?_
  refine lv_iadd hx hb dX0_countEnergy_17 ?_
  refine lt_ci (y := 5) (by first | rfl | decide) ?_
  refine lv_i2l (v := 5) hx hb dX0_countEnergy_18 (by first | rfl | decide) ?_
  refine lv_lstore_n (lv' := [(2, .long 5), (0, .ref ah), (1, .int 1)]) hx hb dX0_countEnergy_19 rfl hl (by decide) rfl (fun ls hl => ?_)
  refine lv_aload_n hx hb dX0_countEnergy_20 rfl (lv_at hl 1 rfl) ?_
  refine lv_dup hx hb dX0_countEnergy_21 rfl ?_
  refine va_get (D := (dC, dI)) (ci := 4) (v := .long en) (C := RX0) (T := TX0) (N := 9) hx hb hts hiX0 hown hK hP 0 rfl rfl 8 (by decide) (hw5) (fun _ h9 => h9) rfl dX0_countEnergy_22 ?_
  refine lv_lload_n hx hb dX0_countEnergy_25 rfl (lv_at hl 0 rfl) ?_
  refine lv_iload_n hx hb dX0_countEnergy_26 rfl (lv_at hl 2 rfl) ?_
  refine lv_i2l (v := 1) hx hb dX0_countEnergy_27 (by first | rfl | decide) ?_
  refine lv_lmul hx hb dX0_countEnergy_28 ?_
  refine lt_cl (y := 5) (by first | rfl | decide) ?_
  refine lv_ladd hx hb dX0_countEnergy_29 ?_
  refine va_put (D := (dC, dI)) (ci := 4) (v := .long (en + 5)) (ty := .long) (C := RX0) (T := TX0) (N := 9) hx hb hts hiX0 tyX0 tyX0_ok nmX0 hown hK hP hD hS 0 rfl rfl 8 (by decide) (hw5) (fun _ h9 => h9) rfl (by decide +kernel) rfl rfl (Nat.le_of_ble_eq_true rfl) dX0_countEnergy_30 (fun H locs hP hD hS => ?_)
  have hP : va_P (dC, dI) vwCl [(ah, .inr (4, [.ref ac, .ref au, .ref ab, .ref an, .ref ak, .ref ad, .int tm, .int sl, .long (en + 5)])), (au, .inr (10, [.ref t1, .ref t2, .ref t3, .ref t4, .ref t5, .ref t6, .ref t7, .int 0, .int 0])), (ak, .inr (8, [.ref ar, .int 105, .int 0, .int (-1), .int 0, .int 0, .int 0]))] H := hP
  have hD : va_D A [(ah, .inr (4, [.ref ac, .ref au, .ref ab, .ref an, .ref ak, .ref ad, .int tm, .int sl, .long (en + 5)])), (au, .inr (10, [.ref t1, .ref t2, .ref t3, .ref t4, .ref t5, .ref t6, .ref t7, .int 0, .int 0])), (ak, .inr (8, [.ref ar, .int 105, .int 0, .int (-1), .int 0, .int 0, .int 0]))] := hD
  refine lv_aload_n hx hb dX0_countEnergy_33 rfl (lv_at hl 1 rfl) ?_
  refine va_get (D := (dC, dI)) (ci := 4) (v := .ref ak) (C := RX0) (T := TX0) (N := 9) hx hb hts hiX0 hown hK hP 0 rfl rfl 4 (by decide) (hw0) (fun _ h9 => h9) rfl dX0_countEnergy_34 ?_
  refine va_get (D := (dC, dI)) (ci := 8) (v := .int 105) (C := RX4) (T := TX4) (N := 7) hx hb hts hiX4 hown hK hP 2 rfl rfl 1 (by decide) (hw6) (fun _ h9 => h9) rfl dX0_countEnergy_37 ?_
  refine lv_bipush (v := 122) hx hb dX0_countEnergy_40 (by decide) ?_
  refine lv_icmp_ne (tgt := 55) hx hb dX0_countEnergy_42 (by decide) (fun _ => ?_) (fun c => absurd c (by decide))
  have hP9 := hP.sub (ws' := [(ah, .inr (4, [.ref ac, .ref au, .ref ab, .ref an, .ref ak, .ref ad, .int tm, .int sl, .long (en + 5)])), (au, .inr (10, [.ref t1, .ref t2, .ref t3, .ref t4, .ref t5, .ref t6, .ref t7, .int 0, .int 0])), (ak, .inr (8, [.ref ar, .int 105, .int 0, .int (-1), .int 0, .int 0, .int 0]))]) [0, 1, 2] rfl
  have hD9 := hD.sub (ws' := [(ah, .inr (4, [.ref ac, .ref au, .ref ab, .ref an, .ref ak, .ref ad, .int tm, .int sl, .long (en + 5)])), (au, .inr (10, [.ref t1, .ref t2, .ref t3, .ref t4, .ref t5, .ref t6, .ref t7, .int 0, .int 0])), (ak, .inr (8, [.ref ar, .int 105, .int 0, .int (-1), .int 0, .int 0, .int 0]))]) [0, 1, 2] (by decide) rfl
  have hK9 := hK.sub (tys' := [(cI, .int)]) [0] rfl
  exact W.vret hx hb hr (fun t ht hW => ⟨⟨(), rfl, trivial, wOut_at ht hW hP9 hK9 hD9⟩, hS.F ht⟩) hS.2.2 dX0_countEnergy_55

set_option maxHeartbeats 4000000 in
set_option maxRecDepth 100000 in
theorem c_X0_countEnergy_n (l : Launch) (dC : Nat → ClassId) (dI : Nat → Nat → Nat) (g : Nat × Nat × Nat) (ah : Nat) (ac : Nat) (au : Nat) (ab : Nat) (an : Nat) (ak : Nat) (ad : Nat) (ar : Nat) (t1 : Nat) (t2 : Nat) (t3 : Nat) (t4 : Nat) (t5 : Nat) (t6 : Nat) (t7 : Nat) (cI : ClassId) (tm : Int32) (sl : Int32) (z : Int32) (en : Int64) (sz : Nat) : Met l yX0_countEnergy wsX0_countEnergy ({ frames := 1, cells := 0, slots := 0, locals := 20 } : Room) (va_Pc [.ref ah, .int z] (wIn dC dI g [(ah, .inr (4, [.ref ac, .ref au, .ref ab, .ref an, .ref ak, .ref ad, .int tm, .int sl, .long en])), (au, .inr (10, [.ref t1, .ref t2, .ref t3, .ref t4, .ref t5, .ref t6, .ref t7, .int 0, .int 0])), (ak, .inr (8, [.ref ar, .int 105, .int 0, .int (-1), .int 0, .int 0, .int 0]))] [(cI, .int)] sz)) (va_Qv (fun (u : Unit) => True) (fun (u : Unit) (t : State) => wOut dC dI [(ah, .inr (4, [.ref ac, .ref au, .ref ab, .ref an, .ref ak, .ref ad, .int tm, .int sl, .long (en + (5 * (z).toInt64))])), (au, .inr (10, [.ref t1, .ref t2, .ref t3, .ref t4, .ref t5, .ref t6, .ref t7, .int 0, .int 0])), (ak, .inr (8, [.ref ar, .int 105, .int 0, .int (-1), .int 0, .int 0, .int 0]))] [(cI, .int)] (va_A [(ah, .inr (4, [.ref ac, .ref au, .ref ab, .ref an, .ref ak, .ref ad, .int tm, .int sl, .long en])), (au, .inr (10, [.ref t1, .ref t2, .ref t3, .ref t4, .ref t5, .ref t6, .ref t7, .int 0, .int 0])), (ak, .inr (8, [.ref ar, .int 105, .int 0, .int (-1), .int 0, .int 0, .int 0]))] sz) t) (va_A [(ah, .inr (4, [.ref ac, .ref au, .ref ab, .ref an, .ref ak, .ref ad, .int tm, .int sl, .long en])), (au, .inr (10, [.ref t1, .ref t2, .ref t3, .ref t4, .ref t5, .ref t6, .ref t7, .int 0, .int 0])), (ak, .inr (8, [.ref ar, .int 105, .int 0, .int (-1), .int 0, .int 0, .int 0]))] sz)) 0 0 (va_A [(ah, .inr (4, [.ref ac, .ref au, .ref ab, .ref an, .ref ak, .ref ad, .int tm, .int sl, .long en])), (au, .inr (10, [.ref t1, .ref t2, .ref t3, .ref t4, .ref t5, .ref t6, .ref t7, .int 0, .int 0])), (ak, .inr (8, [.ref ar, .int 105, .int 0, .int (-1), .int 0, .int 0, .int 0]))] sz) := by
  refine Met.ofW (cc := cX0_countEnergy) (maxL := 4) (ret := none) (by decide) rfl ?_
  intro p e s m args below meth c s₁ B hml hv
  obtain ⟨rfl, hsz, hP, hK, hD0, hG⟩ := hv
  have hx := B.exec
  have hb := B.bytes
  have hr := B.returns
  have hts := atoms_spec (ws := wsX0_countEnergy) B.pre
  have hown : s.vm.findClass RX0 = some m.cls := findClass_of_methodNamed B.named
  have hlocks := B.notSynchronized
  subst hsz
  have hD := hD0.self (sz := s.heap.size)
  generalize hAe : va_A [(ah, .inr (4, [.ref ac, .ref au, .ref ab, .ref an, .ref ak, .ref ad, .int tm, .int sl, .long en])), (au, .inr (10, [.ref t1, .ref t2, .ref t3, .ref t4, .ref t5, .ref t6, .ref t7, .int 0, .int 0])), (ak, .inr (8, [.ref ar, .int 105, .int 0, .int (-1), .int 0, .int 0, .int 0]))] s.heap.size = A at hD hG ⊢
  have hN := hG.1
  have hA : ∀ q : Nat, s.heap.size ≤ q → A q := fun q h => by rw [← hAe]; exact Or.inr h
  have hS : va_S A s.heap s.heap [] := va_S.rf
  have hP : va_P (dC, dI) vwCl [(ah, .inr (4, [.ref ac, .ref au, .ref ab, .ref an, .ref ak, .ref ad, .int tm, .int sl, .long en])), (au, .inr (10, [.ref t1, .ref t2, .ref t3, .ref t4, .ref t5, .ref t6, .ref t7, .int 0, .int 0])), (ak, .inr (8, [.ref ar, .int 105, .int 0, .int (-1), .int 0, .int 0, .int 0]))] s.heap := hP
  have hw0 : (Cond.fieldLink RX0 42 "Tickstation$Chip" "processor" "LTickstation$Processor;").before _ s = true := hts _ (List.mem_cons_of_mem _ (List.mem_append_left _ (List.mem_append_left _ (List.mem_append_left _ (List.mem_of_getElem? (i := 0) rfl)))))
  have hiX0 : ∀ w ∈ u_ws RX0 TX0 9, w ∈ wsX0_countEnergy := fun _ h => List.mem_cons_of_mem _ (List.mem_append_left _ (List.mem_append_left _ (List.mem_append_right _ (h))))
  have hw2 : (Cond.fieldLink RX0 21 "Tickstation$Chip" "timers" "LTickstation$Timers;").before _ s = true := hts _ (List.mem_cons_of_mem _ (List.mem_append_left _ (List.mem_append_left _ (List.mem_append_left _ (List.mem_of_getElem? (i := 1) rfl)))))
  have hw3 : (Cond.fieldLink RX0 155 "Tickstation$Timers" "running" "I").before _ s = true := hts _ (List.mem_cons_of_mem _ (List.mem_append_left _ (List.mem_append_left _ (List.mem_append_left _ (List.mem_of_getElem? (i := 2) rfl)))))
  have hiX6 : ∀ w ∈ u_ws RX6 TX6 9, w ∈ wsX0_countEnergy := fun _ h => List.mem_cons_of_mem _ (List.mem_append_left _ (List.mem_append_right _ (h)))
  have hw5 : (Cond.fieldLink RX0 171 "Tickstation$Chip" "energy" "J").before _ s = true := hts _ (List.mem_cons_of_mem _ (List.mem_append_left _ (List.mem_append_left _ (List.mem_append_left _ (List.mem_of_getElem? (i := 3) rfl)))))
  have hw6 : (Cond.fieldLink RX0 175 "Tickstation$Processor" "state" "C").before _ s = true := hts _ (List.mem_cons_of_mem _ (List.mem_append_left _ (List.mem_append_left _ (List.mem_append_left _ (List.mem_of_getElem? (i := 4) rfl)))))
  have hiX4 : ∀ w ∈ u_ws RX4 TX4 7, w ∈ wsX0_countEnergy := fun _ h => List.mem_cons_of_mem _ (List.mem_append_right _ (h))
  have hl := lv_entry ([.ref ah, .int z]) (n := 4) (Nat.le_of_ble_eq_true rfl)
  rw [lg_entry_eq]
  generalize (lg_sl ([.ref ah, .int z]) ++ List.replicate (4 - (lg_sl ([.ref ah, .int z])).length) Slot.unset).toArray = ls at hl ⊢
  have hl : lv_has ls 4 [(0, .ref ah), (1, .int z)] := hl
  refine lv_aload_n hx hb dX0_countEnergy_0 rfl (lv_at hl 0 rfl) ?_
  refine va_get (D := (dC, dI)) (ci := 4) (v := .ref ak) (C := RX0) (T := TX0) (N := 9) hx hb hts hiX0 hown hK hP 0 rfl rfl 4 (by decide) (hw0) (fun _ h9 => h9) rfl dX0_countEnergy_1 ?_
  have hPc := hP.sub (ws' := [(ak, .inr (8, [.ref ar, .int 105, .int 0, .int (-1), .int 0, .int 0, .int 0]))]) [2] rfl
  have hDc := hD.sub (ws' := [(ak, .inr (8, [.ref ar, .int 105, .int 0, .int (-1), .int 0, .int 0, .int 0]))]) [2] (by decide) rfl
  have hKc := hK.sub (tys' := [(cI, .int)]) [0] rfl
  have hFc := va_free (wc := [(ak, .inr (8, [.ref ar, .int 105, .int 0, .int (-1), .int 0, .int 0, .int 0]))]) hD hS hA [2] rfl
  refine va_calli (va_runV (As := []) (rest := []) ⟨hx, hb, hml, hown, hts⟩ (c_X4_energyOfBeat l dC dI g ak ar cI s.heap.size) (cwV 0 hts gX0_countEnergy_X4_energyOfBeat rfl rfl rfl (by decide +kernel) ⟨Nat.le_of_ble_eq_true rfl, Nat.le_of_ble_eq_true rfl⟩) ⟨wIn_blind, va_recv hK hP (ci := 8) (q0 := 2) rfl rfl, wIn_at hPc hKc hDc hG hS hFc⟩ rfl rfl hl.1 rfl (lv_room (Nat.le_of_ble_eq_true rfl)) dX0_countEnergy_4 ⟨Nat.le_of_ble_eq_true rfl, Nat.le_of_ble_eq_true rfl⟩) hS (fun q _ h => hFc q h) hFc (fun r_1 u t H1 locs ht hvm hw hB hz1 hk1 hS => ?_)
  obtain ⟨hP1, hK1, hD1⟩ := hB
  rw [ht] at hP1
  obtain ⟨hP, hD⟩ := va_join (wr := [(ah, .inr (4, [.ref ac, .ref au, .ref ab, .ref an, .ref ak, .ref ad, .int tm, .int sl, .long en])), (au, .inr (10, [.ref t1, .ref t2, .ref t3, .ref t4, .ref t5, .ref t6, .ref t7, .int 0, .int 0]))]) (w1 := [(ak, .inr (8, [.ref ar, .int 105, .int 0, .int (-1), .int 0, .int 0, .int 0]))]) hP hD [2] [0, 1] rfl rfl (by decide) (by decide) hk1 hFc hP1 hD1
  generalize H1 = H at hP hS ⊢
  have hP : va_P (dC, dI) vwCl [(ah, .inr (4, [.ref ac, .ref au, .ref ab, .ref an, .ref ak, .ref ad, .int tm, .int sl, .long en])), (au, .inr (10, [.ref t1, .ref t2, .ref t3, .ref t4, .ref t5, .ref t6, .ref t7, .int 0, .int 0])), (ak, .inr (8, [.ref ar, .int 105, .int 0, .int (-1), .int 0, .int 0, .int 0]))] H := hP
  have hD : va_D A [(ah, .inr (4, [.ref ac, .ref au, .ref ab, .ref an, .ref ak, .ref ad, .int tm, .int sl, .long en])), (au, .inr (10, [.ref t1, .ref t2, .ref t3, .ref t4, .ref t5, .ref t6, .ref t7, .int 0, .int 0])), (ak, .inr (8, [.ref ar, .int 105, .int 0, .int (-1), .int 0, .int 0, .int 0]))] := hD
  refine lt_ci (y := 5) hw ?_
  refine lv_aload_n hx hb dX0_countEnergy_7 rfl (lv_at hl 0 rfl) ?_
  refine va_get (D := (dC, dI)) (ci := 4) (v := .ref au) (C := RX0) (T := TX0) (N := 9) hx hb hts hiX0 hown hK hP 0 rfl rfl 1 (by decide) (hw2) (fun _ h9 => h9) rfl dX0_countEnergy_8 ?_
  refine va_get (D := (dC, dI)) (ci := 10) (v := .int 0) (C := RX6) (T := TX6) (N := 9) hx hb hts hiX6 hown hK hP 1 rfl rfl 8 (by decide) (hw3) (fun _ h9 => h9) rfl dX0_countEnergy_11 ?_
  have hPc := hP.sub (ws' := []) [] rfl
  have hDc := hD.sub (ws' := []) [] (by decide) rfl
  have hKc := hK.sub (tys' := []) [] rfl
  have hFc := va_free (wc := []) hD hS hA [] rfl
  refine va_calli (va_runS (As := [.int 0]) (rest := [.int 5]) ⟨hx, hb, hml, hown, hts⟩ (c_J6_bitCount_0f7a4_0 l dC dI g H.size) (va_cwS 1 hts gX0_countEnergy_J6_bitCount_0f7a4 rfl rfl rfl (by decide +kernel) ⟨Nat.le_of_ble_eq_true rfl, Nat.le_of_ble_eq_true rfl⟩) ⟨wIn_blind, wIn_at hPc hKc hDc hG hS hFc⟩ rfl rfl hl.1 rfl (lv_room (Nat.le_of_ble_eq_true rfl)) dX0_countEnergy_14 ⟨Nat.le_of_ble_eq_true rfl, Nat.le_of_ble_eq_true rfl⟩) hS (fun q _ h => hFc q h) hFc (fun r_2 u t H1 locs ht hvm hw hB hz1 hk1 hS => ?_)
  obtain ⟨hP1, hK1, hD1⟩ := hB
  rw [ht] at hP1
  obtain ⟨hP, hD⟩ := va_join (wr := [(ah, .inr (4, [.ref ac, .ref au, .ref ab, .ref an, .ref ak, .ref ad, .int tm, .int sl, .long en])), (au, .inr (10, [.ref t1, .ref t2, .ref t3, .ref t4, .ref t5, .ref t6, .ref t7, .int 0, .int 0])), (ak, .inr (8, [.ref ar, .int 105, .int 0, .int (-1), .int 0, .int 0, .int 0]))]) (w1 := []) hP hD [] [0, 1, 2] rfl rfl (by decide) (by decide) hk1 hFc hP1 hD1
  generalize H1 = H at hP hS ⊢
  have hP : va_P (dC, dI) vwCl [(ah, .inr (4, [.ref ac, .ref au, .ref ab, .ref an, .ref ak, .ref ad, .int tm, .int sl, .long en])), (au, .inr (10, [.ref t1, .ref t2, .ref t3, .ref t4, .ref t5, .ref t6, .ref t7, .int 0, .int 0])), (ak, .inr (8, [.ref ar, .int 105, .int 0, .int (-1), .int 0, .int 0, .int 0]))] H := hP
  have hD : va_D A [(ah, .inr (4, [.ref ac, .ref au, .ref ab, .ref an, .ref ak, .ref ad, .int tm, .int sl, .long en])), (au, .inr (10, [.ref t1, .ref t2, .ref t3, .ref t4, .ref t5, .ref t6, .ref t7, .int 0, .int 0])), (ak, .inr (8, [.ref ar, .int 105, .int 0, .int (-1), .int 0, .int 0, .int 0]))] := hD
  refine lt_ci (y := 0) hw ?_
  refine lv_iadd hx hb dX0_countEnergy_17 ?_
  refine lt_ci (y := 5) (by first | rfl | decide) ?_
  refine lv_i2l (v := 5) hx hb dX0_countEnergy_18 (by first | rfl | decide) ?_
  refine lv_lstore_n (lv' := [(2, .long 5), (0, .ref ah), (1, .int z)]) hx hb dX0_countEnergy_19 rfl hl (by decide) rfl (fun ls hl => ?_)
  refine lv_aload_n hx hb dX0_countEnergy_20 rfl (lv_at hl 1 rfl) ?_
  refine lv_dup hx hb dX0_countEnergy_21 rfl ?_
  refine va_get (D := (dC, dI)) (ci := 4) (v := .long en) (C := RX0) (T := TX0) (N := 9) hx hb hts hiX0 hown hK hP 0 rfl rfl 8 (by decide) (hw5) (fun _ h9 => h9) rfl dX0_countEnergy_22 ?_
  refine lv_lload_n hx hb dX0_countEnergy_25 rfl (lv_at hl 0 rfl) ?_
  refine lv_iload_n hx hb dX0_countEnergy_26 rfl (lv_at hl 2 rfl) ?_
  refine lv_i2l (v := (z).toInt64) hx hb dX0_countEnergy_27 (by first | rfl | decide) ?_
  refine lv_lmul hx hb dX0_countEnergy_28 ?_
  refine lv_ladd hx hb dX0_countEnergy_29 ?_
  refine va_put (D := (dC, dI)) (ci := 4) (v := .long (en + (5 * (z).toInt64))) (ty := .long) (C := RX0) (T := TX0) (N := 9) hx hb hts hiX0 tyX0 tyX0_ok nmX0 hown hK hP hD hS 0 rfl rfl 8 (by decide) (hw5) (fun _ h9 => h9) rfl (by decide +kernel) rfl rfl (Nat.le_of_ble_eq_true rfl) dX0_countEnergy_30 (fun H locs hP hD hS => ?_)
  have hP : va_P (dC, dI) vwCl [(ah, .inr (4, [.ref ac, .ref au, .ref ab, .ref an, .ref ak, .ref ad, .int tm, .int sl, .long (en + (5 * (z).toInt64))])), (au, .inr (10, [.ref t1, .ref t2, .ref t3, .ref t4, .ref t5, .ref t6, .ref t7, .int 0, .int 0])), (ak, .inr (8, [.ref ar, .int 105, .int 0, .int (-1), .int 0, .int 0, .int 0]))] H := hP
  have hD : va_D A [(ah, .inr (4, [.ref ac, .ref au, .ref ab, .ref an, .ref ak, .ref ad, .int tm, .int sl, .long (en + (5 * (z).toInt64))])), (au, .inr (10, [.ref t1, .ref t2, .ref t3, .ref t4, .ref t5, .ref t6, .ref t7, .int 0, .int 0])), (ak, .inr (8, [.ref ar, .int 105, .int 0, .int (-1), .int 0, .int 0, .int 0]))] := hD
  refine lv_aload_n hx hb dX0_countEnergy_33 rfl (lv_at hl 1 rfl) ?_
  refine va_get (D := (dC, dI)) (ci := 4) (v := .ref ak) (C := RX0) (T := TX0) (N := 9) hx hb hts hiX0 hown hK hP 0 rfl rfl 4 (by decide) (hw0) (fun _ h9 => h9) rfl dX0_countEnergy_34 ?_
  refine va_get (D := (dC, dI)) (ci := 8) (v := .int 105) (C := RX4) (T := TX4) (N := 7) hx hb hts hiX4 hown hK hP 2 rfl rfl 1 (by decide) (hw6) (fun _ h9 => h9) rfl dX0_countEnergy_37 ?_
  refine lv_bipush (v := 122) hx hb dX0_countEnergy_40 (by decide) ?_
  refine lv_icmp_ne (tgt := 55) hx hb dX0_countEnergy_42 (by decide) (fun _ => ?_) (fun c => absurd c (by decide))
  have hP9 := hP.sub (ws' := [(ah, .inr (4, [.ref ac, .ref au, .ref ab, .ref an, .ref ak, .ref ad, .int tm, .int sl, .long (en + (5 * (z).toInt64))])), (au, .inr (10, [.ref t1, .ref t2, .ref t3, .ref t4, .ref t5, .ref t6, .ref t7, .int 0, .int 0])), (ak, .inr (8, [.ref ar, .int 105, .int 0, .int (-1), .int 0, .int 0, .int 0]))]) [0, 1, 2] rfl
  have hD9 := hD.sub (ws' := [(ah, .inr (4, [.ref ac, .ref au, .ref ab, .ref an, .ref ak, .ref ad, .int tm, .int sl, .long (en + (5 * (z).toInt64))])), (au, .inr (10, [.ref t1, .ref t2, .ref t3, .ref t4, .ref t5, .ref t6, .ref t7, .int 0, .int 0])), (ak, .inr (8, [.ref ar, .int 105, .int 0, .int (-1), .int 0, .int 0, .int 0]))]) [0, 1, 2] (by decide) rfl
  have hK9 := hK.sub (tys' := [(cI, .int)]) [0] rfl
  exact W.vret hx hb hr (fun t ht hW => ⟨⟨(), rfl, trivial, wOut_at ht hW hP9 hK9 hD9⟩, hS.F ht⟩) hS.2.2 dX0_countEnergy_55

set_option maxHeartbeats 4000000 in
set_option maxRecDepth 100000 in
theorem c_X0_goBeat (l : Launch) (dC : Nat → ClassId) (dI : Nat → Nat → Nat) (g : Nat × Nat × Nat) (ah : Nat) (ac : Nat) (c1 : Nat) (c2 : Nat) (c3 : Nat) (c4 : Nat) (c5 : Nat) (au : Nat) (t1 : Nat) (t2 : Nat) (t3 : Nat) (t4 : Nat) (t5 : Nat) (t6 : Nat) (t7 : Nat) (ab : Nat) (b1 : Nat) (b2 : Nat) (an : Nat) (n1 : Nat) (n2 : Nat) (n3 : Nat) (n4 : Nat) (n5 : Nat) (ar : Nat) (r1 : Nat) (r2 : Nat) (ak : Nat) (ad : Nat) (cI : ClassId) (tm : Int32) (sl : Int32) (tk : Int32) (fr : Int32) (en : Int64) (sz : Nat) : Met l yX0_goBeat wsX0_goBeat ({ frames := 2, cells := 0, slots := 0, locals := 46 } : Room) (va_Pc [.ref ah] (wIn dC dI g [(ah, .inr (4, [.ref ac, .ref au, .ref ab, .ref an, .ref ak, .ref ad, .int tm, .int sl, .long en])), (ac, .inr (5, [.ref c1, .ref c2, .ref c3, .ref c4, .ref c5, .int 15])), (c1, .inl (cI, 4, .inl (cn 0))), (c2, .inl (cI, 4, .inl (cn 1))), (c3, .inl (cI, 4, .inl (cn 0))), (c4, .inl (cI, 4, .inl (cn tk))), (c5, .inl (cI, 4, .inl (cn fr))), (au, .inr (10, [.ref t1, .ref t2, .ref t3, .ref t4, .ref t5, .ref t6, .ref t7, .int 0, .int 0])), (t1, .inl (cI, 4, .inl (cn 0))), (t2, .inl (cI, 4, .inl (cn 10))), (t3, .inl (cI, 4, .inl (cn 10))), (t4, .inl (cI, 4, .inl (cn (-1)))), (t5, .inl (cI, 4, .inl (cn 0))), (t6, .inl (cI, 4, .inl (cn 0))), (t7, .inl (cI, 4, .inl (cn 110))), (ab, .inr (7, [.ref b1, .ref b2, .int 0, .int 0])), (b1, .inl (cI, 200, .inl (cn 0))), (b2, .inl (cI, 200, .inl (cn 0))), (an, .inr (6, [.ref n1, .ref n2, .ref n3, .ref n4, .ref n5, .int 0, .int 0])), (n1, .inl (cI, 8, .inl (cn 7))), (n2, .inl (cI, 8, .inl (cn 1))), (n3, .inl (cI, 8, .inl (cn 110))), (n4, .inl (cI, 8, .inl (cn 0))), (n5, .inl (cI, 8, .inl (cn 0))), (ar, .inr (9, [.ref r1, .ref r2, .int 0])), (r1, .inl (cI, 8, .inl (cn 0))), (r2, .inl (cI, 8, .inl (cn 0))), (ak, .inr (8, [.ref ar, .int 105, .int 0, .int (-1), .int 0, .int 0, .int 0])), (ad, .inr (11, [.int (-1), .int 0, .int 0, .int 0, .int 0, .int 0]))] [(cI, .int)] sz)) (va_Qv (fun (u : Unit) => True) (fun (u : Unit) (t : State) => wOut dC dI [(ah, .inr (4, [.ref ac, .ref au, .ref ab, .ref an, .ref ak, .ref ad, .int (tm + 1), .int sl, .long (en + 5)])), (ac, .inr (5, [.ref c1, .ref c2, .ref c3, .ref c4, .ref c5, .int 15])), (c1, .inl (cI, 4, .inl (cn 0))), (c2, .inl (cI, 4, .inl (cn 1))), (c3, .inl (cI, 4, .inl (cn 0))), (c4, .inl (cI, 4, .inl (cn (tk + 1)))), (c5, .inl (cI, 4, .inl (cn 1))), (au, .inr (10, [.ref t1, .ref t2, .ref t3, .ref t4, .ref t5, .ref t6, .ref t7, .int 0, .int 0])), (t1, .inl (cI, 4, .inl (cn 0))), (t2, .inl (cI, 4, .inl (cn 10))), (t3, .inl (cI, 4, .inl (cn 10))), (t4, .inl (cI, 4, .inl (cn (-1)))), (t5, .inl (cI, 4, .inl (cn 0))), (t6, .inl (cI, 4, .inl (cn 0))), (t7, .inl (cI, 4, .inl (cn 110))), (ab, .inr (7, [.ref b1, .ref b2, .int 0, .int 0])), (b1, .inl (cI, 200, .inl (cn 0))), (b2, .inl (cI, 200, .inl (cn 0))), (an, .inr (6, [.ref n1, .ref n2, .ref n3, .ref n4, .ref n5, .int 0, .int 0])), (n1, .inl (cI, 8, .inl (cn 7))), (n2, .inl (cI, 8, .inl (cn 1))), (n3, .inl (cI, 8, .inl (cn 110))), (n4, .inl (cI, 8, .inl (cn 0))), (n5, .inl (cI, 8, .inl (cn 0))), (ar, .inr (9, [.ref r1, .ref r2, .int 0])), (r1, .inl (cI, 8, .inl (cn 0))), (r2, .inl (cI, 8, .inl (cn 0))), (ak, .inr (8, [.ref ar, .int 105, .int 0, .int (-1), .int 0, .int 0, .int 0])), (ad, .inr (11, [.int (-1), .int 0, .int 0, .int 0, .int 0, .int 0]))] [(cI, .int)] (va_A [(ah, .inr (4, [.ref ac, .ref au, .ref ab, .ref an, .ref ak, .ref ad, .int tm, .int sl, .long en])), (ac, .inr (5, [.ref c1, .ref c2, .ref c3, .ref c4, .ref c5, .int 15])), (c1, .inl (cI, 4, .inl (cn 0))), (c2, .inl (cI, 4, .inl (cn 1))), (c3, .inl (cI, 4, .inl (cn 0))), (c4, .inl (cI, 4, .inl (cn tk))), (c5, .inl (cI, 4, .inl (cn fr))), (au, .inr (10, [.ref t1, .ref t2, .ref t3, .ref t4, .ref t5, .ref t6, .ref t7, .int 0, .int 0])), (t1, .inl (cI, 4, .inl (cn 0))), (t2, .inl (cI, 4, .inl (cn 10))), (t3, .inl (cI, 4, .inl (cn 10))), (t4, .inl (cI, 4, .inl (cn (-1)))), (t5, .inl (cI, 4, .inl (cn 0))), (t6, .inl (cI, 4, .inl (cn 0))), (t7, .inl (cI, 4, .inl (cn 110))), (ab, .inr (7, [.ref b1, .ref b2, .int 0, .int 0])), (b1, .inl (cI, 200, .inl (cn 0))), (b2, .inl (cI, 200, .inl (cn 0))), (an, .inr (6, [.ref n1, .ref n2, .ref n3, .ref n4, .ref n5, .int 0, .int 0])), (n1, .inl (cI, 8, .inl (cn 7))), (n2, .inl (cI, 8, .inl (cn 1))), (n3, .inl (cI, 8, .inl (cn 110))), (n4, .inl (cI, 8, .inl (cn 0))), (n5, .inl (cI, 8, .inl (cn 0))), (ar, .inr (9, [.ref r1, .ref r2, .int 0])), (r1, .inl (cI, 8, .inl (cn 0))), (r2, .inl (cI, 8, .inl (cn 0))), (ak, .inr (8, [.ref ar, .int 105, .int 0, .int (-1), .int 0, .int 0, .int 0])), (ad, .inr (11, [.int (-1), .int 0, .int 0, .int 0, .int 0, .int 0]))] sz) t) (va_A [(ah, .inr (4, [.ref ac, .ref au, .ref ab, .ref an, .ref ak, .ref ad, .int tm, .int sl, .long en])), (ac, .inr (5, [.ref c1, .ref c2, .ref c3, .ref c4, .ref c5, .int 15])), (c1, .inl (cI, 4, .inl (cn 0))), (c2, .inl (cI, 4, .inl (cn 1))), (c3, .inl (cI, 4, .inl (cn 0))), (c4, .inl (cI, 4, .inl (cn tk))), (c5, .inl (cI, 4, .inl (cn fr))), (au, .inr (10, [.ref t1, .ref t2, .ref t3, .ref t4, .ref t5, .ref t6, .ref t7, .int 0, .int 0])), (t1, .inl (cI, 4, .inl (cn 0))), (t2, .inl (cI, 4, .inl (cn 10))), (t3, .inl (cI, 4, .inl (cn 10))), (t4, .inl (cI, 4, .inl (cn (-1)))), (t5, .inl (cI, 4, .inl (cn 0))), (t6, .inl (cI, 4, .inl (cn 0))), (t7, .inl (cI, 4, .inl (cn 110))), (ab, .inr (7, [.ref b1, .ref b2, .int 0, .int 0])), (b1, .inl (cI, 200, .inl (cn 0))), (b2, .inl (cI, 200, .inl (cn 0))), (an, .inr (6, [.ref n1, .ref n2, .ref n3, .ref n4, .ref n5, .int 0, .int 0])), (n1, .inl (cI, 8, .inl (cn 7))), (n2, .inl (cI, 8, .inl (cn 1))), (n3, .inl (cI, 8, .inl (cn 110))), (n4, .inl (cI, 8, .inl (cn 0))), (n5, .inl (cI, 8, .inl (cn 0))), (ar, .inr (9, [.ref r1, .ref r2, .int 0])), (r1, .inl (cI, 8, .inl (cn 0))), (r2, .inl (cI, 8, .inl (cn 0))), (ak, .inr (8, [.ref ar, .int 105, .int 0, .int (-1), .int 0, .int 0, .int 0])), (ad, .inr (11, [.int (-1), .int 0, .int 0, .int 0, .int 0, .int 0]))] sz)) 0 0 (va_A [(ah, .inr (4, [.ref ac, .ref au, .ref ab, .ref an, .ref ak, .ref ad, .int tm, .int sl, .long en])), (ac, .inr (5, [.ref c1, .ref c2, .ref c3, .ref c4, .ref c5, .int 15])), (c1, .inl (cI, 4, .inl (cn 0))), (c2, .inl (cI, 4, .inl (cn 1))), (c3, .inl (cI, 4, .inl (cn 0))), (c4, .inl (cI, 4, .inl (cn tk))), (c5, .inl (cI, 4, .inl (cn fr))), (au, .inr (10, [.ref t1, .ref t2, .ref t3, .ref t4, .ref t5, .ref t6, .ref t7, .int 0, .int 0])), (t1, .inl (cI, 4, .inl (cn 0))), (t2, .inl (cI, 4, .inl (cn 10))), (t3, .inl (cI, 4, .inl (cn 10))), (t4, .inl (cI, 4, .inl (cn (-1)))), (t5, .inl (cI, 4, .inl (cn 0))), (t6, .inl (cI, 4, .inl (cn 0))), (t7, .inl (cI, 4, .inl (cn 110))), (ab, .inr (7, [.ref b1, .ref b2, .int 0, .int 0])), (b1, .inl (cI, 200, .inl (cn 0))), (b2, .inl (cI, 200, .inl (cn 0))), (an, .inr (6, [.ref n1, .ref n2, .ref n3, .ref n4, .ref n5, .int 0, .int 0])), (n1, .inl (cI, 8, .inl (cn 7))), (n2, .inl (cI, 8, .inl (cn 1))), (n3, .inl (cI, 8, .inl (cn 110))), (n4, .inl (cI, 8, .inl (cn 0))), (n5, .inl (cI, 8, .inl (cn 0))), (ar, .inr (9, [.ref r1, .ref r2, .int 0])), (r1, .inl (cI, 8, .inl (cn 0))), (r2, .inl (cI, 8, .inl (cn 0))), (ak, .inr (8, [.ref ar, .int 105, .int 0, .int (-1), .int 0, .int 0, .int 0])), (ad, .inr (11, [.int (-1), .int 0, .int 0, .int 0, .int 0, .int 0]))] sz) := by
  refine Met.ofW (cc := cX0_goBeat) (maxL := 2) (ret := none) (by decide) rfl ?_
  intro p e s m args below meth c s₁ B hml hv
  obtain ⟨rfl, hsz, hP, hK, hD0, hG⟩ := hv
  have hx := B.exec
  have hb := B.bytes
  have hr := B.returns
  have hts := atoms_spec (ws := wsX0_goBeat) B.pre
  have hown : s.vm.findClass RX0 = some m.cls := findClass_of_methodNamed B.named
  have hlocks := B.notSynchronized
  subst hsz
  have hD := hD0.self (sz := s.heap.size)
  generalize hAe : va_A [(ah, .inr (4, [.ref ac, .ref au, .ref ab, .ref an, .ref ak, .ref ad, .int tm, .int sl, .long en])), (ac, .inr (5, [.ref c1, .ref c2, .ref c3, .ref c4, .ref c5, .int 15])), (c1, .inl (cI, 4, .inl (cn 0))), (c2, .inl (cI, 4, .inl (cn 1))), (c3, .inl (cI, 4, .inl (cn 0))), (c4, .inl (cI, 4, .inl (cn tk))), (c5, .inl (cI, 4, .inl (cn fr))), (au, .inr (10, [.ref t1, .ref t2, .ref t3, .ref t4, .ref t5, .ref t6, .ref t7, .int 0, .int 0])), (t1, .inl (cI, 4, .inl (cn 0))), (t2, .inl (cI, 4, .inl (cn 10))), (t3, .inl (cI, 4, .inl (cn 10))), (t4, .inl (cI, 4, .inl (cn (-1)))), (t5, .inl (cI, 4, .inl (cn 0))), (t6, .inl (cI, 4, .inl (cn 0))), (t7, .inl (cI, 4, .inl (cn 110))), (ab, .inr (7, [.ref b1, .ref b2, .int 0, .int 0])), (b1, .inl (cI, 200, .inl (cn 0))), (b2, .inl (cI, 200, .inl (cn 0))), (an, .inr (6, [.ref n1, .ref n2, .ref n3, .ref n4, .ref n5, .int 0, .int 0])), (n1, .inl (cI, 8, .inl (cn 7))), (n2, .inl (cI, 8, .inl (cn 1))), (n3, .inl (cI, 8, .inl (cn 110))), (n4, .inl (cI, 8, .inl (cn 0))), (n5, .inl (cI, 8, .inl (cn 0))), (ar, .inr (9, [.ref r1, .ref r2, .int 0])), (r1, .inl (cI, 8, .inl (cn 0))), (r2, .inl (cI, 8, .inl (cn 0))), (ak, .inr (8, [.ref ar, .int 105, .int 0, .int (-1), .int 0, .int 0, .int 0])), (ad, .inr (11, [.int (-1), .int 0, .int 0, .int 0, .int 0, .int 0]))] s.heap.size = A at hD hG ⊢
  have hN := hG.1
  have hA : ∀ q : Nat, s.heap.size ≤ q → A q := fun q h => by rw [← hAe]; exact Or.inr h
  have hS : va_S A s.heap s.heap [] := va_S.rf
  have hP : va_P (dC, dI) vwCl [(ah, .inr (4, [.ref ac, .ref au, .ref ab, .ref an, .ref ak, .ref ad, .int tm, .int sl, .long en])), (ac, .inr (5, [.ref c1, .ref c2, .ref c3, .ref c4, .ref c5, .int 15])), (c1, .inl (cI, 4, .inl (cn 0))), (c2, .inl (cI, 4, .inl (cn 1))), (c3, .inl (cI, 4, .inl (cn 0))), (c4, .inl (cI, 4, .inl (cn tk))), (c5, .inl (cI, 4, .inl (cn fr))), (au, .inr (10, [.ref t1, .ref t2, .ref t3, .ref t4, .ref t5, .ref t6, .ref t7, .int 0, .int 0])), (t1, .inl (cI, 4, .inl (cn 0))), (t2, .inl (cI, 4, .inl (cn 10))), (t3, .inl (cI, 4, .inl (cn 10))), (t4, .inl (cI, 4, .inl (cn (-1)))), (t5, .inl (cI, 4, .inl (cn 0))), (t6, .inl (cI, 4, .inl (cn 0))), (t7, .inl (cI, 4, .inl (cn 110))), (ab, .inr (7, [.ref b1, .ref b2, .int 0, .int 0])), (b1, .inl (cI, 200, .inl (cn 0))), (b2, .inl (cI, 200, .inl (cn 0))), (an, .inr (6, [.ref n1, .ref n2, .ref n3, .ref n4, .ref n5, .int 0, .int 0])), (n1, .inl (cI, 8, .inl (cn 7))), (n2, .inl (cI, 8, .inl (cn 1))), (n3, .inl (cI, 8, .inl (cn 110))), (n4, .inl (cI, 8, .inl (cn 0))), (n5, .inl (cI, 8, .inl (cn 0))), (ar, .inr (9, [.ref r1, .ref r2, .int 0])), (r1, .inl (cI, 8, .inl (cn 0))), (r2, .inl (cI, 8, .inl (cn 0))), (ak, .inr (8, [.ref ar, .int 105, .int 0, .int (-1), .int 0, .int 0, .int 0])), (ad, .inr (11, [.int (-1), .int 0, .int 0, .int 0, .int 0, .int 0]))] s.heap := hP
  have hw0 : (Cond.fieldLink RX0 85 "Tickstation$Chip" "time" "I").before _ s = true := hts _ (List.mem_cons_of_mem _ (List.mem_append_left _ (List.mem_append_left _ (List.mem_append_left _ (List.mem_append_left _ (List.mem_append_left _ (List.mem_append_left _ (List.mem_append_left _ (List.mem_append_left _ (List.mem_append_left _ (List.mem_append_left _ (List.mem_of_getElem? (i := 0) rfl))))))))))))
  have hiX0 : ∀ w ∈ u_ws RX0 TX0 9, w ∈ wsX0_goBeat := fun _ h => List.mem_cons_of_mem _ (List.mem_append_left _ (List.mem_append_left _ (List.mem_append_left _ (List.mem_append_left _ (List.mem_append_left _ (List.mem_append_left _ (List.mem_append_left _ (List.mem_append_left _ (List.mem_append_right _ (h))))))))))
  have hw2 : (Cond.fieldLink RX0 12 "Tickstation$Chip" "clocks" "LTickstation$Clocks;").before _ s = true := hts _ (List.mem_cons_of_mem _ (List.mem_append_left _ (List.mem_append_left _ (List.mem_append_left _ (List.mem_append_left _ (List.mem_append_left _ (List.mem_append_left _ (List.mem_append_left _ (List.mem_append_left _ (List.mem_append_left _ (List.mem_append_left _ (List.mem_of_getElem? (i := 1) rfl))))))))))))
  have hw3 : (Cond.fieldLink RX0 42 "Tickstation$Chip" "processor" "LTickstation$Processor;").before _ s = true := hts _ (List.mem_cons_of_mem _ (List.mem_append_left _ (List.mem_append_left _ (List.mem_append_left _ (List.mem_append_left _ (List.mem_append_left _ (List.mem_append_left _ (List.mem_append_left _ (List.mem_append_left _ (List.mem_append_left _ (List.mem_append_left _ (List.mem_of_getElem? (i := 2) rfl))))))))))))
  have hw4 : (Cond.fieldLink RX0 21 "Tickstation$Chip" "timers" "LTickstation$Timers;").before _ s = true := hts _ (List.mem_cons_of_mem _ (List.mem_append_left _ (List.mem_append_left _ (List.mem_append_left _ (List.mem_append_left _ (List.mem_append_left _ (List.mem_append_left _ (List.mem_append_left _ (List.mem_append_left _ (List.mem_append_left _ (List.mem_append_left _ (List.mem_of_getElem? (i := 3) rfl))))))))))))
  have hw5 : (Cond.fieldLink RX0 35 "Tickstation$Chip" "lines" "LTickstation$Lines;").before _ s = true := hts _ (List.mem_cons_of_mem _ (List.mem_append_left _ (List.mem_append_left _ (List.mem_append_left _ (List.mem_append_left _ (List.mem_append_left _ (List.mem_append_left _ (List.mem_append_left _ (List.mem_append_left _ (List.mem_append_left _ (List.mem_append_left _ (List.mem_of_getElem? (i := 4) rfl))))))))))))
  have hw6 : (Cond.fieldLink RX0 105 "Tickstation$Lines" "requested" "I").before _ s = true := hts _ (List.mem_cons_of_mem _ (List.mem_append_left _ (List.mem_append_left _ (List.mem_append_left _ (List.mem_append_left _ (List.mem_append_left _ (List.mem_append_left _ (List.mem_append_left _ (List.mem_append_left _ (List.mem_append_left _ (List.mem_append_left _ (List.mem_of_getElem? (i := 5) rfl))))))))))))
  have hiX2 : ∀ w ∈ u_ws RX2 TX2 7, w ∈ wsX0_goBeat := fun _ h => List.mem_cons_of_mem _ (List.mem_append_left _ (List.mem_append_left _ (List.mem_append_left _ (List.mem_append_left _ (List.mem_append_left _ (List.mem_append_left _ (List.mem_append_left _ (List.mem_append_right _ (h)))))))))
  have hw8 : (Cond.fieldLink RX0 49 "Tickstation$Chip" "watchdog" "LTickstation$Watchdog;").before _ s = true := hts _ (List.mem_cons_of_mem _ (List.mem_append_left _ (List.mem_append_left _ (List.mem_append_left _ (List.mem_append_left _ (List.mem_append_left _ (List.mem_append_left _ (List.mem_append_left _ (List.mem_append_left _ (List.mem_append_left _ (List.mem_append_left _ (List.mem_of_getElem? (i := 6) rfl))))))))))))
  have hl := lv_entry ([.ref ah]) (n := 2) (Nat.le_of_ble_eq_true rfl)
  rw [lg_entry_eq]
  generalize (lg_sl ([.ref ah]) ++ List.replicate (2 - (lg_sl ([.ref ah])).length) Slot.unset).toArray = ls at hl ⊢
  have hl : lv_has ls 2 [(0, .ref ah)] := hl
  refine lv_aload_n hx hb dX0_goBeat_0 rfl (lv_at hl 0 rfl) ?_
  refine lv_dup hx hb dX0_goBeat_1 rfl ?_
  refine va_get (D := (dC, dI)) (ci := 4) (v := .int tm) (C := RX0) (T := TX0) (N := 9) hx hb hts hiX0 hown hK hP 0 rfl rfl 6 (by decide) (hw0) (fun _ h9 => h9) rfl dX0_goBeat_2 ?_
  refine lv_iconst (v := 1) hx hb dX0_goBeat_5 (by decide) ?_
  refine lv_iadd hx hb dX0_goBeat_6 ?_
  refine va_put (D := (dC, dI)) (ci := 4) (v := .int (tm + 1)) (ty := .int) (C := RX0) (T := TX0) (N := 9) hx hb hts hiX0 tyX0 tyX0_ok nmX0 hown hK hP hD hS 0 rfl rfl 6 (by decide) (hw0) (fun _ h9 => h9) rfl (by decide +kernel) rfl rfl (Nat.le_of_ble_eq_true rfl) dX0_goBeat_7 (fun H locs hP hD hS => ?_)
  have hP : va_P (dC, dI) vwCl [(ah, .inr (4, [.ref ac, .ref au, .ref ab, .ref an, .ref ak, .ref ad, .int (tm + 1), .int sl, .long en])), (ac, .inr (5, [.ref c1, .ref c2, .ref c3, .ref c4, .ref c5, .int 15])), (c1, .inl (cI, 4, .inl (cn 0))), (c2, .inl (cI, 4, .inl (cn 1))), (c3, .inl (cI, 4, .inl (cn 0))), (c4, .inl (cI, 4, .inl (cn tk))), (c5, .inl (cI, 4, .inl (cn fr))), (au, .inr (10, [.ref t1, .ref t2, .ref t3, .ref t4, .ref t5, .ref t6, .ref t7, .int 0, .int 0])), (t1, .inl (cI, 4, .inl (cn 0))), (t2, .inl (cI, 4, .inl (cn 10))), (t3, .inl (cI, 4, .inl (cn 10))), (t4, .inl (cI, 4, .inl (cn (-1)))), (t5, .inl (cI, 4, .inl (cn 0))), (t6, .inl (cI, 4, .inl (cn 0))), (t7, .inl (cI, 4, .inl (cn 110))), (ab, .inr (7, [.ref b1, .ref b2, .int 0, .int 0])), (b1, .inl (cI, 200, .inl (cn 0))), (b2, .inl (cI, 200, .inl (cn 0))), (an, .inr (6, [.ref n1, .ref n2, .ref n3, .ref n4, .ref n5, .int 0, .int 0])), (n1, .inl (cI, 8, .inl (cn 7))), (n2, .inl (cI, 8, .inl (cn 1))), (n3, .inl (cI, 8, .inl (cn 110))), (n4, .inl (cI, 8, .inl (cn 0))), (n5, .inl (cI, 8, .inl (cn 0))), (ar, .inr (9, [.ref r1, .ref r2, .int 0])), (r1, .inl (cI, 8, .inl (cn 0))), (r2, .inl (cI, 8, .inl (cn 0))), (ak, .inr (8, [.ref ar, .int 105, .int 0, .int (-1), .int 0, .int 0, .int 0])), (ad, .inr (11, [.int (-1), .int 0, .int 0, .int 0, .int 0, .int 0]))] H := hP
  have hD : va_D A [(ah, .inr (4, [.ref ac, .ref au, .ref ab, .ref an, .ref ak, .ref ad, .int (tm + 1), .int sl, .long en])), (ac, .inr (5, [.ref c1, .ref c2, .ref c3, .ref c4, .ref c5, .int 15])), (c1, .inl (cI, 4, .inl (cn 0))), (c2, .inl (cI, 4, .inl (cn 1))), (c3, .inl (cI, 4, .inl (cn 0))), (c4, .inl (cI, 4, .inl (cn tk))), (c5, .inl (cI, 4, .inl (cn fr))), (au, .inr (10, [.ref t1, .ref t2, .ref t3, .ref t4, .ref t5, .ref t6, .ref t7, .int 0, .int 0])), (t1, .inl (cI, 4, .inl (cn 0))), (t2, .inl (cI, 4, .inl (cn 10))), (t3, .inl (cI, 4, .inl (cn 10))), (t4, .inl (cI, 4, .inl (cn (-1)))), (t5, .inl (cI, 4, .inl (cn 0))), (t6, .inl (cI, 4, .inl (cn 0))), (t7, .inl (cI, 4, .inl (cn 110))), (ab, .inr (7, [.ref b1, .ref b2, .int 0, .int 0])), (b1, .inl (cI, 200, .inl (cn 0))), (b2, .inl (cI, 200, .inl (cn 0))), (an, .inr (6, [.ref n1, .ref n2, .ref n3, .ref n4, .ref n5, .int 0, .int 0])), (n1, .inl (cI, 8, .inl (cn 7))), (n2, .inl (cI, 8, .inl (cn 1))), (n3, .inl (cI, 8, .inl (cn 110))), (n4, .inl (cI, 8, .inl (cn 0))), (n5, .inl (cI, 8, .inl (cn 0))), (ar, .inr (9, [.ref r1, .ref r2, .int 0])), (r1, .inl (cI, 8, .inl (cn 0))), (r2, .inl (cI, 8, .inl (cn 0))), (ak, .inr (8, [.ref ar, .int 105, .int 0, .int (-1), .int 0, .int 0, .int 0])), (ad, .inr (11, [.int (-1), .int 0, .int 0, .int 0, .int 0, .int 0]))] := hD
  refine lv_aload_n hx hb dX0_goBeat_10 rfl (lv_at hl 0 rfl) ?_
  refine va_get (D := (dC, dI)) (ci := 4) (v := .ref ac) (C := RX0) (T := TX0) (N := 9) hx hb hts hiX0 hown hK hP 0 rfl rfl 0 (by decide) (hw2) (fun _ h9 => h9) rfl dX0_goBeat_11 ?_
  refine lv_aload_n hx hb dX0_goBeat_14 rfl (lv_at hl 0 rfl) ?_
  refine va_get (D := (dC, dI)) (ci := 4) (v := .ref ak) (C := RX0) (T := TX0) (N := 9) hx hb hts hiX0 hown hK hP 0 rfl rfl 4 (by decide) (hw3) (fun _ h9 => h9) rfl dX0_goBeat_15 ?_
  have hPc := hP.sub (ws' := [(ak, .inr (8, [.ref ar, .int 105, .int 0, .int (-1), .int 0, .int 0, .int 0]))]) [27] rfl
  have hDc := hD.sub (ws' := [(ak, .inr (8, [.ref ar, .int 105, .int 0, .int (-1), .int 0, .int 0, .int 0]))]) [27] (by decide) rfl
  have hKc := hK.sub (tys' := [(cI, .int)]) [0] rfl
  have hFc := va_free (wc := [(ak, .inr (8, [.ref ar, .int 105, .int 0, .int (-1), .int 0, .int 0, .int 0]))]) hD hS hA [27] rfl
  refine va_calli (va_runV (As := []) (rest := [.ref ac]) ⟨hx, hb, hml, hown, hts⟩ (c_X4_isDeepAsleep l dC dI g ak ar cI H.size) (cwV 0 hts gX0_goBeat_X4_isDeepAsleep rfl rfl rfl (by decide +kernel) ⟨Nat.le_of_ble_eq_true rfl, Nat.le_of_ble_eq_true rfl⟩) ⟨wIn_blind, va_recv hK hP (ci := 8) (q0 := 27) rfl rfl, wIn_at hPc hKc hDc hG hS hFc⟩ rfl rfl hl.1 rfl (lv_room (Nat.le_of_ble_eq_true rfl)) dX0_goBeat_18 ⟨Nat.le_of_ble_eq_true rfl, Nat.le_of_ble_eq_true rfl⟩) hS (fun q _ h => hFc q h) hFc (fun r_1 u t H1 locs ht hvm hw hB hz1 hk1 hS => ?_)
  obtain ⟨hP1, hK1, hD1⟩ := hB
  rw [ht] at hP1
  obtain ⟨hP, hD⟩ := va_join (wr := [(ah, .inr (4, [.ref ac, .ref au, .ref ab, .ref an, .ref ak, .ref ad, .int (tm + 1), .int sl, .long en])), (ac, .inr (5, [.ref c1, .ref c2, .ref c3, .ref c4, .ref c5, .int 15])), (c1, .inl (cI, 4, .inl (cn 0))), (c2, .inl (cI, 4, .inl (cn 1))), (c3, .inl (cI, 4, .inl (cn 0))), (c4, .inl (cI, 4, .inl (cn tk))), (c5, .inl (cI, 4, .inl (cn fr))), (au, .inr (10, [.ref t1, .ref t2, .ref t3, .ref t4, .ref t5, .ref t6, .ref t7, .int 0, .int 0])), (t1, .inl (cI, 4, .inl (cn 0))), (t2, .inl (cI, 4, .inl (cn 10))), (t3, .inl (cI, 4, .inl (cn 10))), (t4, .inl (cI, 4, .inl (cn (-1)))), (t5, .inl (cI, 4, .inl (cn 0))), (t6, .inl (cI, 4, .inl (cn 0))), (t7, .inl (cI, 4, .inl (cn 110))), (ab, .inr (7, [.ref b1, .ref b2, .int 0, .int 0])), (b1, .inl (cI, 200, .inl (cn 0))), (b2, .inl (cI, 200, .inl (cn 0))), (an, .inr (6, [.ref n1, .ref n2, .ref n3, .ref n4, .ref n5, .int 0, .int 0])), (n1, .inl (cI, 8, .inl (cn 7))), (n2, .inl (cI, 8, .inl (cn 1))), (n3, .inl (cI, 8, .inl (cn 110))), (n4, .inl (cI, 8, .inl (cn 0))), (n5, .inl (cI, 8, .inl (cn 0))), (ar, .inr (9, [.ref r1, .ref r2, .int 0])), (r1, .inl (cI, 8, .inl (cn 0))), (r2, .inl (cI, 8, .inl (cn 0))), (ad, .inr (11, [.int (-1), .int 0, .int 0, .int 0, .int 0, .int 0]))]) (w1 := [(ak, .inr (8, [.ref ar, .int 105, .int 0, .int (-1), .int 0, .int 0, .int 0]))]) hP hD [27] [0, 1, 2, 3, 4, 5, 6, 7, 8, 9, 10, 11, 12, 13, 14, 15, 16, 17, 18, 19, 20, 21, 22, 23, 24, 25, 26, 28] rfl rfl (by decide) (by decide) hk1 hFc hP1 hD1
  generalize H1 = H at hP hS ⊢
  have hP : va_P (dC, dI) vwCl [(ah, .inr (4, [.ref ac, .ref au, .ref ab, .ref an, .ref ak, .ref ad, .int (tm + 1), .int sl, .long en])), (ac, .inr (5, [.ref c1, .ref c2, .ref c3, .ref c4, .ref c5, .int 15])), (c1, .inl (cI, 4, .inl (cn 0))), (c2, .inl (cI, 4, .inl (cn 1))), (c3, .inl (cI, 4, .inl (cn 0))), (c4, .inl (cI, 4, .inl (cn tk))), (c5, .inl (cI, 4, .inl (cn fr))), (au, .inr (10, [.ref t1, .ref t2, .ref t3, .ref t4, .ref t5, .ref t6, .ref t7, .int 0, .int 0])), (t1, .inl (cI, 4, .inl (cn 0))), (t2, .inl (cI, 4, .inl (cn 10))), (t3, .inl (cI, 4, .inl (cn 10))), (t4, .inl (cI, 4, .inl (cn (-1)))), (t5, .inl (cI, 4, .inl (cn 0))), (t6, .inl (cI, 4, .inl (cn 0))), (t7, .inl (cI, 4, .inl (cn 110))), (ab, .inr (7, [.ref b1, .ref b2, .int 0, .int 0])), (b1, .inl (cI, 200, .inl (cn 0))), (b2, .inl (cI, 200, .inl (cn 0))), (an, .inr (6, [.ref n1, .ref n2, .ref n3, .ref n4, .ref n5, .int 0, .int 0])), (n1, .inl (cI, 8, .inl (cn 7))), (n2, .inl (cI, 8, .inl (cn 1))), (n3, .inl (cI, 8, .inl (cn 110))), (n4, .inl (cI, 8, .inl (cn 0))), (n5, .inl (cI, 8, .inl (cn 0))), (ar, .inr (9, [.ref r1, .ref r2, .int 0])), (r1, .inl (cI, 8, .inl (cn 0))), (r2, .inl (cI, 8, .inl (cn 0))), (ad, .inr (11, [.int (-1), .int 0, .int 0, .int 0, .int 0, .int 0])), (ak, .inr (8, [.ref ar, .int 105, .int 0, .int (-1), .int 0, .int 0, .int 0]))] H := hP
  have hD : va_D A [(ah, .inr (4, [.ref ac, .ref au, .ref ab, .ref an, .ref ak, .ref ad, .int (tm + 1), .int sl, .long en])), (ac, .inr (5, [.ref c1, .ref c2, .ref c3, .ref c4, .ref c5, .int 15])), (c1, .inl (cI, 4, .inl (cn 0))), (c2, .inl (cI, 4, .inl (cn 1))), (c3, .inl (cI, 4, .inl (cn 0))), (c4, .inl (cI, 4, .inl (cn tk))), (c5, .inl (cI, 4, .inl (cn fr))), (au, .inr (10, [.ref t1, .ref t2, .ref t3, .ref t4, .ref t5, .ref t6, .ref t7, .int 0, .int 0])), (t1, .inl (cI, 4, .inl (cn 0))), (t2, .inl (cI, 4, .inl (cn 10))), (t3, .inl (cI, 4, .inl (cn 10))), (t4, .inl (cI, 4, .inl (cn (-1)))), (t5, .inl (cI, 4, .inl (cn 0))), (t6, .inl (cI, 4, .inl (cn 0))), (t7, .inl (cI, 4, .inl (cn 110))), (ab, .inr (7, [.ref b1, .ref b2, .int 0, .int 0])), (b1, .inl (cI, 200, .inl (cn 0))), (b2, .inl (cI, 200, .inl (cn 0))), (an, .inr (6, [.ref n1, .ref n2, .ref n3, .ref n4, .ref n5, .int 0, .int 0])), (n1, .inl (cI, 8, .inl (cn 7))), (n2, .inl (cI, 8, .inl (cn 1))), (n3, .inl (cI, 8, .inl (cn 110))), (n4, .inl (cI, 8, .inl (cn 0))), (n5, .inl (cI, 8, .inl (cn 0))), (ar, .inr (9, [.ref r1, .ref r2, .int 0])), (r1, .inl (cI, 8, .inl (cn 0))), (r2, .inl (cI, 8, .inl (cn 0))), (ad, .inr (11, [.int (-1), .int 0, .int 0, .int 0, .int 0, .int 0])), (ak, .inr (8, [.ref ar, .int 105, .int 0, .int (-1), .int 0, .int 0, .int 0]))] := hD
  refine lt_ci (y := 0) hw ?_
  have hPc := hP.sub (ws' := [(ac, .inr (5, [.ref c1, .ref c2, .ref c3, .ref c4, .ref c5, .int 15])), (c1, .inl (cI, 4, .inl (cn 0))), (c2, .inl (cI, 4, .inl (cn 1))), (c3, .inl (cI, 4, .inl (cn 0))), (c4, .inl (cI, 4, .inl (cn tk))), (c5, .inl (cI, 4, .inl (cn fr)))]) [1, 2, 3, 4, 5, 6] rfl
  have hDc := hD.sub (ws' := [(ac, .inr (5, [.ref c1, .ref c2, .ref c3, .ref c4, .ref c5, .int 15])), (c1, .inl (cI, 4, .inl (cn 0))), (c2, .inl (cI, 4, .inl (cn 1))), (c3, .inl (cI, 4, .inl (cn 0))), (c4, .inl (cI, 4, .inl (cn tk))), (c5, .inl (cI, 4, .inl (cn fr)))]) [1, 2, 3, 4, 5, 6] (by decide) rfl
  have hKc := hK.sub (tys' := [(cI, .int)]) [0] rfl
  have hFc := va_free (wc := [(ac, .inr (5, [.ref c1, .ref c2, .ref c3, .ref c4, .ref c5, .int 15])), (c1, .inl (cI, 4, .inl (cn 0))), (c2, .inl (cI, 4, .inl (cn 1))), (c3, .inl (cI, 4, .inl (cn 0))), (c4, .inl (cI, 4, .inl (cn tk))), (c5, .inl (cI, 4, .inl (cn fr)))]) hD hS hA [1, 2, 3, 4, 5, 6] rfl
  refine va_callv (va_runV (As := [.int 0]) (rest := []) ⟨hx, hb, hml, hown, hts⟩ (c_X1_goBeat l dC dI g ac c1 c2 c3 c4 c5 cI tk fr H.size) (cwV 1 hts gX0_goBeat_X1_goBeat rfl rfl rfl (by decide +kernel) ⟨Nat.le_of_ble_eq_true rfl, Nat.le_of_ble_eq_true rfl⟩) ⟨wIn_blind, va_recv hK hP (ci := 5) (q0 := 1) rfl rfl, wIn_at hPc hKc hDc hG hS hFc⟩ rfl rfl hl.1 rfl (lv_room (Nat.le_of_ble_eq_true rfl)) dX0_goBeat_21 ⟨Nat.le_of_ble_eq_true rfl, Nat.le_of_ble_eq_true rfl⟩) hS (fun q _ h => hFc q h) hFc (fun u t H1 locs ht hvm hw hB hz1 hk1 hS => ?_)
  obtain ⟨hP1, hK1, hD1⟩ := hB
  rw [ht] at hP1
  obtain ⟨hP, hD⟩ := va_join (wr := [(ah, .inr (4, [.ref ac, .ref au, .ref ab, .ref an, .ref ak, .ref ad, .int (tm + 1), .int sl, .long en])), (au, .inr (10, [.ref t1, .ref t2, .ref t3, .ref t4, .ref t5, .ref t6, .ref t7, .int 0, .int 0])), (t1, .inl (cI, 4, .inl (cn 0))), (t2, .inl (cI, 4, .inl (cn 10))), (t3, .inl (cI, 4, .inl (cn 10))), (t4, .inl (cI, 4, .inl (cn (-1)))), (t5, .inl (cI, 4, .inl (cn 0))), (t6, .inl (cI, 4, .inl (cn 0))), (t7, .inl (cI, 4, .inl (cn 110))), (ab, .inr (7, [.ref b1, .ref b2, .int 0, .int 0])), (b1, .inl (cI, 200, .inl (cn 0))), (b2, .inl (cI, 200, .inl (cn 0))), (an, .inr (6, [.ref n1, .ref n2, .ref n3, .ref n4, .ref n5, .int 0, .int 0])), (n1, .inl (cI, 8, .inl (cn 7))), (n2, .inl (cI, 8, .inl (cn 1))), (n3, .inl (cI, 8, .inl (cn 110))), (n4, .inl (cI, 8, .inl (cn 0))), (n5, .inl (cI, 8, .inl (cn 0))), (ar, .inr (9, [.ref r1, .ref r2, .int 0])), (r1, .inl (cI, 8, .inl (cn 0))), (r2, .inl (cI, 8, .inl (cn 0))), (ad, .inr (11, [.int (-1), .int 0, .int 0, .int 0, .int 0, .int 0])), (ak, .inr (8, [.ref ar, .int 105, .int 0, .int (-1), .int 0, .int 0, .int 0]))]) (w1 := [(ac, .inr (5, [.ref c1, .ref c2, .ref c3, .ref c4, .ref c5, .int 15])), (c1, .inl (cI, 4, .inl (cn 0))), (c2, .inl (cI, 4, .inl (cn 1))), (c3, .inl (cI, 4, .inl (cn 0))), (c4, .inl (cI, 4, .inl (cn (tk + 1)))), (c5, .inl (cI, 4, .inl (cn 1)))]) hP hD [1, 2, 3, 4, 5, 6] [0, 7, 8, 9, 10, 11, 12, 13, 14, 15, 16, 17, 18, 19, 20, 21, 22, 23, 24, 25, 26, 27, 28] rfl rfl (by decide) (by decide) hk1 hFc hP1 hD1
  generalize H1 = H at hP hS ⊢
  have hP : va_P (dC, dI) vwCl [(ah, .inr (4, [.ref ac, .ref au, .ref ab, .ref an, .ref ak, .ref ad, .int (tm + 1), .int sl, .long en])), (au, .inr (10, [.ref t1, .ref t2, .ref t3, .ref t4, .ref t5, .ref t6, .ref t7, .int 0, .int 0])), (t1, .inl (cI, 4, .inl (cn 0))), (t2, .inl (cI, 4, .inl (cn 10))), (t3, .inl (cI, 4, .inl (cn 10))), (t4, .inl (cI, 4, .inl (cn (-1)))), (t5, .inl (cI, 4, .inl (cn 0))), (t6, .inl (cI, 4, .inl (cn 0))), (t7, .inl (cI, 4, .inl (cn 110))), (ab, .inr (7, [.ref b1, .ref b2, .int 0, .int 0])), (b1, .inl (cI, 200, .inl (cn 0))), (b2, .inl (cI, 200, .inl (cn 0))), (an, .inr (6, [.ref n1, .ref n2, .ref n3, .ref n4, .ref n5, .int 0, .int 0])), (n1, .inl (cI, 8, .inl (cn 7))), (n2, .inl (cI, 8, .inl (cn 1))), (n3, .inl (cI, 8, .inl (cn 110))), (n4, .inl (cI, 8, .inl (cn 0))), (n5, .inl (cI, 8, .inl (cn 0))), (ar, .inr (9, [.ref r1, .ref r2, .int 0])), (r1, .inl (cI, 8, .inl (cn 0))), (r2, .inl (cI, 8, .inl (cn 0))), (ad, .inr (11, [.int (-1), .int 0, .int 0, .int 0, .int 0, .int 0])), (ak, .inr (8, [.ref ar, .int 105, .int 0, .int (-1), .int 0, .int 0, .int 0])), (ac, .inr (5, [.ref c1, .ref c2, .ref c3, .ref c4, .ref c5, .int 15])), (c1, .inl (cI, 4, .inl (cn 0))), (c2, .inl (cI, 4, .inl (cn 1))), (c3, .inl (cI, 4, .inl (cn 0))), (c4, .inl (cI, 4, .inl (cn (tk + 1)))), (c5, .inl (cI, 4, .inl (cn 1)))] H := hP
  have hD : va_D A [(ah, .inr (4, [.ref ac, .ref au, .ref ab, .ref an, .ref ak, .ref ad, .int (tm + 1), .int sl, .long en])), (au, .inr (10, [.ref t1, .ref t2, .ref t3, .ref t4, .ref t5, .ref t6, .ref t7, .int 0, .int 0])), (t1, .inl (cI, 4, .inl (cn 0))), (t2, .inl (cI, 4, .inl (cn 10))), (t3, .inl (cI, 4, .inl (cn 10))), (t4, .inl (cI, 4, .inl (cn (-1)))), (t5, .inl (cI, 4, .inl (cn 0))), (t6, .inl (cI, 4, .inl (cn 0))), (t7, .inl (cI, 4, .inl (cn 110))), (ab, .inr (7, [.ref b1, .ref b2, .int 0, .int 0])), (b1, .inl (cI, 200, .inl (cn 0))), (b2, .inl (cI, 200, .inl (cn 0))), (an, .inr (6, [.ref n1, .ref n2, .ref n3, .ref n4, .ref n5, .int 0, .int 0])), (n1, .inl (cI, 8, .inl (cn 7))), (n2, .inl (cI, 8, .inl (cn 1))), (n3, .inl (cI, 8, .inl (cn 110))), (n4, .inl (cI, 8, .inl (cn 0))), (n5, .inl (cI, 8, .inl (cn 0))), (ar, .inr (9, [.ref r1, .ref r2, .int 0])), (r1, .inl (cI, 8, .inl (cn 0))), (r2, .inl (cI, 8, .inl (cn 0))), (ad, .inr (11, [.int (-1), .int 0, .int 0, .int 0, .int 0, .int 0])), (ak, .inr (8, [.ref ar, .int 105, .int 0, .int (-1), .int 0, .int 0, .int 0])), (ac, .inr (5, [.ref c1, .ref c2, .ref c3, .ref c4, .ref c5, .int 15])), (c1, .inl (cI, 4, .inl (cn 0))), (c2, .inl (cI, 4, .inl (cn 1))), (c3, .inl (cI, 4, .inl (cn 0))), (c4, .inl (cI, 4, .inl (cn (tk + 1)))), (c5, .inl (cI, 4, .inl (cn 1)))] := hD
  refine lv_aload_n hx hb dX0_goBeat_24 rfl (lv_at hl 0 rfl) ?_
  refine va_get (D := (dC, dI)) (ci := 4) (v := .ref au) (C := RX0) (T := TX0) (N := 9) hx hb hts hiX0 hown hK hP 0 rfl rfl 1 (by decide) (hw4) (fun _ h9 => h9) rfl dX0_goBeat_25 ?_
  refine lv_aload_n hx hb dX0_goBeat_28 rfl (lv_at hl 0 rfl) ?_
  refine va_get (D := (dC, dI)) (ci := 4) (v := .ref ac) (C := RX0) (T := TX0) (N := 9) hx hb hts hiX0 hown hK hP 0 rfl rfl 0 (by decide) (hw2) (fun _ h9 => h9) rfl dX0_goBeat_29 ?_
  have hPc := hP.sub (ws' := [(au, .inr (10, [.ref t1, .ref t2, .ref t3, .ref t4, .ref t5, .ref t6, .ref t7, .int 0, .int 0])), (t1, .inl (cI, 4, .inl (cn 0))), (t2, .inl (cI, 4, .inl (cn 10))), (t3, .inl (cI, 4, .inl (cn 10))), (t4, .inl (cI, 4, .inl (cn (-1)))), (t5, .inl (cI, 4, .inl (cn 0))), (t6, .inl (cI, 4, .inl (cn 0))), (t7, .inl (cI, 4, .inl (cn 110))), (ac, .inr (5, [.ref c1, .ref c2, .ref c3, .ref c4, .ref c5, .int 15])), (c1, .inl (cI, 4, .inl (cn 0))), (c2, .inl (cI, 4, .inl (cn 1))), (c3, .inl (cI, 4, .inl (cn 0))), (c4, .inl (cI, 4, .inl (cn (tk + 1)))), (c5, .inl (cI, 4, .inl (cn 1)))]) [1, 2, 3, 4, 5, 6, 7, 8, 23, 24, 25, 26, 27, 28] rfl
  have hDc := hD.sub (ws' := [(au, .inr (10, [.ref t1, .ref t2, .ref t3, .ref t4, .ref t5, .ref t6, .ref t7, .int 0, .int 0])), (t1, .inl (cI, 4, .inl (cn 0))), (t2, .inl (cI, 4, .inl (cn 10))), (t3, .inl (cI, 4, .inl (cn 10))), (t4, .inl (cI, 4, .inl (cn (-1)))), (t5, .inl (cI, 4, .inl (cn 0))), (t6, .inl (cI, 4, .inl (cn 0))), (t7, .inl (cI, 4, .inl (cn 110))), (ac, .inr (5, [.ref c1, .ref c2, .ref c3, .ref c4, .ref c5, .int 15])), (c1, .inl (cI, 4, .inl (cn 0))), (c2, .inl (cI, 4, .inl (cn 1))), (c3, .inl (cI, 4, .inl (cn 0))), (c4, .inl (cI, 4, .inl (cn (tk + 1)))), (c5, .inl (cI, 4, .inl (cn 1)))]) [1, 2, 3, 4, 5, 6, 7, 8, 23, 24, 25, 26, 27, 28] (by decide) rfl
  have hKc := hK.sub (tys' := [(cI, .int)]) [0] rfl
  have hFc := va_free (wc := [(au, .inr (10, [.ref t1, .ref t2, .ref t3, .ref t4, .ref t5, .ref t6, .ref t7, .int 0, .int 0])), (t1, .inl (cI, 4, .inl (cn 0))), (t2, .inl (cI, 4, .inl (cn 10))), (t3, .inl (cI, 4, .inl (cn 10))), (t4, .inl (cI, 4, .inl (cn (-1)))), (t5, .inl (cI, 4, .inl (cn 0))), (t6, .inl (cI, 4, .inl (cn 0))), (t7, .inl (cI, 4, .inl (cn 110))), (ac, .inr (5, [.ref c1, .ref c2, .ref c3, .ref c4, .ref c5, .int 15])), (c1, .inl (cI, 4, .inl (cn 0))), (c2, .inl (cI, 4, .inl (cn 1))), (c3, .inl (cI, 4, .inl (cn 0))), (c4, .inl (cI, 4, .inl (cn (tk + 1)))), (c5, .inl (cI, 4, .inl (cn 1)))]) hD hS hA [1, 2, 3, 4, 5, 6, 7, 8, 23, 24, 25, 26, 27, 28] rfl
  refine va_calli (va_runV (As := [.ref ac]) (rest := []) ⟨hx, hb, hml, hown, hts⟩ (c_X6_goBeat l dC dI g au t1 t2 t3 t4 t5 t6 t7 ac c1 c2 c3 c4 c5 cI (tk + 1) H.size) (cwV 1 hts gX0_goBeat_X6_goBeat rfl rfl rfl (by decide +kernel) ⟨Nat.le_of_ble_eq_true rfl, Nat.le_of_ble_eq_true rfl⟩) ⟨wIn_blind, va_recv hK hP (ci := 10) (q0 := 1) rfl rfl, wIn_at hPc hKc hDc hG hS hFc⟩ rfl rfl hl.1 rfl (lv_room (Nat.le_of_ble_eq_true rfl)) dX0_goBeat_32 ⟨Nat.le_of_ble_eq_true rfl, Nat.le_of_ble_eq_true rfl⟩) hS (fun q _ h => hFc q h) hFc (fun r_3 u t H1 locs ht hvm hw hB hz1 hk1 hS => ?_)
  obtain ⟨hP1, hK1, hD1⟩ := hB
  rw [ht] at hP1
  obtain ⟨hP, hD⟩ := va_join (wr := [(ah, .inr (4, [.ref ac, .ref au, .ref ab, .ref an, .ref ak, .ref ad, .int (tm + 1), .int sl, .long en])), (ab, .inr (7, [.ref b1, .ref b2, .int 0, .int 0])), (b1, .inl (cI, 200, .inl (cn 0))), (b2, .inl (cI, 200, .inl (cn 0))), (an, .inr (6, [.ref n1, .ref n2, .ref n3, .ref n4, .ref n5, .int 0, .int 0])), (n1, .inl (cI, 8, .inl (cn 7))), (n2, .inl (cI, 8, .inl (cn 1))), (n3, .inl (cI, 8, .inl (cn 110))), (n4, .inl (cI, 8, .inl (cn 0))), (n5, .inl (cI, 8, .inl (cn 0))), (ar, .inr (9, [.ref r1, .ref r2, .int 0])), (r1, .inl (cI, 8, .inl (cn 0))), (r2, .inl (cI, 8, .inl (cn 0))), (ad, .inr (11, [.int (-1), .int 0, .int 0, .int 0, .int 0, .int 0])), (ak, .inr (8, [.ref ar, .int 105, .int 0, .int (-1), .int 0, .int 0, .int 0]))]) (w1 := [(au, .inr (10, [.ref t1, .ref t2, .ref t3, .ref t4, .ref t5, .ref t6, .ref t7, .int 0, .int 0])), (t1, .inl (cI, 4, .inl (cn 0))), (t2, .inl (cI, 4, .inl (cn 10))), (t3, .inl (cI, 4, .inl (cn 10))), (t4, .inl (cI, 4, .inl (cn (-1)))), (t5, .inl (cI, 4, .inl (cn 0))), (t6, .inl (cI, 4, .inl (cn 0))), (t7, .inl (cI, 4, .inl (cn 110))), (ac, .inr (5, [.ref c1, .ref c2, .ref c3, .ref c4, .ref c5, .int 15])), (c1, .inl (cI, 4, .inl (cn 0))), (c2, .inl (cI, 4, .inl (cn 1))), (c3, .inl (cI, 4, .inl (cn 0))), (c4, .inl (cI, 4, .inl (cn (tk + 1)))), (c5, .inl (cI, 4, .inl (cn 1)))]) hP hD [1, 2, 3, 4, 5, 6, 7, 8, 23, 24, 25, 26, 27, 28] [0, 9, 10, 11, 12, 13, 14, 15, 16, 17, 18, 19, 20, 21, 22] rfl rfl (by decide) (by decide) hk1 hFc hP1 hD1
  generalize H1 = H at hP hS ⊢
  have hP : va_P (dC, dI) vwCl [(ah, .inr (4, [.ref ac, .ref au, .ref ab, .ref an, .ref ak, .ref ad, .int (tm + 1), .int sl, .long en])), (ab, .inr (7, [.ref b1, .ref b2, .int 0, .int 0])), (b1, .inl (cI, 200, .inl (cn 0))), (b2, .inl (cI, 200, .inl (cn 0))), (an, .inr (6, [.ref n1, .ref n2, .ref n3, .ref n4, .ref n5, .int 0, .int 0])), (n1, .inl (cI, 8, .inl (cn 7))), (n2, .inl (cI, 8, .inl (cn 1))), (n3, .inl (cI, 8, .inl (cn 110))), (n4, .inl (cI, 8, .inl (cn 0))), (n5, .inl (cI, 8, .inl (cn 0))), (ar, .inr (9, [.ref r1, .ref r2, .int 0])), (r1, .inl (cI, 8, .inl (cn 0))), (r2, .inl (cI, 8, .inl (cn 0))), (ad, .inr (11, [.int (-1), .int 0, .int 0, .int 0, .int 0, .int 0])), (ak, .inr (8, [.ref ar, .int 105, .int 0, .int (-1), .int 0, .int 0, .int 0])), (au, .inr (10, [.ref t1, .ref t2, .ref t3, .ref t4, .ref t5, .ref t6, .ref t7, .int 0, .int 0])), (t1, .inl (cI, 4, .inl (cn 0))), (t2, .inl (cI, 4, .inl (cn 10))), (t3, .inl (cI, 4, .inl (cn 10))), (t4, .inl (cI, 4, .inl (cn (-1)))), (t5, .inl (cI, 4, .inl (cn 0))), (t6, .inl (cI, 4, .inl (cn 0))), (t7, .inl (cI, 4, .inl (cn 110))), (ac, .inr (5, [.ref c1, .ref c2, .ref c3, .ref c4, .ref c5, .int 15])), (c1, .inl (cI, 4, .inl (cn 0))), (c2, .inl (cI, 4, .inl (cn 1))), (c3, .inl (cI, 4, .inl (cn 0))), (c4, .inl (cI, 4, .inl (cn (tk + 1)))), (c5, .inl (cI, 4, .inl (cn 1)))] H := hP
  have hD : va_D A [(ah, .inr (4, [.ref ac, .ref au, .ref ab, .ref an, .ref ak, .ref ad, .int (tm + 1), .int sl, .long en])), (ab, .inr (7, [.ref b1, .ref b2, .int 0, .int 0])), (b1, .inl (cI, 200, .inl (cn 0))), (b2, .inl (cI, 200, .inl (cn 0))), (an, .inr (6, [.ref n1, .ref n2, .ref n3, .ref n4, .ref n5, .int 0, .int 0])), (n1, .inl (cI, 8, .inl (cn 7))), (n2, .inl (cI, 8, .inl (cn 1))), (n3, .inl (cI, 8, .inl (cn 110))), (n4, .inl (cI, 8, .inl (cn 0))), (n5, .inl (cI, 8, .inl (cn 0))), (ar, .inr (9, [.ref r1, .ref r2, .int 0])), (r1, .inl (cI, 8, .inl (cn 0))), (r2, .inl (cI, 8, .inl (cn 0))), (ad, .inr (11, [.int (-1), .int 0, .int 0, .int 0, .int 0, .int 0])), (ak, .inr (8, [.ref ar, .int 105, .int 0, .int (-1), .int 0, .int 0, .int 0])), (au, .inr (10, [.ref t1, .ref t2, .ref t3, .ref t4, .ref t5, .ref t6, .ref t7, .int 0, .int 0])), (t1, .inl (cI, 4, .inl (cn 0))), (t2, .inl (cI, 4, .inl (cn 10))), (t3, .inl (cI, 4, .inl (cn 10))), (t4, .inl (cI, 4, .inl (cn (-1)))), (t5, .inl (cI, 4, .inl (cn 0))), (t6, .inl (cI, 4, .inl (cn 0))), (t7, .inl (cI, 4, .inl (cn 110))), (ac, .inr (5, [.ref c1, .ref c2, .ref c3, .ref c4, .ref c5, .int 15])), (c1, .inl (cI, 4, .inl (cn 0))), (c2, .inl (cI, 4, .inl (cn 1))), (c3, .inl (cI, 4, .inl (cn 0))), (c4, .inl (cI, 4, .inl (cn (tk + 1)))), (c5, .inl (cI, 4, .inl (cn 1)))] := hD
  refine lt_ci (y := 0) hw ?_
  refine lv_istore_n (lv' := [(1, .int 0), (0, .ref ah)]) hx hb dX0_goBeat_35 rfl hl (by decide) rfl (fun ls hl => ?_)
  refine lv_aload_n hx hb dX0_goBeat_36 rfl (lv_at hl 1 rfl) ?_
  refine va_get (D := (dC, dI)) (ci := 4) (v := .ref an) (C := RX0) (T := TX0) (N := 9) hx hb hts hiX0 hown hK hP 0 rfl rfl 3 (by decide) (hw5) (fun _ h9 => h9) rfl dX0_goBeat_37 ?_
  refine lv_dup hx hb dX0_goBeat_40 rfl ?_
  refine va_get (D := (dC, dI)) (ci := 6) (v := .int 0) (C := RX2) (T := TX2) (N := 7) hx hb hts hiX2 hown hK hP 4 rfl rfl 6 (by decide) (hw6) (fun _ h9 => h9) rfl dX0_goBeat_41 ?_
  refine lv_iload_n hx hb dX0_goBeat_44 rfl (lv_at hl 0 rfl) ?_
  refine lv_ior hx hb dX0_goBeat_45 ?_
  refine lt_ci (y := 0) (by first | rfl | decide) ?_
  refine va_put (D := (dC, dI)) (ci := 6) (v := .int 0) (ty := .int) (C := RX2) (T := TX2) (N := 7) hx hb hts hiX2 tyX2 tyX2_ok nmX2 hown hK hP hD hS 4 rfl rfl 6 (by decide) (hw6) (fun _ h9 => h9) rfl (by decide +kernel) rfl rfl (Nat.le_of_ble_eq_true rfl) dX0_goBeat_46 (fun H locs hP hD hS => ?_)
  have hP : va_P (dC, dI) vwCl [(ah, .inr (4, [.ref ac, .ref au, .ref ab, .ref an, .ref ak, .ref ad, .int (tm + 1), .int sl, .long en])), (ab, .inr (7, [.ref b1, .ref b2, .int 0, .int 0])), (b1, .inl (cI, 200, .inl (cn 0))), (b2, .inl (cI, 200, .inl (cn 0))), (an, .inr (6, [.ref n1, .ref n2, .ref n3, .ref n4, .ref n5, .int 0, .int 0])), (n1, .inl (cI, 8, .inl (cn 7))), (n2, .inl (cI, 8, .inl (cn 1))), (n3, .inl (cI, 8, .inl (cn 110))), (n4, .inl (cI, 8, .inl (cn 0))), (n5, .inl (cI, 8, .inl (cn 0))), (ar, .inr (9, [.ref r1, .ref r2, .int 0])), (r1, .inl (cI, 8, .inl (cn 0))), (r2, .inl (cI, 8, .inl (cn 0))), (ad, .inr (11, [.int (-1), .int 0, .int 0, .int 0, .int 0, .int 0])), (ak, .inr (8, [.ref ar, .int 105, .int 0, .int (-1), .int 0, .int 0, .int 0])), (au, .inr (10, [.ref t1, .ref t2, .ref t3, .ref t4, .ref t5, .ref t6, .ref t7, .int 0, .int 0])), (t1, .inl (cI, 4, .inl (cn 0))), (t2, .inl (cI, 4, .inl (cn 10))), (t3, .inl (cI, 4, .inl (cn 10))), (t4, .inl (cI, 4, .inl (cn (-1)))), (t5, .inl (cI, 4, .inl (cn 0))), (t6, .inl (cI, 4, .inl (cn 0))), (t7, .inl (cI, 4, .inl (cn 110))), (ac, .inr (5, [.ref c1, .ref c2, .ref c3, .ref c4, .ref c5, .int 15])), (c1, .inl (cI, 4, .inl (cn 0))), (c2, .inl (cI, 4, .inl (cn 1))), (c3, .inl (cI, 4, .inl (cn 0))), (c4, .inl (cI, 4, .inl (cn (tk + 1)))), (c5, .inl (cI, 4, .inl (cn 1)))] H := hP
  have hD : va_D A [(ah, .inr (4, [.ref ac, .ref au, .ref ab, .ref an, .ref ak, .ref ad, .int (tm + 1), .int sl, .long en])), (ab, .inr (7, [.ref b1, .ref b2, .int 0, .int 0])), (b1, .inl (cI, 200, .inl (cn 0))), (b2, .inl (cI, 200, .inl (cn 0))), (an, .inr (6, [.ref n1, .ref n2, .ref n3, .ref n4, .ref n5, .int 0, .int 0])), (n1, .inl (cI, 8, .inl (cn 7))), (n2, .inl (cI, 8, .inl (cn 1))), (n3, .inl (cI, 8, .inl (cn 110))), (n4, .inl (cI, 8, .inl (cn 0))), (n5, .inl (cI, 8, .inl (cn 0))), (ar, .inr (9, [.ref r1, .ref r2, .int 0])), (r1, .inl (cI, 8, .inl (cn 0))), (r2, .inl (cI, 8, .inl (cn 0))), (ad, .inr (11, [.int (-1), .int 0, .int 0, .int 0, .int 0, .int 0])), (ak, .inr (8, [.ref ar, .int 105, .int 0, .int (-1), .int 0, .int 0, .int 0])), (au, .inr (10, [.ref t1, .ref t2, .ref t3, .ref t4, .ref t5, .ref t6, .ref t7, .int 0, .int 0])), (t1, .inl (cI, 4, .inl (cn 0))), (t2, .inl (cI, 4, .inl (cn 10))), (t3, .inl (cI, 4, .inl (cn 10))), (t4, .inl (cI, 4, .inl (cn (-1)))), (t5, .inl (cI, 4, .inl (cn 0))), (t6, .inl (cI, 4, .inl (cn 0))), (t7, .inl (cI, 4, .inl (cn 110))), (ac, .inr (5, [.ref c1, .ref c2, .ref c3, .ref c4, .ref c5, .int 15])), (c1, .inl (cI, 4, .inl (cn 0))), (c2, .inl (cI, 4, .inl (cn 1))), (c3, .inl (cI, 4, .inl (cn 0))), (c4, .inl (cI, 4, .inl (cn (tk + 1)))), (c5, .inl (cI, 4, .inl (cn 1)))] := hD
  refine lv_aload_n hx hb dX0_goBeat_49 rfl (lv_at hl 1 rfl) ?_
  refine lv_iload_n hx hb dX0_goBeat_50 rfl (lv_at hl 0 rfl) ?_
  have hPc := hP.sub (ws' := [(ah, .inr (4, [.ref ac, .ref au, .ref ab, .ref an, .ref ak, .ref ad, .int (tm + 1), .int sl, .long en]))]) [0] rfl
  have hDc := hD.sub (ws' := [(ah, .inr (4, [.ref ac, .ref au, .ref ab, .ref an, .ref ak, .ref ad, .int (tm + 1), .int sl, .long en]))]) [0] (by decide) rfl
  have hKc := hK.sub (tys' := [(cI, .int)]) [0] rfl
  have hFc := va_free (wc := [(ah, .inr (4, [.ref ac, .ref au, .ref ab, .ref an, .ref ak, .ref ad, .int (tm + 1), .int sl, .long en]))]) hD hS hA [0] rfl
  refine va_callv (va_runV (As := [.int 0]) (rest := []) ⟨hx, hb, hml, hown, hts⟩ (c_X0_changePins l dC dI g ah ac au ab an ak ad cI (tm + 1) sl en H.size) (cwV 1 hts gX0_goBeat_X0_changePins rfl rfl rfl (by decide +kernel) ⟨Nat.le_of_ble_eq_true rfl, Nat.le_of_ble_eq_true rfl⟩) ⟨wIn_blind, va_recv hK hP (ci := 4) (q0 := 0) rfl rfl, wIn_at hPc hKc hDc hG hS hFc⟩ rfl rfl hl.1 rfl (lv_room (Nat.le_of_ble_eq_true rfl)) dX0_goBeat_51 ⟨Nat.le_of_ble_eq_true rfl, Nat.le_of_ble_eq_true rfl⟩) hS (fun q _ h => hFc q h) hFc (fun u t H1 locs ht hvm hw hB hz1 hk1 hS => ?_)
  obtain ⟨hP1, hK1, hD1⟩ := hB
  rw [ht] at hP1
  obtain ⟨hP, hD⟩ := va_join (wr := [(ab, .inr (7, [.ref b1, .ref b2, .int 0, .int 0])), (b1, .inl (cI, 200, .inl (cn 0))), (b2, .inl (cI, 200, .inl (cn 0))), (an, .inr (6, [.ref n1, .ref n2, .ref n3, .ref n4, .ref n5, .int 0, .int 0])), (n1, .inl (cI, 8, .inl (cn 7))), (n2, .inl (cI, 8, .inl (cn 1))), (n3, .inl (cI, 8, .inl (cn 110))), (n4, .inl (cI, 8, .inl (cn 0))), (n5, .inl (cI, 8, .inl (cn 0))), (ar, .inr (9, [.ref r1, .ref r2, .int 0])), (r1, .inl (cI, 8, .inl (cn 0))), (r2, .inl (cI, 8, .inl (cn 0))), (ad, .inr (11, [.int (-1), .int 0, .int 0, .int 0, .int 0, .int 0])), (ak, .inr (8, [.ref ar, .int 105, .int 0, .int (-1), .int 0, .int 0, .int 0])), (au, .inr (10, [.ref t1, .ref t2, .ref t3, .ref t4, .ref t5, .ref t6, .ref t7, .int 0, .int 0])), (t1, .inl (cI, 4, .inl (cn 0))), (t2, .inl (cI, 4, .inl (cn 10))), (t3, .inl (cI, 4, .inl (cn 10))), (t4, .inl (cI, 4, .inl (cn (-1)))), (t5, .inl (cI, 4, .inl (cn 0))), (t6, .inl (cI, 4, .inl (cn 0))), (t7, .inl (cI, 4, .inl (cn 110))), (ac, .inr (5, [.ref c1, .ref c2, .ref c3, .ref c4, .ref c5, .int 15])), (c1, .inl (cI, 4, .inl (cn 0))), (c2, .inl (cI, 4, .inl (cn 1))), (c3, .inl (cI, 4, .inl (cn 0))), (c4, .inl (cI, 4, .inl (cn (tk + 1)))), (c5, .inl (cI, 4, .inl (cn 1)))]) (w1 := [(ah, .inr (4, [.ref ac, .ref au, .ref ab, .ref an, .ref ak, .ref ad, .int (tm + 1), .int sl, .long en]))]) hP hD [0] [1, 2, 3, 4, 5, 6, 7, 8, 9, 10, 11, 12, 13, 14, 15, 16, 17, 18, 19, 20, 21, 22, 23, 24, 25, 26, 27, 28] rfl rfl (by decide) (by decide) hk1 hFc hP1 hD1
  generalize H1 = H at hP hS ⊢
  have hP : va_P (dC, dI) vwCl [(ab, .inr (7, [.ref b1, .ref b2, .int 0, .int 0])), (b1, .inl (cI, 200, .inl (cn 0))), (b2, .inl (cI, 200, .inl (cn 0))), (an, .inr (6, [.ref n1, .ref n2, .ref n3, .ref n4, .ref n5, .int 0, .int 0])), (n1, .inl (cI, 8, .inl (cn 7))), (n2, .inl (cI, 8, .inl (cn 1))), (n3, .inl (cI, 8, .inl (cn 110))), (n4, .inl (cI, 8, .inl (cn 0))), (n5, .inl (cI, 8, .inl (cn 0))), (ar, .inr (9, [.ref r1, .ref r2, .int 0])), (r1, .inl (cI, 8, .inl (cn 0))), (r2, .inl (cI, 8, .inl (cn 0))), (ad, .inr (11, [.int (-1), .int 0, .int 0, .int 0, .int 0, .int 0])), (ak, .inr (8, [.ref ar, .int 105, .int 0, .int (-1), .int 0, .int 0, .int 0])), (au, .inr (10, [.ref t1, .ref t2, .ref t3, .ref t4, .ref t5, .ref t6, .ref t7, .int 0, .int 0])), (t1, .inl (cI, 4, .inl (cn 0))), (t2, .inl (cI, 4, .inl (cn 10))), (t3, .inl (cI, 4, .inl (cn 10))), (t4, .inl (cI, 4, .inl (cn (-1)))), (t5, .inl (cI, 4, .inl (cn 0))), (t6, .inl (cI, 4, .inl (cn 0))), (t7, .inl (cI, 4, .inl (cn 110))), (ac, .inr (5, [.ref c1, .ref c2, .ref c3, .ref c4, .ref c5, .int 15])), (c1, .inl (cI, 4, .inl (cn 0))), (c2, .inl (cI, 4, .inl (cn 1))), (c3, .inl (cI, 4, .inl (cn 0))), (c4, .inl (cI, 4, .inl (cn (tk + 1)))), (c5, .inl (cI, 4, .inl (cn 1))), (ah, .inr (4, [.ref ac, .ref au, .ref ab, .ref an, .ref ak, .ref ad, .int (tm + 1), .int sl, .long en]))] H := hP
  have hD : va_D A [(ab, .inr (7, [.ref b1, .ref b2, .int 0, .int 0])), (b1, .inl (cI, 200, .inl (cn 0))), (b2, .inl (cI, 200, .inl (cn 0))), (an, .inr (6, [.ref n1, .ref n2, .ref n3, .ref n4, .ref n5, .int 0, .int 0])), (n1, .inl (cI, 8, .inl (cn 7))), (n2, .inl (cI, 8, .inl (cn 1))), (n3, .inl (cI, 8, .inl (cn 110))), (n4, .inl (cI, 8, .inl (cn 0))), (n5, .inl (cI, 8, .inl (cn 0))), (ar, .inr (9, [.ref r1, .ref r2, .int 0])), (r1, .inl (cI, 8, .inl (cn 0))), (r2, .inl (cI, 8, .inl (cn 0))), (ad, .inr (11, [.int (-1), .int 0, .int 0, .int 0, .int 0, .int 0])), (ak, .inr (8, [.ref ar, .int 105, .int 0, .int (-1), .int 0, .int 0, .int 0])), (au, .inr (10, [.ref t1, .ref t2, .ref t3, .ref t4, .ref t5, .ref t6, .ref t7, .int 0, .int 0])), (t1, .inl (cI, 4, .inl (cn 0))), (t2, .inl (cI, 4, .inl (cn 10))), (t3, .inl (cI, 4, .inl (cn 10))), (t4, .inl (cI, 4, .inl (cn (-1)))), (t5, .inl (cI, 4, .inl (cn 0))), (t6, .inl (cI, 4, .inl (cn 0))), (t7, .inl (cI, 4, .inl (cn 110))), (ac, .inr (5, [.ref c1, .ref c2, .ref c3, .ref c4, .ref c5, .int 15])), (c1, .inl (cI, 4, .inl (cn 0))), (c2, .inl (cI, 4, .inl (cn 1))), (c3, .inl (cI, 4, .inl (cn 0))), (c4, .inl (cI, 4, .inl (cn (tk + 1)))), (c5, .inl (cI, 4, .inl (cn 1))), (ah, .inr (4, [.ref ac, .ref au, .ref ab, .ref an, .ref ak, .ref ad, .int (tm + 1), .int sl, .long en]))] := hD
  refine lv_aload_n hx hb dX0_goBeat_54 rfl (lv_at hl 1 rfl) ?_
  refine va_get (D := (dC, dI)) (ci := 4) (v := .ref ad) (C := RX0) (T := TX0) (N := 9) hx hb hts hiX0 hown hK hP 28 rfl rfl 5 (by decide) (hw8) (fun _ h9 => h9) rfl dX0_goBeat_55 ?_
  refine lv_aload_n hx hb dX0_goBeat_58 rfl (lv_at hl 1 rfl) ?_
  refine va_get (D := (dC, dI)) (ci := 4) (v := .ref ac) (C := RX0) (T := TX0) (N := 9) hx hb hts hiX0 hown hK hP 28 rfl rfl 0 (by decide) (hw2) (fun _ h9 => h9) rfl dX0_goBeat_59 ?_
  have hPc := hP.sub (ws' := [(ad, .inr (11, [.int (-1), .int 0, .int 0, .int 0, .int 0, .int 0]))]) [12] rfl
  have hDc := hD.sub (ws' := [(ad, .inr (11, [.int (-1), .int 0, .int 0, .int 0, .int 0, .int 0]))]) [12] (by decide) rfl
  have hKc := hK.sub (tys' := [(cI, .int)]) [0] rfl
  have hFc := va_free (wc := [(ad, .inr (11, [.int (-1), .int 0, .int 0, .int 0, .int 0, .int 0]))]) hD hS hA [12] rfl
  refine va_calli (va_runV (As := [.ref ac]) (rest := []) ⟨hx, hb, hml, hown, hts⟩ (c_X7_goBeat l dC dI g ad ac cI H.size) (cwV 1 hts gX0_goBeat_X7_goBeat rfl rfl rfl (by decide +kernel) ⟨Nat.le_of_ble_eq_true rfl, Nat.le_of_ble_eq_true rfl⟩) ⟨wIn_blind, va_recv hK hP (ci := 11) (q0 := 12) rfl rfl, wIn_at hPc hKc hDc hG hS hFc⟩ rfl rfl hl.1 rfl (lv_room (Nat.le_of_ble_eq_true rfl)) dX0_goBeat_62 ⟨Nat.le_of_ble_eq_true rfl, Nat.le_of_ble_eq_true rfl⟩) hS (fun q _ h => hFc q h) hFc (fun r_5 u t H1 locs ht hvm hw hB hz1 hk1 hS => ?_)
  obtain ⟨hP1, hK1, hD1⟩ := hB
  rw [ht] at hP1
  obtain ⟨hP, hD⟩ := va_join (wr := [(ab, .inr (7, [.ref b1, .ref b2, .int 0, .int 0])), (b1, .inl (cI, 200, .inl (cn 0))), (b2, .inl (cI, 200, .inl (cn 0))), (an, .inr (6, [.ref n1, .ref n2, .ref n3, .ref n4, .ref n5, .int 0, .int 0])), (n1, .inl (cI, 8, .inl (cn 7))), (n2, .inl (cI, 8, .inl (cn 1))), (n3, .inl (cI, 8, .inl (cn 110))), (n4, .inl (cI, 8, .inl (cn 0))), (n5, .inl (cI, 8, .inl (cn 0))), (ar, .inr (9, [.ref r1, .ref r2, .int 0])), (r1, .inl (cI, 8, .inl (cn 0))), (r2, .inl (cI, 8, .inl (cn 0))), (ak, .inr (8, [.ref ar, .int 105, .int 0, .int (-1), .int 0, .int 0, .int 0])), (au, .inr (10, [.ref t1, .ref t2, .ref t3, .ref t4, .ref t5, .ref t6, .ref t7, .int 0, .int 0])), (t1, .inl (cI, 4, .inl (cn 0))), (t2, .inl (cI, 4, .inl (cn 10))), (t3, .inl (cI, 4, .inl (cn 10))), (t4, .inl (cI, 4, .inl (cn (-1)))), (t5, .inl (cI, 4, .inl (cn 0))), (t6, .inl (cI, 4, .inl (cn 0))), (t7, .inl (cI, 4, .inl (cn 110))), (ac, .inr (5, [.ref c1, .ref c2, .ref c3, .ref c4, .ref c5, .int 15])), (c1, .inl (cI, 4, .inl (cn 0))), (c2, .inl (cI, 4, .inl (cn 1))), (c3, .inl (cI, 4, .inl (cn 0))), (c4, .inl (cI, 4, .inl (cn (tk + 1)))), (c5, .inl (cI, 4, .inl (cn 1))), (ah, .inr (4, [.ref ac, .ref au, .ref ab, .ref an, .ref ak, .ref ad, .int (tm + 1), .int sl, .long en]))]) (w1 := [(ad, .inr (11, [.int (-1), .int 0, .int 0, .int 0, .int 0, .int 0]))]) hP hD [12] [0, 1, 2, 3, 4, 5, 6, 7, 8, 9, 10, 11, 13, 14, 15, 16, 17, 18, 19, 20, 21, 22, 23, 24, 25, 26, 27, 28] rfl rfl (by decide) (by decide) hk1 hFc hP1 hD1
  generalize H1 = H at hP hS ⊢
  have hP : va_P (dC, dI) vwCl [(ab, .inr (7, [.ref b1, .ref b2, .int 0, .int 0])), (b1, .inl (cI, 200, .inl (cn 0))), (b2, .inl (cI, 200, .inl (cn 0))), (an, .inr (6, [.ref n1, .ref n2, .ref n3, .ref n4, .ref n5, .int 0, .int 0])), (n1, .inl (cI, 8, .inl (cn 7))), (n2, .inl (cI, 8, .inl (cn 1))), (n3, .inl (cI, 8, .inl (cn 110))), (n4, .inl (cI, 8, .inl (cn 0))), (n5, .inl (cI, 8, .inl (cn 0))), (ar, .inr (9, [.ref r1, .ref r2, .int 0])), (r1, .inl (cI, 8, .inl (cn 0))), (r2, .inl (cI, 8, .inl (cn 0))), (ak, .inr (8, [.ref ar, .int 105, .int 0, .int (-1), .int 0, .int 0, .int 0])), (au, .inr (10, [.ref t1, .ref t2, .ref t3, .ref t4, .ref t5, .ref t6, .ref t7, .int 0, .int 0])), (t1, .inl (cI, 4, .inl (cn 0))), (t2, .inl (cI, 4, .inl (cn 10))), (t3, .inl (cI, 4, .inl (cn 10))), (t4, .inl (cI, 4, .inl (cn (-1)))), (t5, .inl (cI, 4, .inl (cn 0))), (t6, .inl (cI, 4, .inl (cn 0))), (t7, .inl (cI, 4, .inl (cn 110))), (ac, .inr (5, [.ref c1, .ref c2, .ref c3, .ref c4, .ref c5, .int 15])), (c1, .inl (cI, 4, .inl (cn 0))), (c2, .inl (cI, 4, .inl (cn 1))), (c3, .inl (cI, 4, .inl (cn 0))), (c4, .inl (cI, 4, .inl (cn (tk + 1)))), (c5, .inl (cI, 4, .inl (cn 1))), (ah, .inr (4, [.ref ac, .ref au, .ref ab, .ref an, .ref ak, .ref ad, .int (tm + 1), .int sl, .long en])), (ad, .inr (11, [.int (-1), .int 0, .int 0, .int 0, .int 0, .int 0]))] H := hP
  have hD : va_D A [(ab, .inr (7, [.ref b1, .ref b2, .int 0, .int 0])), (b1, .inl (cI, 200, .inl (cn 0))), (b2, .inl (cI, 200, .inl (cn 0))), (an, .inr (6, [.ref n1, .ref n2, .ref n3, .ref n4, .ref n5, .int 0, .int 0])), (n1, .inl (cI, 8, .inl (cn 7))), (n2, .inl (cI, 8, .inl (cn 1))), (n3, .inl (cI, 8, .inl (cn 110))), (n4, .inl (cI, 8, .inl (cn 0))), (n5, .inl (cI, 8, .inl (cn 0))), (ar, .inr (9, [.ref r1, .ref r2, .int 0])), (r1, .inl (cI, 8, .inl (cn 0))), (r2, .inl (cI, 8, .inl (cn 0))), (ak, .inr (8, [.ref ar, .int 105, .int 0, .int (-1), .int 0, .int 0, .int 0])), (au, .inr (10, [.ref t1, .ref t2, .ref t3, .ref t4, .ref t5, .ref t6, .ref t7, .int 0, .int 0])), (t1, .inl (cI, 4, .inl (cn 0))), (t2, .inl (cI, 4, .inl (cn 10))), (t3, .inl (cI, 4, .inl (cn 10))), (t4, .inl (cI, 4, .inl (cn (-1)))), (t5, .inl (cI, 4, .inl (cn 0))), (t6, .inl (cI, 4, .inl (cn 0))), (t7, .inl (cI, 4, .inl (cn 110))), (ac, .inr (5, [.ref c1, .ref c2, .ref c3, .ref c4, .ref c5, .int 15])), (c1, .inl (cI, 4, .inl (cn 0))), (c2, .inl (cI, 4, .inl (cn 1))), (c3, .inl (cI, 4, .inl (cn 0))), (c4, .inl (cI, 4, .inl (cn (tk + 1)))), (c5, .inl (cI, 4, .inl (cn 1))), (ah, .inr (4, [.ref ac, .ref au, .ref ab, .ref an, .ref ak, .ref ad, .int (tm + 1), .int sl, .long en])), (ad, .inr (11, [.int (-1), .int 0, .int 0, .int 0, .int 0, .int 0]))] := hD
  refine lt_ci (y := 0) hw ?_
  refine lv_if_eq (tgt := 75) hx hb dX0_goBeat_65 (by decide) (fun _ => ?_) (fun c => absurd (by decide) c)
  refine lv_aload_n hx hb dX0_goBeat_75 rfl (lv_at hl 1 rfl) ?_
  refine lv_aload_n hx hb dX0_goBeat_76 rfl (lv_at hl 1 rfl) ?_
  refine va_get (D := (dC, dI)) (ci := 4) (v := .ref ak) (C := RX0) (T := TX0) (N := 9) hx hb hts hiX0 hown hK hP 27 rfl rfl 4 (by decide) (hw3) (fun _ h9 => h9) rfl dX0_goBeat_77 ?_
  refine lv_aload_n hx hb dX0_goBeat_80 rfl (lv_at hl 1 rfl) ?_
  refine va_get (D := (dC, dI)) (ci := 4) (v := .ref an) (C := RX0) (T := TX0) (N := 9) hx hb hts hiX0 hown hK hP 27 rfl rfl 3 (by decide) (hw5) (fun _ h9 => h9) rfl dX0_goBeat_81 ?_
  have hPc := hP.sub (ws' := [(ak, .inr (8, [.ref ar, .int 105, .int 0, .int (-1), .int 0, .int 0, .int 0])), (an, .inr (6, [.ref n1, .ref n2, .ref n3, .ref n4, .ref n5, .int 0, .int 0]))]) [12, 3] rfl
  have hDc := hD.sub (ws' := [(ak, .inr (8, [.ref ar, .int 105, .int 0, .int (-1), .int 0, .int 0, .int 0])), (an, .inr (6, [.ref n1, .ref n2, .ref n3, .ref n4, .ref n5, .int 0, .int 0]))]) [12, 3] (by decide) rfl
  have hKc := hK.sub (tys' := [(cI, .int)]) [0] rfl
  have hFc := va_free (wc := [(ak, .inr (8, [.ref ar, .int 105, .int 0, .int (-1), .int 0, .int 0, .int 0])), (an, .inr (6, [.ref n1, .ref n2, .ref n3, .ref n4, .ref n5, .int 0, .int 0]))]) hD hS hA [12, 3] rfl
  refine va_calli (va_runV (As := [.ref an]) (rest := [.ref ah]) ⟨hx, hb, hml, hown, hts⟩ (c_X4_goBeat l dC dI g an n1 n2 n3 n4 n5 ak ar cI H.size) (cwV 1 hts gX0_goBeat_X4_goBeat rfl rfl rfl (by decide +kernel) ⟨Nat.le_of_ble_eq_true rfl, Nat.le_of_ble_eq_true rfl⟩) ⟨wIn_blind, va_recv hK hP (ci := 8) (q0 := 12) rfl rfl, wIn_at hPc hKc hDc hG hS hFc⟩ rfl rfl hl.1 rfl (lv_room (Nat.le_of_ble_eq_true rfl)) dX0_goBeat_84 ⟨Nat.le_of_ble_eq_true rfl, Nat.le_of_ble_eq_true rfl⟩) hS (fun q _ h => hFc q h) hFc (fun r_6 u t H1 locs ht hvm hw hB hz1 hk1 hS => ?_)
  obtain ⟨hP1, hK1, hD1⟩ := hB
  rw [ht] at hP1
  obtain ⟨hP, hD⟩ := va_join (wr := [(ab, .inr (7, [.ref b1, .ref b2, .int 0, .int 0])), (b1, .inl (cI, 200, .inl (cn 0))), (b2, .inl (cI, 200, .inl (cn 0))), (n1, .inl (cI, 8, .inl (cn 7))), (n2, .inl (cI, 8, .inl (cn 1))), (n3, .inl (cI, 8, .inl (cn 110))), (n4, .inl (cI, 8, .inl (cn 0))), (n5, .inl (cI, 8, .inl (cn 0))), (ar, .inr (9, [.ref r1, .ref r2, .int 0])), (r1, .inl (cI, 8, .inl (cn 0))), (r2, .inl (cI, 8, .inl (cn 0))), (au, .inr (10, [.ref t1, .ref t2, .ref t3, .ref t4, .ref t5, .ref t6, .ref t7, .int 0, .int 0])), (t1, .inl (cI, 4, .inl (cn 0))), (t2, .inl (cI, 4, .inl (cn 10))), (t3, .inl (cI, 4, .inl (cn 10))), (t4, .inl (cI, 4, .inl (cn (-1)))), (t5, .inl (cI, 4, .inl (cn 0))), (t6, .inl (cI, 4, .inl (cn 0))), (t7, .inl (cI, 4, .inl (cn 110))), (ac, .inr (5, [.ref c1, .ref c2, .ref c3, .ref c4, .ref c5, .int 15])), (c1, .inl (cI, 4, .inl (cn 0))), (c2, .inl (cI, 4, .inl (cn 1))), (c3, .inl (cI, 4, .inl (cn 0))), (c4, .inl (cI, 4, .inl (cn (tk + 1)))), (c5, .inl (cI, 4, .inl (cn 1))), (ah, .inr (4, [.ref ac, .ref au, .ref ab, .ref an, .ref ak, .ref ad, .int (tm + 1), .int sl, .long en])), (ad, .inr (11, [.int (-1), .int 0, .int 0, .int 0, .int 0, .int 0]))]) (w1 := [(ak, .inr (8, [.ref ar, .int 105, .int 0, .int (-1), .int 0, .int 0, .int 0])), (an, .inr (6, [.ref n1, .ref n2, .ref n3, .ref n4, .ref n5, .int 0, .int 0]))]) hP hD [12, 3] [0, 1, 2, 4, 5, 6, 7, 8, 9, 10, 11, 13, 14, 15, 16, 17, 18, 19, 20, 21, 22, 23, 24, 25, 26, 27, 28] rfl rfl (by decide) (by decide) hk1 hFc hP1 hD1
  generalize H1 = H at hP hS ⊢
  have hP : va_P (dC, dI) vwCl [(ab, .inr (7, [.ref b1, .ref b2, .int 0, .int 0])), (b1, .inl (cI, 200, .inl (cn 0))), (b2, .inl (cI, 200, .inl (cn 0))), (n1, .inl (cI, 8, .inl (cn 7))), (n2, .inl (cI, 8, .inl (cn 1))), (n3, .inl (cI, 8, .inl (cn 110))), (n4, .inl (cI, 8, .inl (cn 0))), (n5, .inl (cI, 8, .inl (cn 0))), (ar, .inr (9, [.ref r1, .ref r2, .int 0])), (r1, .inl (cI, 8, .inl (cn 0))), (r2, .inl (cI, 8, .inl (cn 0))), (au, .inr (10, [.ref t1, .ref t2, .ref t3, .ref t4, .ref t5, .ref t6, .ref t7, .int 0, .int 0])), (t1, .inl (cI, 4, .inl (cn 0))), (t2, .inl (cI, 4, .inl (cn 10))), (t3, .inl (cI, 4, .inl (cn 10))), (t4, .inl (cI, 4, .inl (cn (-1)))), (t5, .inl (cI, 4, .inl (cn 0))), (t6, .inl (cI, 4, .inl (cn 0))), (t7, .inl (cI, 4, .inl (cn 110))), (ac, .inr (5, [.ref c1, .ref c2, .ref c3, .ref c4, .ref c5, .int 15])), (c1, .inl (cI, 4, .inl (cn 0))), (c2, .inl (cI, 4, .inl (cn 1))), (c3, .inl (cI, 4, .inl (cn 0))), (c4, .inl (cI, 4, .inl (cn (tk + 1)))), (c5, .inl (cI, 4, .inl (cn 1))), (ah, .inr (4, [.ref ac, .ref au, .ref ab, .ref an, .ref ak, .ref ad, .int (tm + 1), .int sl, .long en])), (ad, .inr (11, [.int (-1), .int 0, .int 0, .int 0, .int 0, .int 0])), (ak, .inr (8, [.ref ar, .int 105, .int 0, .int (-1), .int 0, .int 0, .int 0])), (an, .inr (6, [.ref n1, .ref n2, .ref n3, .ref n4, .ref n5, .int 0, .int 0]))] H := hP
  have hD : va_D A [(ab, .inr (7, [.ref b1, .ref b2, .int 0, .int 0])), (b1, .inl (cI, 200, .inl (cn 0))), (b2, .inl (cI, 200, .inl (cn 0))), (n1, .inl (cI, 8, .inl (cn 7))), (n2, .inl (cI, 8, .inl (cn 1))), (n3, .inl (cI, 8, .inl (cn 110))), (n4, .inl (cI, 8, .inl (cn 0))), (n5, .inl (cI, 8, .inl (cn 0))), (ar, .inr (9, [.ref r1, .ref r2, .int 0])), (r1, .inl (cI, 8, .inl (cn 0))), (r2, .inl (cI, 8, .inl (cn 0))), (au, .inr (10, [.ref t1, .ref t2, .ref t3, .ref t4, .ref t5, .ref t6, .ref t7, .int 0, .int 0])), (t1, .inl (cI, 4, .inl (cn 0))), (t2, .inl (cI, 4, .inl (cn 10))), (t3, .inl (cI, 4, .inl (cn 10))), (t4, .inl (cI, 4, .inl (cn (-1)))), (t5, .inl (cI, 4, .inl (cn 0))), (t6, .inl (cI, 4, .inl (cn 0))), (t7, .inl (cI, 4, .inl (cn 110))), (ac, .inr (5, [.ref c1, .ref c2, .ref c3, .ref c4, .ref c5, .int 15])), (c1, .inl (cI, 4, .inl (cn 0))), (c2, .inl (cI, 4, .inl (cn 1))), (c3, .inl (cI, 4, .inl (cn 0))), (c4, .inl (cI, 4, .inl (cn (tk + 1)))), (c5, .inl (cI, 4, .inl (cn 1))), (ah, .inr (4, [.ref ac, .ref au, .ref ab, .ref an, .ref ak, .ref ad, .int (tm + 1), .int sl, .long en])), (ad, .inr (11, [.int (-1), .int 0, .int 0, .int 0, .int 0, .int 0])), (ak, .inr (8, [.ref ar, .int 105, .int 0, .int (-1), .int 0, .int 0, .int 0])), (an, .inr (6, [.ref n1, .ref n2, .ref n3, .ref n4, .ref n5, .int 0, .int 0]))] := hD
  refine lt_ci (y := (-1)) hw ?_
  have hPc := hP.sub (ws' := [(ah, .inr (4, [.ref ac, .ref au, .ref ab, .ref an, .ref ak, .ref ad, .int (tm + 1), .int sl, .long en]))]) [25] rfl
  have hDc := hD.sub (ws' := [(ah, .inr (4, [.ref ac, .ref au, .ref ab, .ref an, .ref ak, .ref ad, .int (tm + 1), .int sl, .long en]))]) [25] (by decide) rfl
  have hKc := hK.sub (tys' := [(cI, .int)]) [0] rfl
  have hFc := va_free (wc := [(ah, .inr (4, [.ref ac, .ref au, .ref ab, .ref an, .ref ak, .ref ad, .int (tm + 1), .int sl, .long en]))]) hD hS hA [25] rfl
  refine va_callv (va_runV (As := [.int (-1)]) (rest := []) ⟨hx, hb, hml, hown, hts⟩ (c_X0_endHandler l dC dI g ah ac au ab an ak ad cI (tm + 1) sl en H.size) (cwV 1 hts gX0_goBeat_X0_endHandler rfl rfl rfl (by decide +kernel) ⟨Nat.le_of_ble_eq_true rfl, Nat.le_of_ble_eq_true rfl⟩) ⟨wIn_blind, va_recv hK hP (ci := 4) (q0 := 25) rfl rfl, wIn_at hPc hKc hDc hG hS hFc⟩ rfl rfl hl.1 rfl (lv_room (Nat.le_of_ble_eq_true rfl)) dX0_goBeat_87 ⟨Nat.le_of_ble_eq_true rfl, Nat.le_of_ble_eq_true rfl⟩) hS (fun q _ h => hFc q h) hFc (fun u t H1 locs ht hvm hw hB hz1 hk1 hS => ?_)
  obtain ⟨hP1, hK1, hD1⟩ := hB
  rw [ht] at hP1
  obtain ⟨hP, hD⟩ := va_join (wr := [(ab, .inr (7, [.ref b1, .ref b2, .int 0, .int 0])), (b1, .inl (cI, 200, .inl (cn 0))), (b2, .inl (cI, 200, .inl (cn 0))), (n1, .inl (cI, 8, .inl (cn 7))), (n2, .inl (cI, 8, .inl (cn 1))), (n3, .inl (cI, 8, .inl (cn 110))), (n4, .inl (cI, 8, .inl (cn 0))), (n5, .inl (cI, 8, .inl (cn 0))), (ar, .inr (9, [.ref r1, .ref r2, .int 0])), (r1, .inl (cI, 8, .inl (cn 0))), (r2, .inl (cI, 8, .inl (cn 0))), (au, .inr (10, [.ref t1, .ref t2, .ref t3, .ref t4, .ref t5, .ref t6, .ref t7, .int 0, .int 0])), (t1, .inl (cI, 4, .inl (cn 0))), (t2, .inl (cI, 4, .inl (cn 10))), (t3, .inl (cI, 4, .inl (cn 10))), (t4, .inl (cI, 4, .inl (cn (-1)))), (t5, .inl (cI, 4, .inl (cn 0))), (t6, .inl (cI, 4, .inl (cn 0))), (t7, .inl (cI, 4, .inl (cn 110))), (ac, .inr (5, [.ref c1, .ref c2, .ref c3, .ref c4, .ref c5, .int 15])), (c1, .inl (cI, 4, .inl (cn 0))), (c2, .inl (cI, 4, .inl (cn 1))), (c3, .inl (cI, 4, .inl (cn 0))), (c4, .inl (cI, 4, .inl (cn (tk + 1)))), (c5, .inl (cI, 4, .inl (cn 1))), (ad, .inr (11, [.int (-1), .int 0, .int 0, .int 0, .int 0, .int 0])), (ak, .inr (8, [.ref ar, .int 105, .int 0, .int (-1), .int 0, .int 0, .int 0])), (an, .inr (6, [.ref n1, .ref n2, .ref n3, .ref n4, .ref n5, .int 0, .int 0]))]) (w1 := [(ah, .inr (4, [.ref ac, .ref au, .ref ab, .ref an, .ref ak, .ref ad, .int (tm + 1), .int sl, .long en]))]) hP hD [25] [0, 1, 2, 3, 4, 5, 6, 7, 8, 9, 10, 11, 12, 13, 14, 15, 16, 17, 18, 19, 20, 21, 22, 23, 24, 26, 27, 28] rfl rfl (by decide) (by decide) hk1 hFc hP1 hD1
  generalize H1 = H at hP hS ⊢
  have hP : va_P (dC, dI) vwCl [(ab, .inr (7, [.ref b1, .ref b2, .int 0, .int 0])), (b1, .inl (cI, 200, .inl (cn 0))), (b2, .inl (cI, 200, .inl (cn 0))), (n1, .inl (cI, 8, .inl (cn 7))), (n2, .inl (cI, 8, .inl (cn 1))), (n3, .inl (cI, 8, .inl (cn 110))), (n4, .inl (cI, 8, .inl (cn 0))), (n5, .inl (cI, 8, .inl (cn 0))), (ar, .inr (9, [.ref r1, .ref r2, .int 0])), (r1, .inl (cI, 8, .inl (cn 0))), (r2, .inl (cI, 8, .inl (cn 0))), (au, .inr (10, [.ref t1, .ref t2, .ref t3, .ref t4, .ref t5, .ref t6, .ref t7, .int 0, .int 0])), (t1, .inl (cI, 4, .inl (cn 0))), (t2, .inl (cI, 4, .inl (cn 10))), (t3, .inl (cI, 4, .inl (cn 10))), (t4, .inl (cI, 4, .inl (cn (-1)))), (t5, .inl (cI, 4, .inl (cn 0))), (t6, .inl (cI, 4, .inl (cn 0))), (t7, .inl (cI, 4, .inl (cn 110))), (ac, .inr (5, [.ref c1, .ref c2, .ref c3, .ref c4, .ref c5, .int 15])), (c1, .inl (cI, 4, .inl (cn 0))), (c2, .inl (cI, 4, .inl (cn 1))), (c3, .inl (cI, 4, .inl (cn 0))), (c4, .inl (cI, 4, .inl (cn (tk + 1)))), (c5, .inl (cI, 4, .inl (cn 1))), (ad, .inr (11, [.int (-1), .int 0, .int 0, .int 0, .int 0, .int 0])), (ak, .inr (8, [.ref ar, .int 105, .int 0, .int (-1), .int 0, .int 0, .int 0])), (an, .inr (6, [.ref n1, .ref n2, .ref n3, .ref n4, .ref n5, .int 0, .int 0])), (ah, .inr (4, [.ref ac, .ref au, .ref ab, .ref an, .ref ak, .ref ad, .int (tm + 1), .int sl, .long en]))] H := hP
  have hD : va_D A [(ab, .inr (7, [.ref b1, .ref b2, .int 0, .int 0])), (b1, .inl (cI, 200, .inl (cn 0))), (b2, .inl (cI, 200, .inl (cn 0))), (n1, .inl (cI, 8, .inl (cn 7))), (n2, .inl (cI, 8, .inl (cn 1))), (n3, .inl (cI, 8, .inl (cn 110))), (n4, .inl (cI, 8, .inl (cn 0))), (n5, .inl (cI, 8, .inl (cn 0))), (ar, .inr (9, [.ref r1, .ref r2, .int 0])), (r1, .inl (cI, 8, .inl (cn 0))), (r2, .inl (cI, 8, .inl (cn 0))), (au, .inr (10, [.ref t1, .ref t2, .ref t3, .ref t4, .ref t5, .ref t6, .ref t7, .int 0, .int 0])), (t1, .inl (cI, 4, .inl (cn 0))), (t2, .inl (cI, 4, .inl (cn 10))), (t3, .inl (cI, 4, .inl (cn 10))), (t4, .inl (cI, 4, .inl (cn (-1)))), (t5, .inl (cI, 4, .inl (cn 0))), (t6, .inl (cI, 4, .inl (cn 0))), (t7, .inl (cI, 4, .inl (cn 110))), (ac, .inr (5, [.ref c1, .ref c2, .ref c3, .ref c4, .ref c5, .int 15])), (c1, .inl (cI, 4, .inl (cn 0))), (c2, .inl (cI, 4, .inl (cn 1))), (c3, .inl (cI, 4, .inl (cn 0))), (c4, .inl (cI, 4, .inl (cn (tk + 1)))), (c5, .inl (cI, 4, .inl (cn 1))), (ad, .inr (11, [.int (-1), .int 0, .int 0, .int 0, .int 0, .int 0])), (ak, .inr (8, [.ref ar, .int 105, .int 0, .int (-1), .int 0, .int 0, .int 0])), (an, .inr (6, [.ref n1, .ref n2, .ref n3, .ref n4, .ref n5, .int 0, .int 0])), (ah, .inr (4, [.ref ac, .ref au, .ref ab, .ref an, .ref ak, .ref ad, .int (tm + 1), .int sl, .long en]))] := hD
  refine lv_aload_n hx hb dX0_goBeat_90 rfl (lv_at hl 1 rfl) ?_
  refine lv_iconst (v := 1) hx hb dX0_goBeat_91 (by decide) ?_
  have hPc := hP.sub (ws' := [(ah, .inr (4, [.ref ac, .ref au, .ref ab, .ref an, .ref ak, .ref ad, .int (tm + 1), .int sl, .long en])), (au, .inr (10, [.ref t1, .ref t2, .ref t3, .ref t4, .ref t5, .ref t6, .ref t7, .int 0, .int 0])), (ak, .inr (8, [.ref ar, .int 105, .int 0, .int (-1), .int 0, .int 0, .int 0]))]) [28, 11, 26] rfl
  have hDc := hD.sub (ws' := [(ah, .inr (4, [.ref ac, .ref au, .ref ab, .ref an, .ref ak, .ref ad, .int (tm + 1), .int sl, .long en])), (au, .inr (10, [.ref t1, .ref t2, .ref t3, .ref t4, .ref t5, .ref t6, .ref t7, .int 0, .int 0])), (ak, .inr (8, [.ref ar, .int 105, .int 0, .int (-1), .int 0, .int 0, .int 0]))]) [28, 11, 26] (by decide) rfl
  have hKc := hK.sub (tys' := [(cI, .int)]) [0] rfl
  have hFc := va_free (wc := [(ah, .inr (4, [.ref ac, .ref au, .ref ab, .ref an, .ref ak, .ref ad, .int (tm + 1), .int sl, .long en])), (au, .inr (10, [.ref t1, .ref t2, .ref t3, .ref t4, .ref t5, .ref t6, .ref t7, .int 0, .int 0])), (ak, .inr (8, [.ref ar, .int 105, .int 0, .int (-1), .int 0, .int 0, .int 0]))]) hD hS hA [28, 11, 26] rfl
  refine va_callv (va_runV (As := [.int 1]) (rest := []) ⟨hx, hb, hml, hown, hts⟩ (c_X0_countEnergy_1 l dC dI g ah ac au ab an ak ad ar t1 t2 t3 t4 t5 t6 t7 cI (tm + 1) sl en H.size) (cwV 1 hts gX0_goBeat_X0_countEnergy rfl rfl rfl (by decide +kernel) ⟨Nat.le_of_ble_eq_true rfl, Nat.le_of_ble_eq_true rfl⟩) ⟨wIn_blind, va_recv hK hP (ci := 4) (q0 := 28) rfl rfl, wIn_at hPc hKc hDc hG hS hFc⟩ rfl rfl hl.1 rfl (lv_room (Nat.le_of_ble_eq_true rfl)) dX0_goBeat_92 ⟨Nat.le_of_ble_eq_true rfl, Nat.le_of_ble_eq_true rfl⟩) hS (fun q _ h => hFc q h) hFc (fun u t H1 locs ht hvm hw hB hz1 hk1 hS => ?_)
  obtain ⟨hP1, hK1, hD1⟩ := hB
  rw [ht] at hP1
  obtain ⟨hP, hD⟩ := va_join (wr := [(ab, .inr (7, [.ref b1, .ref b2, .int 0, .int 0])), (b1, .inl (cI, 200, .inl (cn 0))), (b2, .inl (cI, 200, .inl (cn 0))), (n1, .inl (cI, 8, .inl (cn 7))), (n2, .inl (cI, 8, .inl (cn 1))), (n3, .inl (cI, 8, .inl (cn 110))), (n4, .inl (cI, 8, .inl (cn 0))), (n5, .inl (cI, 8, .inl (cn 0))), (ar, .inr (9, [.ref r1, .ref r2, .int 0])), (r1, .inl (cI, 8, .inl (cn 0))), (r2, .inl (cI, 8, .inl (cn 0))), (t1, .inl (cI, 4, .inl (cn 0))), (t2, .inl (cI, 4, .inl (cn 10))), (t3, .inl (cI, 4, .inl (cn 10))), (t4, .inl (cI, 4, .inl (cn (-1)))), (t5, .inl (cI, 4, .inl (cn 0))), (t6, .inl (cI, 4, .inl (cn 0))), (t7, .inl (cI, 4, .inl (cn 110))), (ac, .inr (5, [.ref c1, .ref c2, .ref c3, .ref c4, .ref c5, .int 15])), (c1, .inl (cI, 4, .inl (cn 0))), (c2, .inl (cI, 4, .inl (cn 1))), (c3, .inl (cI, 4, .inl (cn 0))), (c4, .inl (cI, 4, .inl (cn (tk + 1)))), (c5, .inl (cI, 4, .inl (cn 1))), (ad, .inr (11, [.int (-1), .int 0, .int 0, .int 0, .int 0, .int 0])), (an, .inr (6, [.ref n1, .ref n2, .ref n3, .ref n4, .ref n5, .int 0, .int 0]))]) (w1 := [(ah, .inr (4, [.ref ac, .ref au, .ref ab, .ref an, .ref ak, .ref ad, .int (tm + 1), .int sl, .long (en + 5)])), (au, .inr (10, [.ref t1, .ref t2, .ref t3, .ref t4, .ref t5, .ref t6, .ref t7, .int 0, .int 0])), (ak, .inr (8, [.ref ar, .int 105, .int 0, .int (-1), .int 0, .int 0, .int 0]))]) hP hD [28, 11, 26] [0, 1, 2, 3, 4, 5, 6, 7, 8, 9, 10, 12, 13, 14, 15, 16, 17, 18, 19, 20, 21, 22, 23, 24, 25, 27] rfl rfl (by decide) (by decide) hk1 hFc hP1 hD1
  generalize H1 = H at hP hS ⊢
  have hP : va_P (dC, dI) vwCl [(ab, .inr (7, [.ref b1, .ref b2, .int 0, .int 0])), (b1, .inl (cI, 200, .inl (cn 0))), (b2, .inl (cI, 200, .inl (cn 0))), (n1, .inl (cI, 8, .inl (cn 7))), (n2, .inl (cI, 8, .inl (cn 1))), (n3, .inl (cI, 8, .inl (cn 110))), (n4, .inl (cI, 8, .inl (cn 0))), (n5, .inl (cI, 8, .inl (cn 0))), (ar, .inr (9, [.ref r1, .ref r2, .int 0])), (r1, .inl (cI, 8, .inl (cn 0))), (r2, .inl (cI, 8, .inl (cn 0))), (t1, .inl (cI, 4, .inl (cn 0))), (t2, .inl (cI, 4, .inl (cn 10))), (t3, .inl (cI, 4, .inl (cn 10))), (t4, .inl (cI, 4, .inl (cn (-1)))), (t5, .inl (cI, 4, .inl (cn 0))), (t6, .inl (cI, 4, .inl (cn 0))), (t7, .inl (cI, 4, .inl (cn 110))), (ac, .inr (5, [.ref c1, .ref c2, .ref c3, .ref c4, .ref c5, .int 15])), (c1, .inl (cI, 4, .inl (cn 0))), (c2, .inl (cI, 4, .inl (cn 1))), (c3, .inl (cI, 4, .inl (cn 0))), (c4, .inl (cI, 4, .inl (cn (tk + 1)))), (c5, .inl (cI, 4, .inl (cn 1))), (ad, .inr (11, [.int (-1), .int 0, .int 0, .int 0, .int 0, .int 0])), (an, .inr (6, [.ref n1, .ref n2, .ref n3, .ref n4, .ref n5, .int 0, .int 0])), (ah, .inr (4, [.ref ac, .ref au, .ref ab, .ref an, .ref ak, .ref ad, .int (tm + 1), .int sl, .long (en + 5)])), (au, .inr (10, [.ref t1, .ref t2, .ref t3, .ref t4, .ref t5, .ref t6, .ref t7, .int 0, .int 0])), (ak, .inr (8, [.ref ar, .int 105, .int 0, .int (-1), .int 0, .int 0, .int 0]))] H := hP
  have hD : va_D A [(ab, .inr (7, [.ref b1, .ref b2, .int 0, .int 0])), (b1, .inl (cI, 200, .inl (cn 0))), (b2, .inl (cI, 200, .inl (cn 0))), (n1, .inl (cI, 8, .inl (cn 7))), (n2, .inl (cI, 8, .inl (cn 1))), (n3, .inl (cI, 8, .inl (cn 110))), (n4, .inl (cI, 8, .inl (cn 0))), (n5, .inl (cI, 8, .inl (cn 0))), (ar, .inr (9, [.ref r1, .ref r2, .int 0])), (r1, .inl (cI, 8, .inl (cn 0))), (r2, .inl (cI, 8, .inl (cn 0))), (t1, .inl (cI, 4, .inl (cn 0))), (t2, .inl (cI, 4, .inl (cn 10))), (t3, .inl (cI, 4, .inl (cn 10))), (t4, .inl (cI, 4, .inl (cn (-1)))), (t5, .inl (cI, 4, .inl (cn 0))), (t6, .inl (cI, 4, .inl (cn 0))), (t7, .inl (cI, 4, .inl (cn 110))), (ac, .inr (5, [.ref c1, .ref c2, .ref c3, .ref c4, .ref c5, .int 15])), (c1, .inl (cI, 4, .inl (cn 0))), (c2, .inl (cI, 4, .inl (cn 1))), (c3, .inl (cI, 4, .inl (cn 0))), (c4, .inl (cI, 4, .inl (cn (tk + 1)))), (c5, .inl (cI, 4, .inl (cn 1))), (ad, .inr (11, [.int (-1), .int 0, .int 0, .int 0, .int 0, .int 0])), (an, .inr (6, [.ref n1, .ref n2, .ref n3, .ref n4, .ref n5, .int 0, .int 0])), (ah, .inr (4, [.ref ac, .ref au, .ref ab, .ref an, .ref ak, .ref ad, .int (tm + 1), .int sl, .long (en + 5)])), (au, .inr (10, [.ref t1, .ref t2, .ref t3, .ref t4, .ref t5, .ref t6, .ref t7, .int 0, .int 0])), (ak, .inr (8, [.ref ar, .int 105, .int 0, .int (-1), .int 0, .int 0, .int 0]))] := hD
  have hP9 := hP.sub (ws' := [(ah, .inr (4, [.ref ac, .ref au, .ref ab, .ref an, .ref ak, .ref ad, .int (tm + 1), .int sl, .long (en + 5)])), (ac, .inr (5, [.ref c1, .ref c2, .ref c3, .ref c4, .ref c5, .int 15])), (c1, .inl (cI, 4, .inl (cn 0))), (c2, .inl (cI, 4, .inl (cn 1))), (c3, .inl (cI, 4, .inl (cn 0))), (c4, .inl (cI, 4, .inl (cn (tk + 1)))), (c5, .inl (cI, 4, .inl (cn 1))), (au, .inr (10, [.ref t1, .ref t2, .ref t3, .ref t4, .ref t5, .ref t6, .ref t7, .int 0, .int 0])), (t1, .inl (cI, 4, .inl (cn 0))), (t2, .inl (cI, 4, .inl (cn 10))), (t3, .inl (cI, 4, .inl (cn 10))), (t4, .inl (cI, 4, .inl (cn (-1)))), (t5, .inl (cI, 4, .inl (cn 0))), (t6, .inl (cI, 4, .inl (cn 0))), (t7, .inl (cI, 4, .inl (cn 110))), (ab, .inr (7, [.ref b1, .ref b2, .int 0, .int 0])), (b1, .inl (cI, 200, .inl (cn 0))), (b2, .inl (cI, 200, .inl (cn 0))), (an, .inr (6, [.ref n1, .ref n2, .ref n3, .ref n4, .ref n5, .int 0, .int 0])), (n1, .inl (cI, 8, .inl (cn 7))), (n2, .inl (cI, 8, .inl (cn 1))), (n3, .inl (cI, 8, .inl (cn 110))), (n4, .inl (cI, 8, .inl (cn 0))), (n5, .inl (cI, 8, .inl (cn 0))), (ar, .inr (9, [.ref r1, .ref r2, .int 0])), (r1, .inl (cI, 8, .inl (cn 0))), (r2, .inl (cI, 8, .inl (cn 0))), (ak, .inr (8, [.ref ar, .int 105, .int 0, .int (-1), .int 0, .int 0, .int 0])), (ad, .inr (11, [.int (-1), .int 0, .int 0, .int 0, .int 0, .int 0]))]) [26, 18, 19, 20, 21, 22, 23, 27, 11, 12, 13, 14, 15, 16, 17, 0, 1, 2, 25, 3, 4, 5, 6, 7, 8, 9, 10, 28, 24] rfl
  have hD9 := hD.sub (ws' := [(ah, .inr (4, [.ref ac, .ref au, .ref ab, .ref an, .ref ak, .ref ad, .int (tm + 1), .int sl, .long (en + 5)])), (ac, .inr (5, [.ref c1, .ref c2, .ref c3, .ref c4, .ref c5, .int 15])), (c1, .inl (cI, 4, .inl (cn 0))), (c2, .inl (cI, 4, .inl (cn 1))), (c3, .inl (cI, 4, .inl (cn 0))), (c4, .inl (cI, 4, .inl (cn (tk + 1)))), (c5, .inl (cI, 4, .inl (cn 1))), (au, .inr (10, [.ref t1, .ref t2, .ref t3, .ref t4, .ref t5, .ref t6, .ref t7, .int 0, .int 0])), (t1, .inl (cI, 4, .inl (cn 0))), (t2, .inl (cI, 4, .inl (cn 10))), (t3, .inl (cI, 4, .inl (cn 10))), (t4, .inl (cI, 4, .inl (cn (-1)))), (t5, .inl (cI, 4, .inl (cn 0))), (t6, .inl (cI, 4, .inl (cn 0))), (t7, .inl (cI, 4, .inl (cn 110))), (ab, .inr (7, [.ref b1, .ref b2, .int 0, .int 0])), (b1, .inl (cI, 200, .inl (cn 0))), (b2, .inl (cI, 200, .inl (cn 0))), (an, .inr (6, [.ref n1, .ref n2, .ref n3, .ref n4, .ref n5, .int 0, .int 0])), (n1, .inl (cI, 8, .inl (cn 7))), (n2, .inl (cI, 8, .inl (cn 1))), (n3, .inl (cI, 8, .inl (cn 110))), (n4, .inl (cI, 8, .inl (cn 0))), (n5, .inl (cI, 8, .inl (cn 0))), (ar, .inr (9, [.ref r1, .ref r2, .int 0])), (r1, .inl (cI, 8, .inl (cn 0))), (r2, .inl (cI, 8, .inl (cn 0))), (ak, .inr (8, [.ref ar, .int 105, .int 0, .int (-1), .int 0, .int 0, .int 0])), (ad, .inr (11, [.int (-1), .int 0, .int 0, .int 0, .int 0, .int 0]))]) [26, 18, 19, 20, 21, 22, 23, 27, 11, 12, 13, 14, 15, 16, 17, 0, 1, 2, 25, 3, 4, 5, 6, 7, 8, 9, 10, 28, 24] (by decide) rfl
  have hK9 := hK.sub (tys' := [(cI, .int)]) [0] rfl
  exact W.vret hx hb hr (fun t ht hW => ⟨⟨(), rfl, trivial, wOut_at ht hW hP9 hK9 hD9⟩, hS.F ht⟩) hS.2.2 dX0_goBeat_95

set_option maxHeartbeats 4000000 in
set_option maxRecDepth 100000 in
theorem c_X6_countsByClock_0 (l : Launch) (dC : Nat → ClassId) (dI : Nat → Nat → Nat) (g : Nat × Nat × Nat) (au : Nat) (t1 : Nat) (t2 : Nat) (t3 : Nat) (t4 : Nat) (t5 : Nat) (t6 : Nat) (t7 : Nat) (cI : ClassId) (sz : Nat) : Met l yX6_countsByClock wsX6_countsByClock ({ frames := 1, cells := 0, slots := 0, locals := 21 } : Room) (va_Pc [.ref au, .int 0] (wIn dC dI g [(au, .inr (10, [.ref t1, .ref t2, .ref t3, .ref t4, .ref t5, .ref t6, .ref t7, .int 0, .int 0]))] [(cI, .int)] sz)) (va_Qi (fun (r : Int32) (u : Unit) => r = 0) (fun (u : Unit) (t : State) => wOut dC dI [(au, .inr (10, [.ref t1, .ref t2, .ref t3, .ref t4, .ref t5, .ref t6, .ref t7, .int 0, .int 0]))] [(cI, .int)] (va_A [(au, .inr (10, [.ref t1, .ref t2, .ref t3, .ref t4, .ref t5, .ref t6, .ref t7, .int 0, .int 0]))] sz) t) (va_A [(au, .inr (10, [.ref t1, .ref t2, .ref t3, .ref t4, .ref t5, .ref t6, .ref t7, .int 0, .int 0]))] sz)) 0 0 (va_A [(au, .inr (10, [.ref t1, .ref t2, .ref t3, .ref t4, .ref t5, .ref t6, .ref t7, .int 0, .int 0]))] sz) := by
  refine Met.ofW (cc := cX6_countsByClock) (maxL := 2) (ret := (some .boolean)) (by decide) rfl ?_
  intro p e s m args below meth c s₁ B hml hv
  obtain ⟨rfl, hsz, hP, hK, hD0, hG⟩ := hv
  have hx := B.exec
  have hb := B.bytes
  have hr := B.returns
  have hts := atoms_spec (ws := wsX6_countsByClock) B.pre
  have hown : s.vm.findClass RX6 = some m.cls := findClass_of_methodNamed B.named
  have hlocks := B.notSynchronized
  subst hsz
  have hD := hD0.self (sz := s.heap.size)
  generalize hAe : va_A [(au, .inr (10, [.ref t1, .ref t2, .ref t3, .ref t4, .ref t5, .ref t6, .ref t7, .int 0, .int 0]))] s.heap.size = A at hD hG ⊢
  have hN := hG.1
  have hA : ∀ q : Nat, s.heap.size ≤ q → A q := fun q h => by rw [← hAe]; exact Or.inr h
  have hS : va_S A s.heap s.heap [] := va_S.rf
  have hP : va_P (dC, dI) vwCl [(au, .inr (10, [.ref t1, .ref t2, .ref t3, .ref t4, .ref t5, .ref t6, .ref t7, .int 0, .int 0]))] s.heap := hP
  have hw0 : (Cond.fieldLink RX6 49 "Tickstation$Timers" "running" "I").before _ s = true := hts _ (List.mem_cons_of_mem _ (List.mem_append_left _ (List.mem_append_left _ (List.mem_of_getElem? (i := 0) rfl))))
  have hiX6 : ∀ w ∈ u_ws RX6 TX6 9, w ∈ wsX6_countsByClock := fun _ h => List.mem_cons_of_mem _ (List.mem_append_left _ (List.mem_append_right _ (h)))
  have hw2 : (Cond.initialized RX8).before _ s = true := hts _ (List.mem_cons_of_mem _ (List.mem_append_left _ (List.mem_append_left _ (List.mem_of_getElem? (i := 3) rfl))))
  have hw3 : (Cond.static yX8_hasBit).before _ s = true := hts _ (List.mem_cons_of_mem _ (List.mem_append_left _ (List.mem_append_left _ (List.mem_of_getElem? (i := 2) rfl))))
  have hl := lv_entry ([.ref au, .int 0]) (n := 2) (Nat.le_of_ble_eq_true rfl)
  rw [lg_entry_eq]
  generalize (lg_sl ([.ref au, .int 0]) ++ List.replicate (2 - (lg_sl ([.ref au, .int 0])).length) Slot.unset).toArray = ls at hl ⊢
  have hl : lv_has ls 2 [(0, .ref au), (1, .int 0)] := hl
  refine lv_aload_n hx hb dX6_countsByClock_0 rfl (lv_at hl 0 rfl) ?_
  refine va_get (D := (dC, dI)) (ci := 10) (v := .int 0) (C := RX6) (T := TX6) (N := 9) hx hb hts hiX6 hown hK hP 0 rfl rfl 8 (by decide) (hw0) (fun _ h9 => h9) rfl dX6_countsByClock_1 ?_
  refine lv_iload_n hx hb dX6_countsByClock_4 rfl (lv_at hl 1 rfl) ?_
  have hPc := hP.sub (ws' := []) [] rfl
  have hDc := hD.sub (ws' := []) [] (by decide) rfl
  have hKc := hK.sub (tys' := []) [] rfl
  have hFc := va_free (wc := []) hD hS hA [] rfl
  refine va_calli (va_runSN (As := [.int 0, .int 0]) (rest := []) ⟨hx, hb, hml, hown, hts⟩ (c_X8_hasBit_0 l dC dI g 0 0 s.heap.size (by decide)) ⟨va_cnB (host := "Tickstation") 2 hts gX6_countsByClock_X8_hasBit_n45 rfl rfl rfl (hN _ (List.mem_of_getElem? (i := 20) rfl)) hw2 (by decide +kernel) ⟨Nat.le_of_ble_eq_true rfl, Nat.le_of_ble_eq_true rfl⟩, hw3, trivial⟩ ⟨wIn_blind, wIn_at hPc hKc hDc hG hS hFc⟩ rfl rfl hl.1 rfl (lv_room (Nat.le_of_ble_eq_true rfl)) dX6_countsByClock_5 ⟨Nat.le_of_ble_eq_true rfl, Nat.le_of_ble_eq_true rfl⟩) hS (fun q _ h => hFc q h) hFc (fun r_1 u t H1 locs ht hvm hw hB hz1 hk1 hS => ?_)
  obtain ⟨hP1, hK1, hD1⟩ := hB
  rw [ht] at hP1
  obtain ⟨hP, hD⟩ := va_join (wr := [(au, .inr (10, [.ref t1, .ref t2, .ref t3, .ref t4, .ref t5, .ref t6, .ref t7, .int 0, .int 0]))]) (w1 := []) hP hD [] [0] rfl rfl (by decide) (by decide) hk1 hFc hP1 hD1
  generalize H1 = H at hP hS ⊢
  have hP : va_P (dC, dI) vwCl [(au, .inr (10, [.ref t1, .ref t2, .ref t3, .ref t4, .ref t5, .ref t6, .ref t7, .int 0, .int 0]))] H := hP
  have hD : va_D A [(au, .inr (10, [.ref t1, .ref t2, .ref t3, .ref t4, .ref t5, .ref t6, .ref t7, .int 0, .int 0]))] := hD
  refine lt_ci (y := 0) hw ?_
  refine lv_if_eq (tgt := 34) hx hb dX6_countsByClock_8 (by decide) (fun _ => ?_) (fun c => absurd (by decide) c)
  refine lv_iconst (v := 0) hx hb dX6_countsByClock_34 (by decide) ?_
  have hP9 := hP.sub (ws' := [(au, .inr (10, [.ref t1, .ref t2, .ref t3, .ref t4, .ref t5, .ref t6, .ref t7, .int 0, .int 0]))]) [0] rfl
  have hD9 := hD.sub (ws' := [(au, .inr (10, [.ref t1, .ref t2, .ref t3, .ref t4, .ref t5, .ref t6, .ref t7, .int 0, .int 0]))]) [0] (by decide) rfl
  have hK9 := hK.sub (tys' := [(cI, .int)]) [0] rfl
  exact W.zret (v := 0) hx hb hr (by first | rfl | decide) (fun t ht hW => ⟨⟨0, (), rfl, rfl, wOut_at ht hW hP9 hK9 hD9⟩, hS.F ht⟩) hS.2.2 dX6_countsByClock_35

set_option maxHeartbeats 4000000 in
set_option maxRecDepth 100000 in
theorem c_X6_countsByClock_1 (l : Launch) (dC : Nat → ClassId) (dI : Nat → Nat → Nat) (g : Nat × Nat × Nat) (au : Nat) (t1 : Nat) (t2 : Nat) (t3 : Nat) (t4 : Nat) (t5 : Nat) (t6 : Nat) (t7 : Nat) (cI : ClassId) (sz : Nat) : Met l yX6_countsByClock wsX6_countsByClock ({ frames := 1, cells := 0, slots := 0, locals := 21 } : Room) (va_Pc [.ref au, .int 1] (wIn dC dI g [(au, .inr (10, [.ref t1, .ref t2, .ref t3, .ref t4, .ref t5, .ref t6, .ref t7, .int 0, .int 0]))] [(cI, .int)] sz)) (va_Qi (fun (r : Int32) (u : Unit) => r = 0) (fun (u : Unit) (t : State) => wOut dC dI [(au, .inr (10, [.ref t1, .ref t2, .ref t3, .ref t4, .ref t5, .ref t6, .ref t7, .int 0, .int 0]))] [(cI, .int)] (va_A [(au, .inr (10, [.ref t1, .ref t2, .ref t3, .ref t4, .ref t5, .ref t6, .ref t7, .int 0, .int 0]))] sz) t) (va_A [(au, .inr (10, [.ref t1, .ref t2, .ref t3, .ref t4, .ref t5, .ref t6, .ref t7, .int 0, .int 0]))] sz)) 0 0 (va_A [(au, .inr (10, [.ref t1, .ref t2, .ref t3, .ref t4, .ref t5, .ref t6, .ref t7, .int 0, .int 0]))] sz) := by
  refine Met.ofW (cc := cX6_countsByClock) (maxL := 2) (ret := (some .boolean)) (by decide) rfl ?_
  intro p e s m args below meth c s₁ B hml hv
  obtain ⟨rfl, hsz, hP, hK, hD0, hG⟩ := hv
  have hx := B.exec
  have hb := B.bytes
  have hr := B.returns
  have hts := atoms_spec (ws := wsX6_countsByClock) B.pre
  have hown : s.vm.findClass RX6 = some m.cls := findClass_of_methodNamed B.named
  have hlocks := B.notSynchronized
  subst hsz
  have hD := hD0.self (sz := s.heap.size)
  generalize hAe : va_A [(au, .inr (10, [.ref t1, .ref t2, .ref t3, .ref t4, .ref t5, .ref t6, .ref t7, .int 0, .int 0]))] s.heap.size = A at hD hG ⊢
  have hN := hG.1
  have hA : ∀ q : Nat, s.heap.size ≤ q → A q := fun q h => by rw [← hAe]; exact Or.inr h
  have hS : va_S A s.heap s.heap [] := va_S.rf
  have hP : va_P (dC, dI) vwCl [(au, .inr (10, [.ref t1, .ref t2, .ref t3, .ref t4, .ref t5, .ref t6, .ref t7, .int 0, .int 0]))] s.heap := hP
  have hw0 : (Cond.fieldLink RX6 49 "Tickstation$Timers" "running" "I").before _ s = true := hts _ (List.mem_cons_of_mem _ (List.mem_append_left _ (List.mem_append_left _ (List.mem_of_getElem? (i := 0) rfl))))
  have hiX6 : ∀ w ∈ u_ws RX6 TX6 9, w ∈ wsX6_countsByClock := fun _ h => List.mem_cons_of_mem _ (List.mem_append_left _ (List.mem_append_right _ (h)))
  have hw2 : (Cond.initialized RX8).before _ s = true := hts _ (List.mem_cons_of_mem _ (List.mem_append_left _ (List.mem_append_left _ (List.mem_of_getElem? (i := 3) rfl))))
  have hw3 : (Cond.static yX8_hasBit).before _ s = true := hts _ (List.mem_cons_of_mem _ (List.mem_append_left _ (List.mem_append_left _ (List.mem_of_getElem? (i := 2) rfl))))
  have hl := lv_entry ([.ref au, .int 1]) (n := 2) (Nat.le_of_ble_eq_true rfl)
  rw [lg_entry_eq]
  generalize (lg_sl ([.ref au, .int 1]) ++ List.replicate (2 - (lg_sl ([.ref au, .int 1])).length) Slot.unset).toArray = ls at hl ⊢
  have hl : lv_has ls 2 [(0, .ref au), (1, .int 1)] := hl
  refine lv_aload_n hx hb dX6_countsByClock_0 rfl (lv_at hl 0 rfl) ?_
  refine va_get (D := (dC, dI)) (ci := 10) (v := .int 0) (C := RX6) (T := TX6) (N := 9) hx hb hts hiX6 hown hK hP 0 rfl rfl 8 (by decide) (hw0) (fun _ h9 => h9) rfl dX6_countsByClock_1 ?_
  refine lv_iload_n hx hb dX6_countsByClock_4 rfl (lv_at hl 1 rfl) ?_
  have hPc := hP.sub (ws' := []) [] rfl
  have hDc := hD.sub (ws' := []) [] (by decide) rfl
  have hKc := hK.sub (tys' := []) [] rfl
  have hFc := va_free (wc := []) hD hS hA [] rfl
  refine va_calli (va_runSN (As := [.int 0, .int 1]) (rest := []) ⟨hx, hb, hml, hown, hts⟩ (c_X8_hasBit_0 l dC dI g 0 1 s.heap.size (by decide)) ⟨va_cnB (host := "Tickstation") 2 hts gX6_countsByClock_X8_hasBit_n45 rfl rfl rfl (hN _ (List.mem_of_getElem? (i := 20) rfl)) hw2 (by decide +kernel) ⟨Nat.le_of_ble_eq_true rfl, Nat.le_of_ble_eq_true rfl⟩, hw3, trivial⟩ ⟨wIn_blind, wIn_at hPc hKc hDc hG hS hFc⟩ rfl rfl hl.1 rfl (lv_room (Nat.le_of_ble_eq_true rfl)) dX6_countsByClock_5 ⟨Nat.le_of_ble_eq_true rfl, Nat.le_of_ble_eq_true rfl⟩) hS (fun q _ h => hFc q h) hFc (fun r_1 u t H1 locs ht hvm hw hB hz1 hk1 hS => ?_)
  obtain ⟨hP1, hK1, hD1⟩ := hB
  rw [ht] at hP1
  obtain ⟨hP, hD⟩ := va_join (wr := [(au, .inr (10, [.ref t1, .ref t2, .ref t3, .ref t4, .ref t5, .ref t6, .ref t7, .int 0, .int 0]))]) (w1 := []) hP hD [] [0] rfl rfl (by decide) (by decide) hk1 hFc hP1 hD1
  generalize H1 = H at hP hS ⊢
  have hP : va_P (dC, dI) vwCl [(au, .inr (10, [.ref t1, .ref t2, .ref t3, .ref t4, .ref t5, .ref t6, .ref t7, .int 0, .int 0]))] H := hP
  have hD : va_D A [(au, .inr (10, [.ref t1, .ref t2, .ref t3, .ref t4, .ref t5, .ref t6, .ref t7, .int 0, .int 0]))] := hD
  refine lt_ci (y := 0) hw ?_
  refine lv_if_eq (tgt := 34) hx hb dX6_countsByClock_8 (by decide) (fun _ => ?_) (fun c => absurd (by decide) c)
  refine lv_iconst (v := 0) hx hb dX6_countsByClock_34 (by decide) ?_
  have hP9 := hP.sub (ws' := [(au, .inr (10, [.ref t1, .ref t2, .ref t3, .ref t4, .ref t5, .ref t6, .ref t7, .int 0, .int 0]))]) [0] rfl
  have hD9 := hD.sub (ws' := [(au, .inr (10, [.ref t1, .ref t2, .ref t3, .ref t4, .ref t5, .ref t6, .ref t7, .int 0, .int 0]))]) [0] (by decide) rfl
  have hK9 := hK.sub (tys' := [(cI, .int)]) [0] rfl
  exact W.zret (v := 0) hx hb hr (by first | rfl | decide) (fun t ht hW => ⟨⟨0, (), rfl, rfl, wOut_at ht hW hP9 hK9 hD9⟩, hS.F ht⟩) hS.2.2 dX6_countsByClock_35

set_option maxHeartbeats 4000000 in
set_option maxRecDepth 100000 in
theorem c_X6_countsByClock_2 (l : Launch) (dC : Nat → ClassId) (dI : Nat → Nat → Nat) (g : Nat × Nat × Nat) (au : Nat) (t1 : Nat) (t2 : Nat) (t3 : Nat) (t4 : Nat) (t5 : Nat) (t6 : Nat) (t7 : Nat) (cI : ClassId) (sz : Nat) : Met l yX6_countsByClock wsX6_countsByClock ({ frames := 1, cells := 0, slots := 0, locals := 21 } : Room) (va_Pc [.ref au, .int 2] (wIn dC dI g [(au, .inr (10, [.ref t1, .ref t2, .ref t3, .ref t4, .ref t5, .ref t6, .ref t7, .int 0, .int 0]))] [(cI, .int)] sz)) (va_Qi (fun (r : Int32) (u : Unit) => r = 0) (fun (u : Unit) (t : State) => wOut dC dI [(au, .inr (10, [.ref t1, .ref t2, .ref t3, .ref t4, .ref t5, .ref t6, .ref t7, .int 0, .int 0]))] [(cI, .int)] (va_A [(au, .inr (10, [.ref t1, .ref t2, .ref t3, .ref t4, .ref t5, .ref t6, .ref t7, .int 0, .int 0]))] sz) t) (va_A [(au, .inr (10, [.ref t1, .ref t2, .ref t3, .ref t4, .ref t5, .ref t6, .ref t7, .int 0, .int 0]))] sz)) 0 0 (va_A [(au, .inr (10, [.ref t1, .ref t2, .ref t3, .ref t4, .ref t5, .ref t6, .ref t7, .int 0, .int 0]))] sz) := by
  refine Met.ofW (cc := cX6_countsByClock) (maxL := 2) (ret := (some .boolean)) (by decide) rfl ?_
  intro p e s m args below meth c s₁ B hml hv
  obtain ⟨rfl, hsz, hP, hK, hD0, hG⟩ := hv
  have hx := B.exec
  have hb := B.bytes
  have hr := B.returns
  have hts := atoms_spec (ws := wsX6_countsByClock) B.pre
  have hown : s.vm.findClass RX6 = some m.cls := findClass_of_methodNamed B.named
  have hlocks := B.notSynchronized
  subst hsz
  have hD := hD0.self (sz := s.heap.size)
  generalize hAe : va_A [(au, .inr (10, [.ref t1, .ref t2, .ref t3, .ref t4, .ref t5, .ref t6, .ref t7, .int 0, .int 0]))] s.heap.size = A at hD hG ⊢
  have hN := hG.1
  have hA : ∀ q : Nat, s.heap.size ≤ q → A q := fun q h => by rw [← hAe]; exact Or.inr h
  have hS : va_S A s.heap s.heap [] := va_S.rf
  have hP : va_P (dC, dI) vwCl [(au, .inr (10, [.ref t1, .ref t2, .ref t3, .ref t4, .ref t5, .ref t6, .ref t7, .int 0, .int 0]))] s.heap := hP
  have hw0 : (Cond.fieldLink RX6 49 "Tickstation$Timers" "running" "I").before _ s = true := hts _ (List.mem_cons_of_mem _ (List.mem_append_left _ (List.mem_append_left _ (List.mem_of_getElem? (i := 0) rfl))))
  have hiX6 : ∀ w ∈ u_ws RX6 TX6 9, w ∈ wsX6_countsByClock := fun _ h => List.mem_cons_of_mem _ (List.mem_append_left _ (List.mem_append_right _ (h)))
  have hw2 : (Cond.initialized RX8).before _ s = true := hts _ (List.mem_cons_of_mem _ (List.mem_append_left _ (List.mem_append_left _ (List.mem_of_getElem? (i := 3) rfl))))
  have hw3 : (Cond.static yX8_hasBit).before _ s = true := hts _ (List.mem_cons_of_mem _ (List.mem_append_left _ (List.mem_append_left _ (List.mem_of_getElem? (i := 2) rfl))))
  have hl := lv_entry ([.ref au, .int 2]) (n := 2) (Nat.le_of_ble_eq_true rfl)
  rw [lg_entry_eq]
  generalize (lg_sl ([.ref au, .int 2]) ++ List.replicate (2 - (lg_sl ([.ref au, .int 2])).length) Slot.unset).toArray = ls at hl ⊢
  have hl : lv_has ls 2 [(0, .ref au), (1, .int 2)] := hl
  refine lv_aload_n hx hb dX6_countsByClock_0 rfl (lv_at hl 0 rfl) ?_
  refine va_get (D := (dC, dI)) (ci := 10) (v := .int 0) (C := RX6) (T := TX6) (N := 9) hx hb hts hiX6 hown hK hP 0 rfl rfl 8 (by decide) (hw0) (fun _ h9 => h9) rfl dX6_countsByClock_1 ?_
  refine lv_iload_n hx hb dX6_countsByClock_4 rfl (lv_at hl 1 rfl) ?_
  have hPc := hP.sub (ws' := []) [] rfl
  have hDc := hD.sub (ws' := []) [] (by decide) rfl
  have hKc := hK.sub (tys' := []) [] rfl
  have hFc := va_free (wc := []) hD hS hA [] rfl
  refine va_calli (va_runSN (As := [.int 0, .int 2]) (rest := []) ⟨hx, hb, hml, hown, hts⟩ (c_X8_hasBit_0 l dC dI g 0 2 s.heap.size (by decide)) ⟨va_cnB (host := "Tickstation") 2 hts gX6_countsByClock_X8_hasBit_n45 rfl rfl rfl (hN _ (List.mem_of_getElem? (i := 20) rfl)) hw2 (by decide +kernel) ⟨Nat.le_of_ble_eq_true rfl, Nat.le_of_ble_eq_true rfl⟩, hw3, trivial⟩ ⟨wIn_blind, wIn_at hPc hKc hDc hG hS hFc⟩ rfl rfl hl.1 rfl (lv_room (Nat.le_of_ble_eq_true rfl)) dX6_countsByClock_5 ⟨Nat.le_of_ble_eq_true rfl, Nat.le_of_ble_eq_true rfl⟩) hS (fun q _ h => hFc q h) hFc (fun r_1 u t H1 locs ht hvm hw hB hz1 hk1 hS => ?_)
  obtain ⟨hP1, hK1, hD1⟩ := hB
  rw [ht] at hP1
  obtain ⟨hP, hD⟩ := va_join (wr := [(au, .inr (10, [.ref t1, .ref t2, .ref t3, .ref t4, .ref t5, .ref t6, .ref t7, .int 0, .int 0]))]) (w1 := []) hP hD [] [0] rfl rfl (by decide) (by decide) hk1 hFc hP1 hD1
  generalize H1 = H at hP hS ⊢
  have hP : va_P (dC, dI) vwCl [(au, .inr (10, [.ref t1, .ref t2, .ref t3, .ref t4, .ref t5, .ref t6, .ref t7, .int 0, .int 0]))] H := hP
  have hD : va_D A [(au, .inr (10, [.ref t1, .ref t2, .ref t3, .ref t4, .ref t5, .ref t6, .ref t7, .int 0, .int 0]))] := hD
  refine lt_ci (y := 0) hw ?_
  refine lv_if_eq (tgt := 34) hx hb dX6_countsByClock_8 (by decide) (fun _ => ?_) (fun c => absurd (by decide) c)
  refine lv_iconst (v := 0) hx hb dX6_countsByClock_34 (by decide) ?_
  have hP9 := hP.sub (ws' := [(au, .inr (10, [.ref t1, .ref t2, .ref t3, .ref t4, .ref t5, .ref t6, .ref t7, .int 0, .int 0]))]) [0] rfl
  have hD9 := hD.sub (ws' := [(au, .inr (10, [.ref t1, .ref t2, .ref t3, .ref t4, .ref t5, .ref t6, .ref t7, .int 0, .int 0]))]) [0] (by decide) rfl
  have hK9 := hK.sub (tys' := [(cI, .int)]) [0] rfl
  exact W.zret (v := 0) hx hb hr (by first | rfl | decide) (fun t ht hW => ⟨⟨0, (), rfl, rfl, wOut_at ht hW hP9 hK9 hD9⟩, hS.F ht⟩) hS.2.2 dX6_countsByClock_35

set_option maxHeartbeats 4000000 in
set_option maxRecDepth 100000 in
theorem c_X6_countsByClock_3 (l : Launch) (dC : Nat → ClassId) (dI : Nat → Nat → Nat) (g : Nat × Nat × Nat) (au : Nat) (t1 : Nat) (t2 : Nat) (t3 : Nat) (t4 : Nat) (t5 : Nat) (t6 : Nat) (t7 : Nat) (cI : ClassId) (sz : Nat) : Met l yX6_countsByClock wsX6_countsByClock ({ frames := 1, cells := 0, slots := 0, locals := 21 } : Room) (va_Pc [.ref au, .int 3] (wIn dC dI g [(au, .inr (10, [.ref t1, .ref t2, .ref t3, .ref t4, .ref t5, .ref t6, .ref t7, .int 0, .int 0]))] [(cI, .int)] sz)) (va_Qi (fun (r : Int32) (u : Unit) => r = 0) (fun (u : Unit) (t : State) => wOut dC dI [(au, .inr (10, [.ref t1, .ref t2, .ref t3, .ref t4, .ref t5, .ref t6, .ref t7, .int 0, .int 0]))] [(cI, .int)] (va_A [(au, .inr (10, [.ref t1, .ref t2, .ref t3, .ref t4, .ref t5, .ref t6, .ref t7, .int 0, .int 0]))] sz) t) (va_A [(au, .inr (10, [.ref t1, .ref t2, .ref t3, .ref t4, .ref t5, .ref t6, .ref t7, .int 0, .int 0]))] sz)) 0 0 (va_A [(au, .inr (10, [.ref t1, .ref t2, .ref t3, .ref t4, .ref t5, .ref t6, .ref t7, .int 0, .int 0]))] sz) := by
  refine Met.ofW (cc := cX6_countsByClock) (maxL := 2) (ret := (some .boolean)) (by decide) rfl ?_
  intro p e s m args below meth c s₁ B hml hv
  obtain ⟨rfl, hsz, hP, hK, hD0, hG⟩ := hv
  have hx := B.exec
  have hb := B.bytes
  have hr := B.returns
  have hts := atoms_spec (ws := wsX6_countsByClock) B.pre
  have hown : s.vm.findClass RX6 = some m.cls := findClass_of_methodNamed B.named
  have hlocks := B.notSynchronized
  subst hsz
  have hD := hD0.self (sz := s.heap.size)
  generalize hAe : va_A [(au, .inr (10, [.ref t1, .ref t2, .ref t3, .ref t4, .ref t5, .ref t6, .ref t7, .int 0, .int 0]))] s.heap.size = A at hD hG ⊢
  have hN := hG.1
  have hA : ∀ q : Nat, s.heap.size ≤ q → A q := fun q h => by rw [← hAe]; exact Or.inr h
  have hS : va_S A s.heap s.heap [] := va_S.rf
  have hP : va_P (dC, dI) vwCl [(au, .inr (10, [.ref t1, .ref t2, .ref t3, .ref t4, .ref t5, .ref t6, .ref t7, .int 0, .int 0]))] s.heap := hP
  have hw0 : (Cond.fieldLink RX6 49 "Tickstation$Timers" "running" "I").before _ s = true := hts _ (List.mem_cons_of_mem _ (List.mem_append_left _ (List.mem_append_left _ (List.mem_of_getElem? (i := 0) rfl))))
  have hiX6 : ∀ w ∈ u_ws RX6 TX6 9, w ∈ wsX6_countsByClock := fun _ h => List.mem_cons_of_mem _ (List.mem_append_left _ (List.mem_append_right _ (h)))
  have hw2 : (Cond.initialized RX8).before _ s = true := hts _ (List.mem_cons_of_mem _ (List.mem_append_left _ (List.mem_append_left _ (List.mem_of_getElem? (i := 3) rfl))))
  have hw3 : (Cond.static yX8_hasBit).before _ s = true := hts _ (List.mem_cons_of_mem _ (List.mem_append_left _ (List.mem_append_left _ (List.mem_of_getElem? (i := 2) rfl))))
  have hl := lv_entry ([.ref au, .int 3]) (n := 2) (Nat.le_of_ble_eq_true rfl)
  rw [lg_entry_eq]
  generalize (lg_sl ([.ref au, .int 3]) ++ List.replicate (2 - (lg_sl ([.ref au, .int 3])).length) Slot.unset).toArray = ls at hl ⊢
  have hl : lv_has ls 2 [(0, .ref au), (1, .int 3)] := hl
  refine lv_aload_n hx hb dX6_countsByClock_0 rfl (lv_at hl 0 rfl) ?_
  refine va_get (D := (dC, dI)) (ci := 10) (v := .int 0) (C := RX6) (T := TX6) (N := 9) hx hb hts hiX6 hown hK hP 0 rfl rfl 8 (by decide) (hw0) (fun _ h9 => h9) rfl dX6_countsByClock_1 ?_
  refine lv_iload_n hx hb dX6_countsByClock_4 rfl (lv_at hl 1 rfl) ?_
  have hPc := hP.sub (ws' := []) [] rfl
  have hDc := hD.sub (ws' := []) [] (by decide) rfl
  have hKc := hK.sub (tys' := []) [] rfl
  have hFc := va_free (wc := []) hD hS hA [] rfl
  refine va_calli (va_runSN (As := [.int 0, .int 3]) (rest := []) ⟨hx, hb, hml, hown, hts⟩ (c_X8_hasBit_0 l dC dI g 0 3 s.heap.size (by decide)) ⟨va_cnB (host := "Tickstation") 2 hts gX6_countsByClock_X8_hasBit_n45 rfl rfl rfl (hN _ (List.mem_of_getElem? (i := 20) rfl)) hw2 (by decide +kernel) ⟨Nat.le_of_ble_eq_true rfl, Nat.le_of_ble_eq_true rfl⟩, hw3, trivial⟩ ⟨wIn_blind, wIn_at hPc hKc hDc hG hS hFc⟩ rfl rfl hl.1 rfl (lv_room (Nat.le_of_ble_eq_true rfl)) dX6_countsByClock_5 ⟨Nat.le_of_ble_eq_true rfl, Nat.le_of_ble_eq_true rfl⟩) hS (fun q _ h => hFc q h) hFc (fun r_1 u t H1 locs ht hvm hw hB hz1 hk1 hS => ?_)
  obtain ⟨hP1, hK1, hD1⟩ := hB
  rw [ht] at hP1
  obtain ⟨hP, hD⟩ := va_join (wr := [(au, .inr (10, [.ref t1, .ref t2, .ref t3, .ref t4, .ref t5, .ref t6, .ref t7, .int 0, .int 0]))]) (w1 := []) hP hD [] [0] rfl rfl (by decide) (by decide) hk1 hFc hP1 hD1
  generalize H1 = H at hP hS ⊢
  have hP : va_P (dC, dI) vwCl [(au, .inr (10, [.ref t1, .ref t2, .ref t3, .ref t4, .ref t5, .ref t6, .ref t7, .int 0, .int 0]))] H := hP
  have hD : va_D A [(au, .inr (10, [.ref t1, .ref t2, .ref t3, .ref t4, .ref t5, .ref t6, .ref t7, .int 0, .int 0]))] := hD
  refine lt_ci (y := 0) hw ?_
  refine lv_if_eq (tgt := 34) hx hb dX6_countsByClock_8 (by decide) (fun _ => ?_) (fun c => absurd (by decide) c)
  refine lv_iconst (v := 0) hx hb dX6_countsByClock_34 (by decide) ?_
  have hP9 := hP.sub (ws' := [(au, .inr (10, [.ref t1, .ref t2, .ref t3, .ref t4, .ref t5, .ref t6, .ref t7, .int 0, .int 0]))]) [0] rfl
  have hD9 := hD.sub (ws' := [(au, .inr (10, [.ref t1, .ref t2, .ref t3, .ref t4, .ref t5, .ref t6, .ref t7, .int 0, .int 0]))]) [0] (by decide) rfl
  have hK9 := hK.sub (tys' := [(cI, .int)]) [0] rfl
  exact W.zret (v := 0) hx hb hr (by first | rfl | decide) (fun t ht hW => ⟨⟨0, (), rfl, rfl, wOut_at ht hW hP9 hK9 hD9⟩, hS.F ht⟩) hS.2.2 dX6_countsByClock_35

set_option maxHeartbeats 4000000 in
set_option maxRecDepth 100000 in
theorem c_X6_beatsToEvent (l : Launch) (dC : Nat → ClassId) (dI : Nat → Nat → Nat) (g : Nat × Nat × Nat) (au : Nat) (t1 : Nat) (t2 : Nat) (t3 : Nat) (t4 : Nat) (t5 : Nat) (t6 : Nat) (t7 : Nat) (ac : Nat) (cI : ClassId) (sz : Nat) : Met l yX6_beatsToEvent wsX6_beatsToEvent ({ frames := 2, cells := 0, slots := 0, locals := 42 } : Room) (va_Pc [.ref au, .ref ac, .int 0] (wIn dC dI g [(au, .inr (10, [.ref t1, .ref t2, .ref t3, .ref t4, .ref t5, .ref t6, .ref t7, .int 0, .int 0]))] [(cI, .int)] sz)) (va_Qi (fun (r : Int32) (u : Unit) => r = 1000000000) (fun (u : Unit) (t : State) => wOut dC dI [(au, .inr (10, [.ref t1, .ref t2, .ref t3, .ref t4, .ref t5, .ref t6, .ref t7, .int 0, .int 0]))] [(cI, .int)] (va_A [(au, .inr (10, [.ref t1, .ref t2, .ref t3, .ref t4, .ref t5, .ref t6, .ref t7, .int 0, .int 0]))] sz) t) (va_A [(au, .inr (10, [.ref t1, .ref t2, .ref t3, .ref t4, .ref t5, .ref t6, .ref t7, .int 0, .int 0]))] sz)) 0 0 (va_A [(au, .inr (10, [.ref t1, .ref t2, .ref t3, .ref t4, .ref t5, .ref t6, .ref t7, .int 0, .int 0]))] sz) := by
  refine Met.ofW (cc := cX6_beatsToEvent) (maxL := 6) (ret := (some .int)) (by decide) rfl ?_
  intro p e s m args below meth c s₁ B hml hv
  obtain ⟨rfl, hsz, hP, hK, hD0, hG⟩ := hv
  have hx := B.exec
  have hb := B.bytes
  have hr := B.returns
  have hts := atoms_spec (ws := wsX6_beatsToEvent) B.pre
  have hown : s.vm.findClass RX6 = some m.cls := findClass_of_methodNamed B.named
  have hlocks := B.notSynchronized
  subst hsz
  have hD := hD0.self (sz := s.heap.size)
  generalize hAe : va_A [(au, .inr (10, [.ref t1, .ref t2, .ref t3, .ref t4, .ref t5, .ref t6, .ref t7, .int 0, .int 0]))] s.heap.size = A at hD hG ⊢
  have hN := hG.1
  have hA : ∀ q : Nat, s.heap.size ≤ q → A q := fun q h => by rw [← hAe]; exact Or.inr h
  have hS : va_S A s.heap s.heap [] := va_S.rf
  have hP : va_P (dC, dI) vwCl [(au, .inr (10, [.ref t1, .ref t2, .ref t3, .ref t4, .ref t5, .ref t6, .ref t7, .int 0, .int 0]))] s.heap := hP
  have hw0 : (Cond.constant RX6 64 (1000000000)).before _ s = true := hts _ (List.mem_cons_of_mem _ (List.mem_append_left _ (List.mem_append_left _ (List.mem_append_left _ (List.mem_append_left _ (List.mem_of_getElem? (i := 0) rfl))))))
  have hl := lv_entry ([.ref au, .ref ac, .int 0]) (n := 6) (Nat.le_of_ble_eq_true rfl)
  rw [lg_entry_eq]
  generalize (lg_sl ([.ref au, .ref ac, .int 0]) ++ List.replicate (6 - (lg_sl ([.ref au, .ref ac, .int 0])).length) Slot.unset).toArray = ls at hl ⊢
  have hl : lv_has ls 6 [(0, .ref au), (1, .ref ac), (2, .int 0)] := hl
  refine lv_ldc (v := 1000000000) hx hb hown hw0 dX6_beatsToEvent_0 ?_
  refine lv_istore_n (lv' := [(3, .int 1000000000), (0, .ref au), (1, .ref ac), (2, .int 0)]) hx hb dX6_beatsToEvent_2 rfl hl (by decide) rfl (fun ls hl => ?_)
  refine lv_iconst (v := 0) hx hb dX6_beatsToEvent_3 (by decide) ?_
  refine lv_istore (lv' := [(4, .int 0), (3, .int 1000000000), (0, .ref au), (1, .ref ac), (2, .int 0)]) hx hb dX6_beatsToEvent_4 hl (by decide) rfl (fun ls hl => ?_)
  refine lv_iload hx hb dX6_beatsToEvent_6 (lv_at hl 0 rfl) ?_
  refine lv_iconst (v := 4) hx hb dX6_beatsToEvent_8 (by decide) ?_
  refine lv_icmp_ge (tgt := 109) hx hb dX6_beatsToEvent_9 (by decide) (fun c => absurd c (by decide)) (fun _ => ?_)
  refine lv_aload_n hx hb dX6_beatsToEvent_12 rfl (lv_at hl 2 rfl) ?_
  refine lv_iload hx hb dX6_beatsToEvent_13 (lv_at hl 0 rfl) ?_
  have hPc := hP.sub (ws' := [(au, .inr (10, [.ref t1, .ref t2, .ref t3, .ref t4, .ref t5, .ref t6, .ref t7, .int 0, .int 0]))]) [0] rfl
  have hDc := hD.sub (ws' := [(au, .inr (10, [.ref t1, .ref t2, .ref t3, .ref t4, .ref t5, .ref t6, .ref t7, .int 0, .int 0]))]) [0] (by decide) rfl
  have hKc := hK.sub (tys' := [(cI, .int)]) [0] rfl
  have hFc := va_free (wc := [(au, .inr (10, [.ref t1, .ref t2, .ref t3, .ref t4, .ref t5, .ref t6, .ref t7, .int 0, .int 0]))]) hD hS hA [0] rfl
  refine va_calli (va_runV (As := [.int 0]) (rest := []) ⟨hx, hb, hml, hown, hts⟩ (c_X6_countsByClock_0 l dC dI g au t1 t2 t3 t4 t5 t6 t7 cI s.heap.size) (cwV 1 hts gX6_beatsToEvent_X6_countsByClock rfl rfl rfl (by decide +kernel) ⟨Nat.le_of_ble_eq_true rfl, Nat.le_of_ble_eq_true rfl⟩) ⟨wIn_blind, va_recv hK hP (ci := 10) (q0 := 0) rfl rfl, wIn_at hPc hKc hDc hG hS hFc⟩ rfl rfl hl.1 rfl (lv_room (Nat.le_of_ble_eq_true rfl)) dX6_beatsToEvent_15 ⟨Nat.le_of_ble_eq_true rfl, Nat.le_of_ble_eq_true rfl⟩) hS (fun q _ h => hFc q h) hFc (fun r_1 u t H1 locs ht hvm hw hB hz1 hk1 hS => ?_)
  obtain ⟨hP1, hK1, hD1⟩ := hB
  rw [ht] at hP1
  obtain ⟨hP, hD⟩ := va_join (wr := []) (w1 := [(au, .inr (10, [.ref t1, .ref t2, .ref t3, .ref t4, .ref t5, .ref t6, .ref t7, .int 0, .int 0]))]) hP hD [0] [] rfl rfl (by decide) (by decide) hk1 hFc hP1 hD1
  generalize H1 = H at hP hS ⊢
  have hP : va_P (dC, dI) vwCl [(au, .inr (10, [.ref t1, .ref t2, .ref t3, .ref t4, .ref t5, .ref t6, .ref t7, .int 0, .int 0]))] H := hP
  have hD : va_D A [(au, .inr (10, [.ref t1, .ref t2, .ref t3, .ref t4, .ref t5, .ref t6, .ref t7, .int 0, .int 0]))] := hD
  refine lt_ci (y := 0) hw ?_
  refine lv_if_ne (tgt := 24) hx hb dX6_beatsToEvent_18 (by decide) (fun c => (c (by decide)).elim) (fun _ => ?_)
  refine lv_goto (tgt := 103) hx hb dX6_beatsToEvent_21 (by decide) ?_
  refine lv_iinc (v := 1) (lv' := [(4, .int 1), (3, .int 1000000000), (0, .ref au), (1, .ref ac), (2, .int 0)]) hx hb dX6_beatsToEvent_103 hl (k := 0) rfl (by first | rfl | decide) (by decide) rfl (fun ls hl => ?_)
  refine lv_goto (tgt := 6) hx hb dX6_beatsToEvent_106 (by decide) ?_
  refine lv_iload hx hb dX6_beatsToEvent_6 (lv_at hl 0 rfl) ?_
  refine lv_iconst (v := 4) hx hb dX6_beatsToEvent_8 (by decide) ?_
  refine lv_icmp_ge (tgt := 109) hx hb dX6_beatsToEvent_9 (by decide) (fun c => absurd c (by decide)) (fun _ => ?_)
  refine lv_aload_n hx hb dX6_beatsToEvent_12 rfl (lv_at hl 2 rfl) ?_
  refine lv_iload hx hb dX6_beatsToEvent_13 (lv_at hl 0 rfl) ?_
  have hPc := hP.sub (ws' := [(au, .inr (10, [.ref t1, .ref t2, .ref t3, .ref t4, .ref t5, .ref t6, .ref t7, .int 0, .int 0]))]) [0] rfl
  have hDc := hD.sub (ws' := [(au, .inr (10, [.ref t1, .ref t2, .ref t3, .ref t4, .ref t5, .ref t6, .ref t7, .int 0, .int 0]))]) [0] (by decide) rfl
  have hKc := hK.sub (tys' := [(cI, .int)]) [0] rfl
  have hFc := va_free (wc := [(au, .inr (10, [.ref t1, .ref t2, .ref t3, .ref t4, .ref t5, .ref t6, .ref t7, .int 0, .int 0]))]) hD hS hA [0] rfl
  refine va_calli (va_runV (As := [.int 1]) (rest := []) ⟨hx, hb, hml, hown, hts⟩ (c_X6_countsByClock_1 l dC dI g au t1 t2 t3 t4 t5 t6 t7 cI H.size) (cwV 1 hts gX6_beatsToEvent_X6_countsByClock rfl rfl rfl (by decide +kernel) ⟨Nat.le_of_ble_eq_true rfl, Nat.le_of_ble_eq_true rfl⟩) ⟨wIn_blind, va_recv hK hP (ci := 10) (q0 := 0) rfl rfl, wIn_at hPc hKc hDc hG hS hFc⟩ rfl rfl hl.1 rfl (lv_room (Nat.le_of_ble_eq_true rfl)) dX6_beatsToEvent_15 ⟨Nat.le_of_ble_eq_true rfl, Nat.le_of_ble_eq_true rfl⟩) hS (fun q _ h => hFc q h) hFc (fun r_2 u t H1 locs ht hvm hw hB hz1 hk1 hS => ?_)
  obtain ⟨hP1, hK1, hD1⟩ := hB
  rw [ht] at hP1
  obtain ⟨hP, hD⟩ := va_join (wr := []) (w1 := [(au, .inr (10, [.ref t1, .ref t2, .ref t3, .ref t4, .ref t5, .ref t6, .ref t7, .int 0, .int 0]))]) hP hD [0] [] rfl rfl (by decide) (by decide) hk1 hFc hP1 hD1
  generalize H1 = H at hP hS ⊢
  have hP : va_P (dC, dI) vwCl [(au, .inr (10, [.ref t1, .ref t2, .ref t3, .ref t4, .ref t5, .ref t6, .ref t7, .int 0, .int 0]))] H := hP
  have hD : va_D A [(au, .inr (10, [.ref t1, .ref t2, .ref t3, .ref t4, .ref t5, .ref t6, .ref t7, .int 0, .int 0]))] := hD
  refine lt_ci (y := 0) hw ?_
  refine lv_if_ne (tgt := 24) hx hb dX6_beatsToEvent_18 (by decide) (fun c => (c (by decide)).elim) (fun _ => ?_)
  refine lv_goto (tgt := 103) hx hb dX6_beatsToEvent_21 (by decide) ?_
  refine lv_iinc (v := 2) (lv' := [(4, .int 2), (3, .int 1000000000), (0, .ref au), (1, .ref ac), (2, .int 0)]) hx hb dX6_beatsToEvent_103 hl (k := 0) rfl (by first | rfl | decide) (by decide) rfl (fun ls hl => ?_)
  refine lv_goto (tgt := 6) hx hb dX6_beatsToEvent_106 (by decide) ?_
  refine lv_iload hx hb dX6_beatsToEvent_6 (lv_at hl 0 rfl) ?_
  refine lv_iconst (v := 4) hx hb dX6_beatsToEvent_8 (by decide) ?_
  refine lv_icmp_ge (tgt := 109) hx hb dX6_beatsToEvent_9 (by decide) (fun c => absurd c (by decide)) (fun _ => ?_)
  refine lv_aload_n hx hb dX6_beatsToEvent_12 rfl (lv_at hl 2 rfl) ?_
  refine lv_iload hx hb dX6_beatsToEvent_13 (lv_at hl 0 rfl) ?_
  have hPc := hP.sub (ws' := [(au, .inr (10, [.ref t1, .ref t2, .ref t3, .ref t4, .ref t5, .ref t6, .ref t7, .int 0, .int 0]))]) [0] rfl
  have hDc := hD.sub (ws' := [(au, .inr (10, [.ref t1, .ref t2, .ref t3, .ref t4, .ref t5, .ref t6, .ref t7, .int 0, .int 0]))]) [0] (by decide) rfl
  have hKc := hK.sub (tys' := [(cI, .int)]) [0] rfl
  have hFc := va_free (wc := [(au, .inr (10, [.ref t1, .ref t2, .ref t3, .ref t4, .ref t5, .ref t6, .ref t7, .int 0, .int 0]))]) hD hS hA [0] rfl
  refine va_calli (va_runV (As := [.int 2]) (rest := []) ⟨hx, hb, hml, hown, hts⟩ (c_X6_countsByClock_2 l dC dI g au t1 t2 t3 t4 t5 t6 t7 cI H.size) (cwV 1 hts gX6_beatsToEvent_X6_countsByClock rfl rfl rfl (by decide +kernel) ⟨Nat.le_of_ble_eq_true rfl, Nat.le_of_ble_eq_true rfl⟩) ⟨wIn_blind, va_recv hK hP (ci := 10) (q0 := 0) rfl rfl, wIn_at hPc hKc hDc hG hS hFc⟩ rfl rfl hl.1 rfl (lv_room (Nat.le_of_ble_eq_true rfl)) dX6_beatsToEvent_15 ⟨Nat.le_of_ble_eq_true rfl, Nat.le_of_ble_eq_true rfl⟩) hS (fun q _ h => hFc q h) hFc (fun r_3 u t H1 locs ht hvm hw hB hz1 hk1 hS => ?_)
  obtain ⟨hP1, hK1, hD1⟩ := hB
  rw [ht] at hP1
  obtain ⟨hP, hD⟩ := va_join (wr := []) (w1 := [(au, .inr (10, [.ref t1, .ref t2, .ref t3, .ref t4, .ref t5, .ref t6, .ref t7, .int 0, .int 0]))]) hP hD [0] [] rfl rfl (by decide) (by decide) hk1 hFc hP1 hD1
  generalize H1 = H at hP hS ⊢
  have hP : va_P (dC, dI) vwCl [(au, .inr (10, [.ref t1, .ref t2, .ref t3, .ref t4, .ref t5, .ref t6, .ref t7, .int 0, .int 0]))] H := hP
  have hD : va_D A [(au, .inr (10, [.ref t1, .ref t2, .ref t3, .ref t4, .ref t5, .ref t6, .ref t7, .int 0, .int 0]))] := hD
  refine lt_ci (y := 0) hw ?_
  refine lv_if_ne (tgt := 24) hx hb dX6_beatsToEvent_18 (by decide) (fun c => (c (by decide)).elim) (fun _ => ?_)
  refine lv_goto (tgt := 103) hx hb dX6_beatsToEvent_21 (by decide) ?_
  refine lv_iinc (v := 3) (lv' := [(4, .int 3), (3, .int 1000000000), (0, .ref au), (1, .ref ac), (2, .int 0)]) hx hb dX6_beatsToEvent_103 hl (k := 0) rfl (by first | rfl | decide) (by decide) rfl (fun ls hl => ?_)
  refine lv_goto (tgt := 6) hx hb dX6_beatsToEvent_106 (by decide) ?_
  refine lv_iload hx hb dX6_beatsToEvent_6 (lv_at hl 0 rfl) ?_
  refine lv_iconst (v := 4) hx hb dX6_beatsToEvent_8 (by decide) ?_
  refine lv_icmp_ge (tgt := 109) hx hb dX6_beatsToEvent_9 (by decide) (fun c => absurd c (by decide)) (fun _ => ?_)
  refine lv_aload_n hx hb dX6_beatsToEvent_12 rfl (lv_at hl 2 rfl) ?_
  refine lv_iload hx hb dX6_beatsToEvent_13 (lv_at hl 0 rfl) ?_
  have hPc := hP.sub (ws' := [(au, .inr (10, [.ref t1, .ref t2, .ref t3, .ref t4, .ref t5, .ref t6, .ref t7, .int 0, .int 0]))]) [0] rfl
  have hDc := hD.sub (ws' := [(au, .inr (10, [.ref t1, .ref t2, .ref t3, .ref t4, .ref t5, .ref t6, .ref t7, .int 0, .int 0]))]) [0] (by decide) rfl
  have hKc := hK.sub (tys' := [(cI, .int)]) [0] rfl
  have hFc := va_free (wc := [(au, .inr (10, [.ref t1, .ref t2, .ref t3, .ref t4, .ref t5, .ref t6, .ref t7, .int 0, .int 0]))]) hD hS hA [0] rfl
  refine va_calli (va_runV (As := [.int 3]) (rest := []) ⟨hx, hb, hml, hown, hts⟩ (c_X6_countsByClock_3 l dC dI g au t1 t2 t3 t4 t5 t6 t7 cI H.size) (cwV 1 hts gX6_beatsToEvent_X6_countsByClock rfl rfl rfl (by decide +kernel) ⟨Nat.le_of_ble_eq_true rfl, Nat.le_of_ble_eq_true rfl⟩) ⟨wIn_blind, va_recv hK hP (ci := 10) (q0 := 0) rfl rfl, wIn_at hPc hKc hDc hG hS hFc⟩ rfl rfl hl.1 rfl (lv_room (Nat.le_of_ble_eq_true rfl)) dX6_beatsToEvent_15 ⟨Nat.le_of_ble_eq_true rfl, Nat.le_of_ble_eq_true rfl⟩) hS (fun q _ h => hFc q h) hFc (fun r_4 u t H1 locs ht hvm hw hB hz1 hk1 hS => ?_)
  obtain ⟨hP1, hK1, hD1⟩ := hB
  rw [ht] at hP1
  obtain ⟨hP, hD⟩ := va_join (wr := []) (w1 := [(au, .inr (10, [.ref t1, .ref t2, .ref t3, .ref t4, .ref t5, .ref t6, .ref t7, .int 0, .int 0]))]) hP hD [0] [] rfl rfl (by decide) (by decide) hk1 hFc hP1 hD1
  generalize H1 = H at hP hS ⊢
  have hP : va_P (dC, dI) vwCl [(au, .inr (10, [.ref t1, .ref t2, .ref t3, .ref t4, .ref t5, .ref t6, .ref t7, .int 0, .int 0]))] H := hP
  have hD : va_D A [(au, .inr (10, [.ref t1, .ref t2, .ref t3, .ref t4, .ref t5, .ref t6, .ref t7, .int 0, .int 0]))] := hD
  refine lt_ci (y := 0) hw ?_
  refine lv_if_ne (tgt := 24) hx hb dX6_beatsToEvent_18 (by decide) (fun c => (c (by decide)).elim) (fun _ => ?_)
  refine lv_goto (tgt := 103) hx hb dX6_beatsToEvent_21 (by decide) ?_
  refine lv_iinc (v := 4) (lv' := [(4, .int 4), (3, .int 1000000000), (0, .ref au), (1, .ref ac), (2, .int 0)]) hx hb dX6_beatsToEvent_103 hl (k := 0) rfl (by first | rfl | decide) (by decide) rfl (fun ls hl => ?_)
  refine lv_goto (tgt := 6) hx hb dX6_beatsToEvent_106 (by decide) ?_
  refine lv_iload hx hb dX6_beatsToEvent_6 (lv_at hl 0 rfl) ?_
  refine lv_iconst (v := 4) hx hb dX6_beatsToEvent_8 (by decide) ?_
  refine lv_icmp_ge (tgt := 109) hx hb dX6_beatsToEvent_9 (by decide) (fun _ => ?_) (fun c => absurd (by decide) c)
  refine lv_iload_n hx hb dX6_beatsToEvent_109 rfl (lv_at hl 1 rfl) ?_
  have hP9 := hP.sub (ws' := [(au, .inr (10, [.ref t1, .ref t2, .ref t3, .ref t4, .ref t5, .ref t6, .ref t7, .int 0, .int 0]))]) [0] rfl
  have hD9 := hD.sub (ws' := [(au, .inr (10, [.ref t1, .ref t2, .ref t3, .ref t4, .ref t5, .ref t6, .ref t7, .int 0, .int 0]))]) [0] (by decide) rfl
  have hK9 := hK.sub (tys' := [(cI, .int)]) [0] rfl
  exact W.iret (v := 1000000000) hx hb hr (fun t ht hW => ⟨⟨1000000000, (), rfl, rfl, wOut_at ht hW hP9 hK9 hD9⟩, hS.F ht⟩) hS.2.2 dX6_beatsToEvent_110

set_option maxHeartbeats 4000000 in
set_option maxRecDepth 100000 in
theorem c_X7_beatsToEvent (l : Launch) (dC : Nat → ClassId) (dI : Nat → Nat → Nat) (g : Nat × Nat × Nat) (ad : Nat) (ac : Nat) (cI : ClassId) (sz : Nat) : Met l yX7_beatsToEvent wsX7_beatsToEvent ({ frames := 0, cells := 0, slots := 0, locals := 0 } : Room) (va_Pc [.ref ad, .ref ac, .int 0] (wIn dC dI g [(ad, .inr (11, [.int (-1), .int 0, .int 0, .int 0, .int 0, .int 0]))] [(cI, .int)] sz)) (va_Qi (fun (r : Int32) (u : Unit) => r = 1000000000) (fun (u : Unit) (t : State) => wOut dC dI [(ad, .inr (11, [.int (-1), .int 0, .int 0, .int 0, .int 0, .int 0]))] [(cI, .int)] (va_A [(ad, .inr (11, [.int (-1), .int 0, .int 0, .int 0, .int 0, .int 0]))] sz) t) (va_A [(ad, .inr (11, [.int (-1), .int 0, .int 0, .int 0, .int 0, .int 0]))] sz)) 0 0 (va_A [(ad, .inr (11, [.int (-1), .int 0, .int 0, .int 0, .int 0, .int 0]))] sz) := by
  refine Met.ofW (cc := cX7_beatsToEvent) (maxL := 3) (ret := (some .int)) (by decide) rfl ?_
  intro p e s m args below meth c s₁ B hml hv
  obtain ⟨rfl, hsz, hP, hK, hD0, hG⟩ := hv
  have hx := B.exec
  have hb := B.bytes
  have hr := B.returns
  have hts := atoms_spec (ws := wsX7_beatsToEvent) B.pre
  have hown : s.vm.findClass RX7 = some m.cls := findClass_of_methodNamed B.named
  have hlocks := B.notSynchronized
  subst hsz
  have hD := hD0.self (sz := s.heap.size)
  generalize hAe : va_A [(ad, .inr (11, [.int (-1), .int 0, .int 0, .int 0, .int 0, .int 0]))] s.heap.size = A at hD hG ⊢
  have hN := hG.1
  have hA : ∀ q : Nat, s.heap.size ≤ q → A q := fun q h => by rw [← hAe]; exact Or.inr h
  have hS : va_S A s.heap s.heap [] := va_S.rf
  have hP : va_P (dC, dI) vwCl [(ad, .inr (11, [.int (-1), .int 0, .int 0, .int 0, .int 0, .int 0]))] s.heap := hP
  have hw0 : (Cond.fieldLink RX7 9 "Tickstation$Watchdog" "clock" "I").before _ s = true := hts _ (List.mem_cons_of_mem _ (List.mem_append_left _ (List.mem_append_left _ (List.mem_append_left _ (List.mem_of_getElem? (i := 0) rfl)))))
  have hiX7 : ∀ w ∈ u_ws RX7 TX7 6, w ∈ wsX7_beatsToEvent := fun _ h => List.mem_cons_of_mem _ (List.mem_append_left _ (List.mem_append_left _ (List.mem_append_right _ (h))))
  have hw2 : (Cond.constant RX7 27 (1000000000)).before _ s = true := hts _ (List.mem_cons_of_mem _ (List.mem_append_left _ (List.mem_append_left _ (List.mem_append_left _ (List.mem_of_getElem? (i := 1) rfl)))))
  have hl := lv_entry ([.ref ad, .ref ac, .int 0]) (n := 3) (Nat.le_of_ble_eq_true rfl)
  rw [lg_entry_eq]
  generalize (lg_sl ([.ref ad, .ref ac, .int 0]) ++ List.replicate (3 - (lg_sl ([.ref ad, .ref ac, .int 0])).length) Slot.unset).toArray = ls at hl ⊢
  have hl : lv_has ls 3 [(0, .ref ad), (1, .ref ac), (2, .int 0)] := hl
  refine lv_aload_n hx hb dX7_beatsToEvent_0 rfl (lv_at hl 0 rfl) ?_
  refine va_get (D := (dC, dI)) (ci := 11) (v := .int (-1)) (C := RX7) (T := TX7) (N := 6) hx hb hts hiX7 hown hK hP 0 rfl rfl 0 (by decide) (hw0) (fun _ h9 => h9) rfl dX7_beatsToEvent_1 ?_
  refine lv_iconst (v := (-1)) hx hb dX7_beatsToEvent_4 (by decide) ?_
  refine lv_icmp_ne (tgt := 13) hx hb dX7_beatsToEvent_5 (by decide) (fun c => (c (by decide)).elim) (fun _ => ?_)
  refine lv_ldc (v := 1000000000) hx hb hown hw2 dX7_beatsToEvent_8 ?_
  refine lv_goto (tgt := 31) hx hb dX7_beatsToEvent_10 (by decide) ?_
  have hP9 := hP.sub (ws' := [(ad, .inr (11, [.int (-1), .int 0, .int 0, .int 0, .int 0, .int 0]))]) [0] rfl
  have hD9 := hD.sub (ws' := [(ad, .inr (11, [.int (-1), .int 0, .int 0, .int 0, .int 0, .int 0]))]) [0] (by decide) rfl
  have hK9 := hK.sub (tys' := [(cI, .int)]) [0] rfl
  exact W.iret (v := 1000000000) hx hb hr (fun t ht hW => ⟨⟨1000000000, (), rfl, rfl, wOut_at ht hW hP9 hK9 hD9⟩, hS.F ht⟩) hS.2.2 dX7_beatsToEvent_31

set_option maxHeartbeats 4000000 in
set_option maxRecDepth 100000 in
theorem c_X4_beatsToEvent (l : Launch) (dC : Nat → ClassId) (dI : Nat → Nat → Nat) (g : Nat × Nat × Nat) (an : Nat) (n1 : Nat) (n2 : Nat) (n3 : Nat) (n4 : Nat) (n5 : Nat) (ak : Nat) (ar : Nat) (cI : ClassId) (sz : Nat) : Met l yX4_beatsToEvent wsX4_beatsToEvent ({ frames := 1, cells := 0, slots := 0, locals := 24 } : Room) (va_Pc [.ref ak, .ref an] (wIn dC dI g [(ak, .inr (8, [.ref ar, .int 105, .int 0, .int (-1), .int 0, .int 0, .int 0])), (an, .inr (6, [.ref n1, .ref n2, .ref n3, .ref n4, .ref n5, .int 0, .int 0]))] [(cI, .int)] sz)) (va_Qi (fun (r : Int32) (u : Unit) => r = 1000000000) (fun (u : Unit) (t : State) => wOut dC dI [(ak, .inr (8, [.ref ar, .int 105, .int 0, .int (-1), .int 0, .int 0, .int 0])), (an, .inr (6, [.ref n1, .ref n2, .ref n3, .ref n4, .ref n5, .int 0, .int 0]))] [(cI, .int)] (va_A [(ak, .inr (8, [.ref ar, .int 105, .int 0, .int (-1), .int 0, .int 0, .int 0])), (an, .inr (6, [.ref n1, .ref n2, .ref n3, .ref n4, .ref n5, .int 0, .int 0]))] sz) t) (va_A [(ak, .inr (8, [.ref ar, .int 105, .int 0, .int (-1), .int 0, .int 0, .int 0])), (an, .inr (6, [.ref n1, .ref n2, .ref n3, .ref n4, .ref n5, .int 0, .int 0]))] sz)) 0 0 (va_A [(ak, .inr (8, [.ref ar, .int 105, .int 0, .int (-1), .int 0, .int 0, .int 0])), (an, .inr (6, [.ref n1, .ref n2, .ref n3, .ref n4, .ref n5, .int 0, .int 0]))] sz) := by
  refine Met.ofW (cc := cX4_beatsToEvent) (maxL := 3) (ret := (some .int)) (by decide) rfl ?_
  intro p e s m args below meth c s₁ B hml hv
  obtain ⟨rfl, hsz, hP, hK, hD0, hG⟩ := hv
  have hx := B.exec
  have hb := B.bytes
  have hr := B.returns
  have hts := atoms_spec (ws := wsX4_beatsToEvent) B.pre
  have hown : s.vm.findClass RX4 = some m.cls := findClass_of_methodNamed B.named
  have hlocks := B.notSynchronized
  subst hsz
  have hD := hD0.self (sz := s.heap.size)
  generalize hAe : va_A [(ak, .inr (8, [.ref ar, .int 105, .int 0, .int (-1), .int 0, .int 0, .int 0])), (an, .inr (6, [.ref n1, .ref n2, .ref n3, .ref n4, .ref n5, .int 0, .int 0]))] s.heap.size = A at hD hG ⊢
  have hN := hG.1
  have hA : ∀ q : Nat, s.heap.size ≤ q → A q := fun q h => by rw [← hAe]; exact Or.inr h
  have hS : va_S A s.heap s.heap [] := va_S.rf
  have hP : va_P (dC, dI) vwCl [(ak, .inr (8, [.ref ar, .int 105, .int 0, .int (-1), .int 0, .int 0, .int 0])), (an, .inr (6, [.ref n1, .ref n2, .ref n3, .ref n4, .ref n5, .int 0, .int 0]))] s.heap := hP
  have hw0 : (Cond.fieldLink RX4 18 "Tickstation$Processor" "state" "C").before _ s = true := hts _ (List.mem_cons_of_mem _ (List.mem_append_left _ (List.mem_append_left _ (List.mem_append_left _ (List.mem_append_left _ (List.mem_append_left _ (List.mem_of_getElem? (i := 0) rfl)))))))
  have hiX4 : ∀ w ∈ u_ws RX4 TX4 7, w ∈ wsX4_beatsToEvent := fun _ h => List.mem_cons_of_mem _ (List.mem_append_left _ (List.mem_append_left _ (List.mem_append_left _ (List.mem_append_right _ (h)))))
  have hw2 : (Cond.fieldLink RX4 26 "Tickstation$Processor" "sleepDepth" "I").before _ s = true := hts _ (List.mem_cons_of_mem _ (List.mem_append_left _ (List.mem_append_left _ (List.mem_append_left _ (List.mem_append_left _ (List.mem_append_left _ (List.mem_of_getElem? (i := 1) rfl)))))))
  have hw3 : (Cond.constant RX4 96 (1000000000)).before _ s = true := hts _ (List.mem_cons_of_mem _ (List.mem_append_left _ (List.mem_append_left _ (List.mem_append_left _ (List.mem_append_left _ (List.mem_append_left _ (List.mem_of_getElem? (i := 2) rfl)))))))
  have hl := lv_entry ([.ref ak, .ref an]) (n := 3) (Nat.le_of_ble_eq_true rfl)
  rw [lg_entry_eq]
  generalize (lg_sl ([.ref ak, .ref an]) ++ List.replicate (3 - (lg_sl ([.ref ak, .ref an])).length) Slot.unset).toArray = ls at hl ⊢
  have hl : lv_has ls 3 [(0, .ref ak), (1, .ref an)] := hl
  refine lv_aload_n hx hb dX4_beatsToEvent_0 rfl (lv_at hl 1 rfl) ?_
  have hPc := hP.sub (ws' := [(an, .inr (6, [.ref n1, .ref n2, .ref n3, .ref n4, .ref n5, .int 0, .int 0]))]) [1] rfl
  have hDc := hD.sub (ws' := [(an, .inr (6, [.ref n1, .ref n2, .ref n3, .ref n4, .ref n5, .int 0, .int 0]))]) [1] (by decide) rfl
  have hKc := hK.sub (tys' := [(cI, .int)]) [0] rfl
  have hFc := va_free (wc := [(an, .inr (6, [.ref n1, .ref n2, .ref n3, .ref n4, .ref n5, .int 0, .int 0]))]) hD hS hA [1] rfl
  refine va_calli (va_runV (As := []) (rest := []) ⟨hx, hb, hml, hown, hts⟩ (c_X2_first l dC dI g an n1 n2 n3 n4 n5 cI s.heap.size) (cwV 0 hts gX4_beatsToEvent_X2_first rfl rfl rfl (by decide +kernel) ⟨Nat.le_of_ble_eq_true rfl, Nat.le_of_ble_eq_true rfl⟩) ⟨wIn_blind, va_recv hK hP (ci := 6) (q0 := 1) rfl rfl, wIn_at hPc hKc hDc hG hS hFc⟩ rfl rfl hl.1 rfl (lv_room (Nat.le_of_ble_eq_true rfl)) dX4_beatsToEvent_1 ⟨Nat.le_of_ble_eq_true rfl, Nat.le_of_ble_eq_true rfl⟩) hS (fun q _ h => hFc q h) hFc (fun r_1 u t H1 locs ht hvm hw hB hz1 hk1 hS => ?_)
  obtain ⟨hP1, hK1, hD1⟩ := hB
  rw [ht] at hP1
  obtain ⟨hP, hD⟩ := va_join (wr := [(ak, .inr (8, [.ref ar, .int 105, .int 0, .int (-1), .int 0, .int 0, .int 0]))]) (w1 := [(an, .inr (6, [.ref n1, .ref n2, .ref n3, .ref n4, .ref n5, .int 0, .int 0]))]) hP hD [1] [0] rfl rfl (by decide) (by decide) hk1 hFc hP1 hD1
  generalize H1 = H at hP hS ⊢
  have hP : va_P (dC, dI) vwCl [(ak, .inr (8, [.ref ar, .int 105, .int 0, .int (-1), .int 0, .int 0, .int 0])), (an, .inr (6, [.ref n1, .ref n2, .ref n3, .ref n4, .ref n5, .int 0, .int 0]))] H := hP
  have hD : va_D A [(ak, .inr (8, [.ref ar, .int 105, .int 0, .int (-1), .int 0, .int 0, .int 0])), (an, .inr (6, [.ref n1, .ref n2, .ref n3, .ref n4, .ref n5, .int 0, .int 0]))] := hD
  refine lt_ci (y := (-1)) hw ?_
  refine lv_istore_n (lv' := [(2, .int (-1)), (0, .ref ak), (1, .ref an)]) hx hb dX4_beatsToEvent_4 rfl hl (by decide) rfl (fun ls hl => ?_)
  refine lv_aload_n hx hb dX4_beatsToEvent_5 rfl (lv_at hl 1 rfl) ?_
  refine va_get (D := (dC, dI)) (ci := 8) (v := .int 105) (C := RX4) (T := TX4) (N := 7) hx hb hts hiX4 hown hK hP 0 rfl rfl 1 (by decide) (hw0) (fun _ h9 => h9) rfl dX4_beatsToEvent_6 ?_
  refine lv_lookup (off := 43) (tgt := 52) hx hb dX4_beatsToEvent_9 (by decide) (by decide) (by decide) ?_
  refine lv_iload_n hx hb dX4_beatsToEvent_52 rfl (lv_at hl 0 rfl) ?_
  refine lv_iconst (v := (-1)) hx hb dX4_beatsToEvent_53 (by decide) ?_
  refine lv_icmp_ne (tgt := 64) hx hb dX4_beatsToEvent_54 (by decide) (fun c => (c (by decide)).elim) (fun _ => ?_)
  refine lv_aload_n hx hb dX4_beatsToEvent_57 rfl (lv_at hl 1 rfl) ?_
  refine va_get (D := (dC, dI)) (ci := 8) (v := .int 0) (C := RX4) (T := TX4) (N := 7) hx hb hts hiX4 hown hK hP 0 rfl rfl 4 (by decide) (hw2) (fun _ h9 => h9) rfl dX4_beatsToEvent_58 ?_
  refine lv_if_eq (tgt := 68) hx hb dX4_beatsToEvent_61 (by decide) (fun _ => ?_) (fun c => absurd (by decide) c)
  refine lv_ldc (v := 1000000000) hx hb hown hw3 dX4_beatsToEvent_68 ?_
  have hP9 := hP.sub (ws' := [(ak, .inr (8, [.ref ar, .int 105, .int 0, .int (-1), .int 0, .int 0, .int 0])), (an, .inr (6, [.ref n1, .ref n2, .ref n3, .ref n4, .ref n5, .int 0, .int 0]))]) [0, 1] rfl
  have hD9 := hD.sub (ws' := [(ak, .inr (8, [.ref ar, .int 105, .int 0, .int (-1), .int 0, .int 0, .int 0])), (an, .inr (6, [.ref n1, .ref n2, .ref n3, .ref n4, .ref n5, .int 0, .int 0]))]) [0, 1] (by decide) rfl
  have hK9 := hK.sub (tys' := [(cI, .int)]) [0] rfl
  exact W.iret (v := 1000000000) hx hb hr (fun t ht hW => ⟨⟨1000000000, (), rfl, rfl, wOut_at ht hW hP9 hK9 hD9⟩, hS.F ht⟩) hS.2.2 dX4_beatsToEvent_70

set_option maxHeartbeats 4000000 in
set_option maxRecDepth 100000 in
theorem c_X0_beatsToEvent (l : Launch) (dC : Nat → ClassId) (dI : Nat → Nat → Nat) (g : Nat × Nat × Nat) (ah : Nat) (ac : Nat) (ab : Nat) (au : Nat) (t1 : Nat) (t2 : Nat) (t3 : Nat) (t4 : Nat) (t5 : Nat) (t6 : Nat) (t7 : Nat) (an : Nat) (n1 : Nat) (n2 : Nat) (n3 : Nat) (n4 : Nat) (n5 : Nat) (ak : Nat) (ar : Nat) (ad : Nat) (cI : ClassId) (tm : Int32) (sl : Int32) (en : Int64) (sz : Nat) : Met l yX0_beatsToEvent wsX0_beatsToEvent ({ frames := 3, cells := 0, slots := 0, locals := 67 } : Room) (va_Pc [.ref ah] (wIn dC dI g [(ah, .inr (4, [.ref ac, .ref au, .ref ab, .ref an, .ref ak, .ref ad, .int tm, .int sl, .long en])), (au, .inr (10, [.ref t1, .ref t2, .ref t3, .ref t4, .ref t5, .ref t6, .ref t7, .int 0, .int 0])), (an, .inr (6, [.ref n1, .ref n2, .ref n3, .ref n4, .ref n5, .int 0, .int 0])), (ak, .inr (8, [.ref ar, .int 105, .int 0, .int (-1), .int 0, .int 0, .int 0])), (ad, .inr (11, [.int (-1), .int 0, .int 0, .int 0, .int 0, .int 0]))] [(cI, .int)] sz)) (va_Qi (fun (r : Int32) (u : Unit) => r = 1000000000) (fun (u : Unit) (t : State) => wOut dC dI [(ah, .inr (4, [.ref ac, .ref au, .ref ab, .ref an, .ref ak, .ref ad, .int tm, .int sl, .long en])), (au, .inr (10, [.ref t1, .ref t2, .ref t3, .ref t4, .ref t5, .ref t6, .ref t7, .int 0, .int 0])), (an, .inr (6, [.ref n1, .ref n2, .ref n3, .ref n4, .ref n5, .int 0, .int 0])), (ak, .inr (8, [.ref ar, .int 105, .int 0, .int (-1), .int 0, .int 0, .int 0])), (ad, .inr (11, [.int (-1), .int 0, .int 0, .int 0, .int 0, .int 0]))] [(cI, .int)] (va_A [(ah, .inr (4, [.ref ac, .ref au, .ref ab, .ref an, .ref ak, .ref ad, .int tm, .int sl, .long en])), (au, .inr (10, [.ref t1, .ref t2, .ref t3, .ref t4, .ref t5, .ref t6, .ref t7, .int 0, .int 0])), (an, .inr (6, [.ref n1, .ref n2, .ref n3, .ref n4, .ref n5, .int 0, .int 0])), (ak, .inr (8, [.ref ar, .int 105, .int 0, .int (-1), .int 0, .int 0, .int 0])), (ad, .inr (11, [.int (-1), .int 0, .int 0, .int 0, .int 0, .int 0]))] sz) t) (va_A [(ah, .inr (4, [.ref ac, .ref au, .ref ab, .ref an, .ref ak, .ref ad, .int tm, .int sl, .long en])), (au, .inr (10, [.ref t1, .ref t2, .ref t3, .ref t4, .ref t5, .ref t6, .ref t7, .int 0, .int 0])), (an, .inr (6, [.ref n1, .ref n2, .ref n3, .ref n4, .ref n5, .int 0, .int 0])), (ak, .inr (8, [.ref ar, .int 105, .int 0, .int (-1), .int 0, .int 0, .int 0])), (ad, .inr (11, [.int (-1), .int 0, .int 0, .int 0, .int 0, .int 0]))] sz)) 0 0 (va_A [(ah, .inr (4, [.ref ac, .ref au, .ref ab, .ref an, .ref ak, .ref ad, .int tm, .int sl, .long en])), (au, .inr (10, [.ref t1, .ref t2, .ref t3, .ref t4, .ref t5, .ref t6, .ref t7, .int 0, .int 0])), (an, .inr (6, [.ref n1, .ref n2, .ref n3, .ref n4, .ref n5, .int 0, .int 0])), (ak, .inr (8, [.ref ar, .int 105, .int 0, .int (-1), .int 0, .int 0, .int 0])), (ad, .inr (11, [.int (-1), .int 0, .int 0, .int 0, .int 0, .int 0]))] sz) := by
  refine Met.ofW (cc := cX0_beatsToEvent) (maxL := 3) (ret := (some .int)) (by decide) rfl ?_
  intro p e s m args below meth c s₁ B hml hv
  obtain ⟨rfl, hsz, hP, hK, hD0, hG⟩ := hv
  have hx := B.exec
  have hb := B.bytes
  have hr := B.returns
  have hts := atoms_spec (ws := wsX0_beatsToEvent) B.pre
  have hown : s.vm.findClass RX0 = some m.cls := findClass_of_methodNamed B.named
  have hlocks := B.notSynchronized
  subst hsz
  have hD := hD0.self (sz := s.heap.size)
  generalize hAe : va_A [(ah, .inr (4, [.ref ac, .ref au, .ref ab, .ref an, .ref ak, .ref ad, .int tm, .int sl, .long en])), (au, .inr (10, [.ref t1, .ref t2, .ref t3, .ref t4, .ref t5, .ref t6, .ref t7, .int 0, .int 0])), (an, .inr (6, [.ref n1, .ref n2, .ref n3, .ref n4, .ref n5, .int 0, .int 0])), (ak, .inr (8, [.ref ar, .int 105, .int 0, .int (-1), .int 0, .int 0, .int 0])), (ad, .inr (11, [.int (-1), .int 0, .int 0, .int 0, .int 0, .int 0]))] s.heap.size = A at hD hG ⊢
  have hN := hG.1
  have hA : ∀ q : Nat, s.heap.size ≤ q → A q := fun q h => by rw [← hAe]; exact Or.inr h
  have hS : va_S A s.heap s.heap [] := va_S.rf
  have hP : va_P (dC, dI) vwCl [(ah, .inr (4, [.ref ac, .ref au, .ref ab, .ref an, .ref ak, .ref ad, .int tm, .int sl, .long en])), (au, .inr (10, [.ref t1, .ref t2, .ref t3, .ref t4, .ref t5, .ref t6, .ref t7, .int 0, .int 0])), (an, .inr (6, [.ref n1, .ref n2, .ref n3, .ref n4, .ref n5, .int 0, .int 0])), (ak, .inr (8, [.ref ar, .int 105, .int 0, .int (-1), .int 0, .int 0, .int 0])), (ad, .inr (11, [.int (-1), .int 0, .int 0, .int 0, .int 0, .int 0]))] s.heap := hP
  have hw0 : (Cond.fieldLink RX0 42 "Tickstation$Chip" "processor" "LTickstation$Processor;").before _ s = true := hts _ (List.mem_cons_of_mem _ (List.mem_append_left _ (List.mem_append_left _ (List.mem_append_left _ (List.mem_append_left _ (List.mem_append_left _ (List.mem_append_left _ (List.mem_append_left _ (List.mem_append_left _ (List.mem_append_left _ (List.mem_of_getElem? (i := 0) rfl)))))))))))
  have hiX0 : ∀ w ∈ u_ws RX0 TX0 9, w ∈ wsX0_beatsToEvent := fun _ h => List.mem_cons_of_mem _ (List.mem_append_left _ (List.mem_append_left _ (List.mem_append_left _ (List.mem_append_left _ (List.mem_append_left _ (List.mem_append_left _ (List.mem_append_left _ (List.mem_append_right _ (h)))))))))
  have hw2 : (Cond.fieldLink RX0 35 "Tickstation$Chip" "lines" "LTickstation$Lines;").before _ s = true := hts _ (List.mem_cons_of_mem _ (List.mem_append_left _ (List.mem_append_left _ (List.mem_append_left _ (List.mem_append_left _ (List.mem_append_left _ (List.mem_append_left _ (List.mem_append_left _ (List.mem_append_left _ (List.mem_append_left _ (List.mem_of_getElem? (i := 1) rfl)))))))))))
  have hw3 : (Cond.fieldLink RX0 21 "Tickstation$Chip" "timers" "LTickstation$Timers;").before _ s = true := hts _ (List.mem_cons_of_mem _ (List.mem_append_left _ (List.mem_append_left _ (List.mem_append_left _ (List.mem_append_left _ (List.mem_append_left _ (List.mem_append_left _ (List.mem_append_left _ (List.mem_append_left _ (List.mem_append_left _ (List.mem_of_getElem? (i := 2) rfl)))))))))))
  have hw4 : (Cond.fieldLink RX0 12 "Tickstation$Chip" "clocks" "LTickstation$Clocks;").before _ s = true := hts _ (List.mem_cons_of_mem _ (List.mem_append_left _ (List.mem_append_left _ (List.mem_append_left _ (List.mem_append_left _ (List.mem_append_left _ (List.mem_append_left _ (List.mem_append_left _ (List.mem_append_left _ (List.mem_append_left _ (List.mem_of_getElem? (i := 3) rfl)))))))))))
  have hw5 : (Cond.methodLink RX0 64 Lib.Math.min.name).before _ s = true := hts _ (List.mem_cons_of_mem _ (List.mem_append_left _ (List.mem_append_left _ (List.mem_append_left _ (List.mem_append_left _ (List.mem_append_left _ (List.mem_append_left _ (List.mem_append_left _ (List.mem_append_left _ (List.mem_append_left _ (List.mem_of_getElem? (i := 4) rfl)))))))))))
  have hw6 : (Cond.static Lib.Math.min.name).before _ s = true := hts _ (List.mem_cons_of_mem _ (List.mem_append_left _ (List.mem_append_left _ (List.mem_append_left _ (List.mem_append_left _ (List.mem_append_left _ (List.mem_append_left _ (List.mem_append_left _ (List.mem_append_left _ (List.mem_append_left _ (List.mem_of_getElem? (i := 5) rfl)))))))))))
  have hw7 : (Cond.initialized "java/lang/Math").before _ s = true := hts _ (List.mem_cons_of_mem _ (List.mem_append_left _ (List.mem_append_left _ (List.mem_append_left _ (List.mem_append_left _ (List.mem_append_left _ (List.mem_append_left _ (List.mem_append_left _ (List.mem_append_left _ (List.mem_append_left _ (List.mem_of_getElem? (i := 6) rfl)))))))))))
  have hw8 : (Cond.code Lib.Math.min.name Lib.Math.min.code 2 (some .int)).before _ s = true := hts _ (List.mem_cons_of_mem _ (List.mem_append_left _ (List.mem_append_left _ (List.mem_append_left _ (List.mem_append_left _ (List.mem_append_left _ (List.mem_append_left _ (List.mem_append_left _ (List.mem_append_left _ (List.mem_append_left _ (List.mem_of_getElem? (i := 7) rfl)))))))))))
  have hw9 : (Cond.fieldLink RX0 49 "Tickstation$Chip" "watchdog" "LTickstation$Watchdog;").before _ s = true := hts _ (List.mem_cons_of_mem _ (List.mem_append_left _ (List.mem_append_left _ (List.mem_append_left _ (List.mem_append_left _ (List.mem_append_left _ (List.mem_append_left _ (List.mem_append_left _ (List.mem_append_left _ (List.mem_append_left _ (List.mem_of_getElem? (i := 8) rfl)))))))))))
  have hl := lv_entry ([.ref ah]) (n := 3) (Nat.le_of_ble_eq_true rfl)
  rw [lg_entry_eq]
  generalize (lg_sl ([.ref ah]) ++ List.replicate (3 - (lg_sl ([.ref ah])).length) Slot.unset).toArray = ls at hl ⊢
  have hl : lv_has ls 3 [(0, .ref ah)] := hl
  refine lv_aload_n hx hb dX0_beatsToEvent_0 rfl (lv_at hl 0 rfl) ?_
  refine va_get (D := (dC, dI)) (ci := 4) (v := .ref ak) (C := RX0) (T := TX0) (N := 9) hx hb hts hiX0 hown hK hP 0 rfl rfl 4 (by decide) (hw0) (fun _ h9 => h9) rfl dX0_beatsToEvent_1 ?_
  have hPc := hP.sub (ws' := [(ak, .inr (8, [.ref ar, .int 105, .int 0, .int (-1), .int 0, .int 0, .int 0]))]) [3] rfl
  have hDc := hD.sub (ws' := [(ak, .inr (8, [.ref ar, .int 105, .int 0, .int (-1), .int 0, .int 0, .int 0]))]) [3] (by decide) rfl
  have hKc := hK.sub (tys' := [(cI, .int)]) [0] rfl
  have hFc := va_free (wc := [(ak, .inr (8, [.ref ar, .int 105, .int 0, .int (-1), .int 0, .int 0, .int 0]))]) hD hS hA [3] rfl
  refine va_calli (va_runV (As := []) (rest := []) ⟨hx, hb, hml, hown, hts⟩ (c_X4_isDeepAsleep l dC dI g ak ar cI s.heap.size) (cwV 0 hts gX0_beatsToEvent_X4_isDeepAsleep rfl rfl rfl (by decide +kernel) ⟨Nat.le_of_ble_eq_true rfl, Nat.le_of_ble_eq_true rfl⟩) ⟨wIn_blind, va_recv hK hP (ci := 8) (q0 := 3) rfl rfl, wIn_at hPc hKc hDc hG hS hFc⟩ rfl rfl hl.1 rfl (lv_room (Nat.le_of_ble_eq_true rfl)) dX0_beatsToEvent_4 ⟨Nat.le_of_ble_eq_true rfl, Nat.le_of_ble_eq_true rfl⟩) hS (fun q _ h => hFc q h) hFc (fun r_1 u t H1 locs ht hvm hw hB hz1 hk1 hS => ?_)
  obtain ⟨hP1, hK1, hD1⟩ := hB
  rw [ht] at hP1
  obtain ⟨hP, hD⟩ := va_join (wr := [(ah, .inr (4, [.ref ac, .ref au, .ref ab, .ref an, .ref ak, .ref ad, .int tm, .int sl, .long en])), (au, .inr (10, [.ref t1, .ref t2, .ref t3, .ref t4, .ref t5, .ref t6, .ref t7, .int 0, .int 0])), (an, .inr (6, [.ref n1, .ref n2, .ref n3, .ref n4, .ref n5, .int 0, .int 0])), (ad, .inr (11, [.int (-1), .int 0, .int 0, .int 0, .int 0, .int 0]))]) (w1 := [(ak, .inr (8, [.ref ar, .int 105, .int 0, .int (-1), .int 0, .int 0, .int 0]))]) hP hD [3] [0, 1, 2, 4] rfl rfl (by decide) (by decide) hk1 hFc hP1 hD1
  generalize H1 = H at hP hS ⊢
  have hP : va_P (dC, dI) vwCl [(ah, .inr (4, [.ref ac, .ref au, .ref ab, .ref an, .ref ak, .ref ad, .int tm, .int sl, .long en])), (au, .inr (10, [.ref t1, .ref t2, .ref t3, .ref t4, .ref t5, .ref t6, .ref t7, .int 0, .int 0])), (an, .inr (6, [.ref n1, .ref n2, .ref n3, .ref n4, .ref n5, .int 0, .int 0])), (ad, .inr (11, [.int (-1), .int 0, .int 0, .int 0, .int 0, .int 0])), (ak, .inr (8, [.ref ar, .int 105, .int 0, .int (-1), .int 0, .int 0, .int 0]))] H := hP
  have hD : va_D A [(ah, .inr (4, [.ref ac, .ref au, .ref ab, .ref an, .ref ak, .ref ad, .int tm, .int sl, .long en])), (au, .inr (10, [.ref t1, .ref t2, .ref t3, .ref t4, .ref t5, .ref t6, .ref t7, .int 0, .int 0])), (an, .inr (6, [.ref n1, .ref n2, .ref n3, .ref n4, .ref n5, .int 0, .int 0])), (ad, .inr (11, [.int (-1), .int 0, .int 0, .int 0, .int 0, .int 0])), (ak, .inr (8, [.ref ar, .int 105, .int 0, .int (-1), .int 0, .int 0, .int 0]))] := hD
  refine lt_ci (y := 0) hw ?_
  refine lv_istore_n (lv' := [(1, .int 0), (0, .ref ah)]) hx hb dX0_beatsToEvent_7 rfl hl (by decide) rfl (fun ls hl => ?_)
  refine lv_aload_n hx hb dX0_beatsToEvent_8 rfl (lv_at hl 1 rfl) ?_
  refine va_get (D := (dC, dI)) (ci := 4) (v := .ref ak) (C := RX0) (T := TX0) (N := 9) hx hb hts hiX0 hown hK hP 0 rfl rfl 4 (by decide) (hw0) (fun _ h9 => h9) rfl dX0_beatsToEvent_9 ?_
  refine lv_aload_n hx hb dX0_beatsToEvent_12 rfl (lv_at hl 1 rfl) ?_
  refine va_get (D := (dC, dI)) (ci := 4) (v := .ref an) (C := RX0) (T := TX0) (N := 9) hx hb hts hiX0 hown hK hP 0 rfl rfl 3 (by decide) (hw2) (fun _ h9 => h9) rfl dX0_beatsToEvent_13 ?_
  have hPc := hP.sub (ws' := [(ak, .inr (8, [.ref ar, .int 105, .int 0, .int (-1), .int 0, .int 0, .int 0])), (an, .inr (6, [.ref n1, .ref n2, .ref n3, .ref n4, .ref n5, .int 0, .int 0]))]) [4, 2] rfl
  have hDc := hD.sub (ws' := [(ak, .inr (8, [.ref ar, .int 105, .int 0, .int (-1), .int 0, .int 0, .int 0])), (an, .inr (6, [.ref n1, .ref n2, .ref n3, .ref n4, .ref n5, .int 0, .int 0]))]) [4, 2] (by decide) rfl
  have hKc := hK.sub (tys' := [(cI, .int)]) [0] rfl
  have hFc := va_free (wc := [(ak, .inr (8, [.ref ar, .int 105, .int 0, .int (-1), .int 0, .int 0, .int 0])), (an, .inr (6, [.ref n1, .ref n2, .ref n3, .ref n4, .ref n5, .int 0, .int 0]))]) hD hS hA [4, 2] rfl
  refine va_calli (va_runV (As := [.ref an]) (rest := []) ⟨hx, hb, hml, hown, hts⟩ (c_X4_beatsToEvent l dC dI g an n1 n2 n3 n4 n5 ak ar cI H.size) (cwV 1 hts gX0_beatsToEvent_X4_beatsToEvent rfl rfl rfl (by decide +kernel) ⟨Nat.le_of_ble_eq_true rfl, Nat.le_of_ble_eq_true rfl⟩) ⟨wIn_blind, va_recv hK hP (ci := 8) (q0 := 4) rfl rfl, wIn_at hPc hKc hDc hG hS hFc⟩ rfl rfl hl.1 rfl (lv_room (Nat.le_of_ble_eq_true rfl)) dX0_beatsToEvent_16 ⟨Nat.le_of_ble_eq_true rfl, Nat.le_of_ble_eq_true rfl⟩) hS (fun q _ h => hFc q h) hFc (fun r_2 u t H1 locs ht hvm hw hB hz1 hk1 hS => ?_)
  obtain ⟨hP1, hK1, hD1⟩ := hB
  rw [ht] at hP1
  obtain ⟨hP, hD⟩ := va_join (wr := [(ah, .inr (4, [.ref ac, .ref au, .ref ab, .ref an, .ref ak, .ref ad, .int tm, .int sl, .long en])), (au, .inr (10, [.ref t1, .ref t2, .ref t3, .ref t4, .ref t5, .ref t6, .ref t7, .int 0, .int 0])), (ad, .inr (11, [.int (-1), .int 0, .int 0, .int 0, .int 0, .int 0]))]) (w1 := [(ak, .inr (8, [.ref ar, .int 105, .int 0, .int (-1), .int 0, .int 0, .int 0])), (an, .inr (6, [.ref n1, .ref n2, .ref n3, .ref n4, .ref n5, .int 0, .int 0]))]) hP hD [4, 2] [0, 1, 3] rfl rfl (by decide) (by decide) hk1 hFc hP1 hD1
  generalize H1 = H at hP hS ⊢
  have hP : va_P (dC, dI) vwCl [(ah, .inr (4, [.ref ac, .ref au, .ref ab, .ref an, .ref ak, .ref ad, .int tm, .int sl, .long en])), (au, .inr (10, [.ref t1, .ref t2, .ref t3, .ref t4, .ref t5, .ref t6, .ref t7, .int 0, .int 0])), (ad, .inr (11, [.int (-1), .int 0, .int 0, .int 0, .int 0, .int 0])), (ak, .inr (8, [.ref ar, .int 105, .int 0, .int (-1), .int 0, .int 0, .int 0])), (an, .inr (6, [.ref n1, .ref n2, .ref n3, .ref n4, .ref n5, .int 0, .int 0]))] H := hP
  have hD : va_D A [(ah, .inr (4, [.ref ac, .ref au, .ref ab, .ref an, .ref ak, .ref ad, .int tm, .int sl, .long en])), (au, .inr (10, [.ref t1, .ref t2, .ref t3, .ref t4, .ref t5, .ref t6, .ref t7, .int 0, .int 0])), (ad, .inr (11, [.int (-1), .int 0, .int 0, .int 0, .int 0, .int 0])), (ak, .inr (8, [.ref ar, .int 105, .int 0, .int (-1), .int 0, .int 0, .int 0])), (an, .inr (6, [.ref n1, .ref n2, .ref n3, .ref n4, .ref n5, .int 0, .int 0]))] := hD
  refine lt_ci (y := 1000000000) hw ?_
  refine lv_istore_n (lv' := [(2, .int 1000000000), (1, .int 0), (0, .ref ah)]) hx hb dX0_beatsToEvent_19 rfl hl (by decide) rfl (fun ls hl => ?_)
  refine lv_iload_n hx hb dX0_beatsToEvent_20 rfl (lv_at hl 0 rfl) ?_
  refine lv_aload_n hx hb dX0_beatsToEvent_21 rfl (lv_at hl 2 rfl) ?_
  refine va_get (D := (dC, dI)) (ci := 4) (v := .ref au) (C := RX0) (T := TX0) (N := 9) hx hb hts hiX0 hown hK hP 0 rfl rfl 1 (by decide) (hw3) (fun _ h9 => h9) rfl dX0_beatsToEvent_22 ?_
  refine lv_aload_n hx hb dX0_beatsToEvent_25 rfl (lv_at hl 2 rfl) ?_
  refine va_get (D := (dC, dI)) (ci := 4) (v := .ref ac) (C := RX0) (T := TX0) (N := 9) hx hb hts hiX0 hown hK hP 0 rfl rfl 0 (by decide) (hw4) (fun _ h9 => h9) rfl dX0_beatsToEvent_26 ?_
  refine lv_iload_n hx hb dX0_beatsToEvent_29 rfl (lv_at hl 1 rfl) ?_
  have hPc := hP.sub (ws' := [(au, .inr (10, [.ref t1, .ref t2, .ref t3, .ref t4, .ref t5, .ref t6, .ref t7, .int 0, .int 0]))]) [1] rfl
  have hDc := hD.sub (ws' := [(au, .inr (10, [.ref t1, .ref t2, .ref t3, .ref t4, .ref t5, .ref t6, .ref t7, .int 0, .int 0]))]) [1] (by decide) rfl
  have hKc := hK.sub (tys' := [(cI, .int)]) [0] rfl
  have hFc := va_free (wc := [(au, .inr (10, [.ref t1, .ref t2, .ref t3, .ref t4, .ref t5, .ref t6, .ref t7, .int 0, .int 0]))]) hD hS hA [1] rfl
  refine va_calli (va_runV (As := [.ref ac, .int 0]) (rest := [.int 1000000000]) ⟨hx, hb, hml, hown, hts⟩ (c_X6_beatsToEvent l dC dI g au t1 t2 t3 t4 t5 t6 t7 ac cI H.size) (cwV 2 hts gX0_beatsToEvent_X6_beatsToEvent rfl rfl rfl (by decide +kernel) ⟨Nat.le_of_ble_eq_true rfl, Nat.le_of_ble_eq_true rfl⟩) ⟨wIn_blind, va_recv hK hP (ci := 10) (q0 := 1) rfl rfl, wIn_at hPc hKc hDc hG hS hFc⟩ rfl rfl hl.1 rfl (lv_room (Nat.le_of_ble_eq_true rfl)) dX0_beatsToEvent_30 ⟨Nat.le_of_ble_eq_true rfl, Nat.le_of_ble_eq_true rfl⟩) hS (fun q _ h => hFc q h) hFc (fun r_3 u t H1 locs ht hvm hw hB hz1 hk1 hS => ?_)
  obtain ⟨hP1, hK1, hD1⟩ := hB
  rw [ht] at hP1
  obtain ⟨hP, hD⟩ := va_join (wr := [(ah, .inr (4, [.ref ac, .ref au, .ref ab, .ref an, .ref ak, .ref ad, .int tm, .int sl, .long en])), (ad, .inr (11, [.int (-1), .int 0, .int 0, .int 0, .int 0, .int 0])), (ak, .inr (8, [.ref ar, .int 105, .int 0, .int (-1), .int 0, .int 0, .int 0])), (an, .inr (6, [.ref n1, .ref n2, .ref n3, .ref n4, .ref n5, .int 0, .int 0]))]) (w1 := [(au, .inr (10, [.ref t1, .ref t2, .ref t3, .ref t4, .ref t5, .ref t6, .ref t7, .int 0, .int 0]))]) hP hD [1] [0, 2, 3, 4] rfl rfl (by decide) (by decide) hk1 hFc hP1 hD1
  generalize H1 = H at hP hS ⊢
  have hP : va_P (dC, dI) vwCl [(ah, .inr (4, [.ref ac, .ref au, .ref ab, .ref an, .ref ak, .ref ad, .int tm, .int sl, .long en])), (ad, .inr (11, [.int (-1), .int 0, .int 0, .int 0, .int 0, .int 0])), (ak, .inr (8, [.ref ar, .int 105, .int 0, .int (-1), .int 0, .int 0, .int 0])), (an, .inr (6, [.ref n1, .ref n2, .ref n3, .ref n4, .ref n5, .int 0, .int 0])), (au, .inr (10, [.ref t1, .ref t2, .ref t3, .ref t4, .ref t5, .ref t6, .ref t7, .int 0, .int 0]))] H := hP
  have hD : va_D A [(ah, .inr (4, [.ref ac, .ref au, .ref ab, .ref an, .ref ak, .ref ad, .int tm, .int sl, .long en])), (ad, .inr (11, [.int (-1), .int 0, .int 0, .int 0, .int 0, .int 0])), (ak, .inr (8, [.ref ar, .int 105, .int 0, .int (-1), .int 0, .int 0, .int 0])), (an, .inr (6, [.ref n1, .ref n2, .ref n3, .ref n4, .ref n5, .int 0, .int 0])), (au, .inr (10, [.ref t1, .ref t2, .ref t3, .ref t4, .ref t5, .ref t6, .ref t7, .int 0, .int 0]))] := hD
  refine lt_ci (y := 1000000000) hw ?_
  refine va_mmin hx hb (by rw [hml]; exact hl.1.symm) hown hw5 hw6 hw7 hw8 (Nat.le_of_ble_eq_true rfl) (Nat.le_of_ble_eq_true rfl) (Nat.le_of_ble_eq_true rfl) (Nat.le_of_ble_eq_true rfl) dX0_beatsToEvent_33 ?_
  refine lt_ci (y := 1000000000) (by first | rfl | decide) ?_
  refine lv_istore_n (lv' := [(2, .int 1000000000), (1, .int 0), (0, .ref ah)]) hx hb dX0_beatsToEvent_36 rfl hl (by decide) rfl (fun ls hl => ?_)
  refine lv_iload_n hx hb dX0_beatsToEvent_37 rfl (lv_at hl 0 rfl) ?_
  refine lv_aload_n hx hb dX0_beatsToEvent_38 rfl (lv_at hl 2 rfl) ?_
  refine va_get (D := (dC, dI)) (ci := 4) (v := .ref ad) (C := RX0) (T := TX0) (N := 9) hx hb hts hiX0 hown hK hP 0 rfl rfl 5 (by decide) (hw9) (fun _ h9 => h9) rfl dX0_beatsToEvent_39 ?_
  refine lv_aload_n hx hb dX0_beatsToEvent_42 rfl (lv_at hl 2 rfl) ?_
  refine va_get (D := (dC, dI)) (ci := 4) (v := .ref ac) (C := RX0) (T := TX0) (N := 9) hx hb hts hiX0 hown hK hP 0 rfl rfl 0 (by decide) (hw4) (fun _ h9 => h9) rfl dX0_beatsToEvent_43 ?_
  refine lv_iload_n hx hb dX0_beatsToEvent_46 rfl (lv_at hl 1 rfl) ?_
  have hPc := hP.sub (ws' := [(ad, .inr (11, [.int (-1), .int 0, .int 0, .int 0, .int 0, .int 0]))]) [1] rfl
  have hDc := hD.sub (ws' := [(ad, .inr (11, [.int (-1), .int 0, .int 0, .int 0, .int 0, .int 0]))]) [1] (by decide) rfl
  have hKc := hK.sub (tys' := [(cI, .int)]) [0] rfl
  have hFc := va_free (wc := [(ad, .inr (11, [.int (-1), .int 0, .int 0, .int 0, .int 0, .int 0]))]) hD hS hA [1] rfl
  refine va_calli (va_runV (As := [.ref ac, .int 0]) (rest := [.int 1000000000]) ⟨hx, hb, hml, hown, hts⟩ (c_X7_beatsToEvent l dC dI g ad ac cI H.size) (cwV 2 hts gX0_beatsToEvent_X7_beatsToEvent rfl rfl rfl (by decide +kernel) ⟨Nat.le_of_ble_eq_true rfl, Nat.le_of_ble_eq_true rfl⟩) ⟨wIn_blind, va_recv hK hP (ci := 11) (q0 := 1) rfl rfl, wIn_at hPc hKc hDc hG hS hFc⟩ rfl rfl hl.1 rfl (lv_room (Nat.le_of_ble_eq_true rfl)) dX0_beatsToEvent_47 ⟨Nat.le_of_ble_eq_true rfl, Nat.le_of_ble_eq_true rfl⟩) hS (fun q _ h => hFc q h) hFc (fun r_4 u t H1 locs ht hvm hw hB hz1 hk1 hS => ?_)
  obtain ⟨hP1, hK1, hD1⟩ := hB
  rw [ht] at hP1
  obtain ⟨hP, hD⟩ := va_join (wr := [(ah, .inr (4, [.ref ac, .ref au, .ref ab, .ref an, .ref ak, .ref ad, .int tm, .int sl, .long en])), (ak, .inr (8, [.ref ar, .int 105, .int 0, .int (-1), .int 0, .int 0, .int 0])), (an, .inr (6, [.ref n1, .ref n2, .ref n3, .ref n4, .ref n5, .int 0, .int 0])), (au, .inr (10, [.ref t1, .ref t2, .ref t3, .ref t4, .ref t5, .ref t6, .ref t7, .int 0, .int 0]))]) (w1 := [(ad, .inr (11, [.int (-1), .int 0, .int 0, .int 0, .int 0, .int 0]))]) hP hD [1] [0, 2, 3, 4] rfl rfl (by decide) (by decide) hk1 hFc hP1 hD1
  generalize H1 = H at hP hS ⊢
  have hP : va_P (dC, dI) vwCl [(ah, .inr (4, [.ref ac, .ref au, .ref ab, .ref an, .ref ak, .ref ad, .int tm, .int sl, .long en])), (ak, .inr (8, [.ref ar, .int 105, .int 0, .int (-1), .int 0, .int 0, .int 0])), (an, .inr (6, [.ref n1, .ref n2, .ref n3, .ref n4, .ref n5, .int 0, .int 0])), (au, .inr (10, [.ref t1, .ref t2, .ref t3, .ref t4, .ref t5, .ref t6, .ref t7, .int 0, .int 0])), (ad, .inr (11, [.int (-1), .int 0, .int 0, .int 0, .int 0, .int 0]))] H := hP
  have hD : va_D A [(ah, .inr (4, [.ref ac, .ref au, .ref ab, .ref an, .ref ak, .ref ad, .int tm, .int sl, .long en])), (ak, .inr (8, [.ref ar, .int 105, .int 0, .int (-1), .int 0, .int 0, .int 0])), (an, .inr (6, [.ref n1, .ref n2, .ref n3, .ref n4, .ref n5, .int 0, .int 0])), (au, .inr (10, [.ref t1, .ref t2, .ref t3, .ref t4, .ref t5, .ref t6, .ref t7, .int 0, .int 0])), (ad, .inr (11, [.int (-1), .int 0, .int 0, .int 0, .int 0, .int 0]))] := hD
  refine lt_ci (y := 1000000000) hw ?_
  refine va_mmin hx hb (by rw [hml]; exact hl.1.symm) hown hw5 hw6 hw7 hw8 (Nat.le_of_ble_eq_true rfl) (Nat.le_of_ble_eq_true rfl) (Nat.le_of_ble_eq_true rfl) (Nat.le_of_ble_eq_true rfl) dX0_beatsToEvent_50 ?_
  refine lt_ci (y := 1000000000) (by first | rfl | decide) ?_
  have hP9 := hP.sub (ws' := [(ah, .inr (4, [.ref ac, .ref au, .ref ab, .ref an, .ref ak, .ref ad, .int tm, .int sl, .long en])), (au, .inr (10, [.ref t1, .ref t2, .ref t3, .ref t4, .ref t5, .ref t6, .ref t7, .int 0, .int 0])), (an, .inr (6, [.ref n1, .ref n2, .ref n3, .ref n4, .ref n5, .int 0, .int 0])), (ak, .inr (8, [.ref ar, .int 105, .int 0, .int (-1), .int 0, .int 0, .int 0])), (ad, .inr (11, [.int (-1), .int 0, .int 0, .int 0, .int 0, .int 0]))]) [0, 3, 2, 1, 4] rfl
  have hD9 := hD.sub (ws' := [(ah, .inr (4, [.ref ac, .ref au, .ref ab, .ref an, .ref ak, .ref ad, .int tm, .int sl, .long en])), (au, .inr (10, [.ref t1, .ref t2, .ref t3, .ref t4, .ref t5, .ref t6, .ref t7, .int 0, .int 0])), (an, .inr (6, [.ref n1, .ref n2, .ref n3, .ref n4, .ref n5, .int 0, .int 0])), (ak, .inr (8, [.ref ar, .int 105, .int 0, .int (-1), .int 0, .int 0, .int 0])), (ad, .inr (11, [.int (-1), .int 0, .int 0, .int 0, .int 0, .int 0]))]) [0, 3, 2, 1, 4] (by decide) rfl
  have hK9 := hK.sub (tys' := [(cI, .int)]) [0] rfl
  exact W.iret (v := 1000000000) hx hb hr (fun t ht hW => ⟨⟨1000000000, (), rfl, rfl, wOut_at ht hW hP9 hK9 hD9⟩, hS.F ht⟩) hS.2.2 dX0_beatsToEvent_53

set_option maxHeartbeats 4000000 in
set_option maxRecDepth 100000 in
theorem c_X1_skip (l : Launch) (dC : Nat → ClassId) (dI : Nat → Nat → Nat) (g : Nat × Nat × Nat) (ac : Nat) (c1 : Nat) (c2 : Nat) (c3 : Nat) (c4 : Nat) (c5 : Nat) (cI : ClassId) (tk : Int32) (fr : Int32) (z : Int32) (sz : Nat) (hn : ¬ z < 1) : Met l yX1_skip wsX1_skip ({ frames := 1, cells := 0, slots := 0, locals := 24 } : Room) (va_Pc [.ref ac, .int z, .int 0] (wIn dC dI g [(ac, .inr (5, [.ref c1, .ref c2, .ref c3, .ref c4, .ref c5, .int 15])), (c1, .inl (cI, 4, .inl (cn 0))), (c2, .inl (cI, 4, .inl (cn 1))), (c3, .inl (cI, 4, .inl (cn 0))), (c4, .inl (cI, 4, .inl (cn tk))), (c5, .inl (cI, 4, .inl (cn fr)))] [(cI, .int)] sz)) (va_Qv (fun (u : Unit) => True) (fun (u : Unit) (t : State) => wOut dC dI [(ac, .inr (5, [.ref c1, .ref c2, .ref c3, .ref c4, .ref c5, .int 15])), (c1, .inl (cI, 4, .inl (cn 0))), (c2, .inl (cI, 4, .inl (cn 1))), (c3, .inl (cI, 4, .inl (cn 0))), (c4, .inl (cI, 4, .inl (cn (tk + z)))), (c5, .inl (cI, 4, .inl (cn z)))] [(cI, .int)] (va_A [(ac, .inr (5, [.ref c1, .ref c2, .ref c3, .ref c4, .ref c5, .int 15])), (c1, .inl (cI, 4, .inl (cn 0))), (c2, .inl (cI, 4, .inl (cn 1))), (c3, .inl (cI, 4, .inl (cn 0))), (c4, .inl (cI, 4, .inl (cn tk))), (c5, .inl (cI, 4, .inl (cn fr)))] sz) t) (va_A [(ac, .inr (5, [.ref c1, .ref c2, .ref c3, .ref c4, .ref c5, .int 15])), (c1, .inl (cI, 4, .inl (cn 0))), (c2, .inl (cI, 4, .inl (cn 1))), (c3, .inl (cI, 4, .inl (cn 0))), (c4, .inl (cI, 4, .inl (cn tk))), (c5, .inl (cI, 4, .inl (cn fr)))] sz)) 0 0 (va_A [(ac, .inr (5, [.ref c1, .ref c2, .ref c3, .ref c4, .ref c5, .int 15])), (c1, .inl (cI, 4, .inl (cn 0))), (c2, .inl (cI, 4, .inl (cn 1))), (c3, .inl (cI, 4, .inl (cn 0))), (c4, .inl (cI, 4, .inl (cn tk))), (c5, .inl (cI, 4, .inl (cn fr)))] sz) := by
  refine Met.ofW (cc := cX1_skip) (maxL := 7) (ret := none) (by decide) rfl ?_
  intro p e s m args below meth c s₁ B hml hv
  obtain ⟨rfl, hsz, hP, hK, hD0, hG⟩ := hv
  have hx := B.exec
  have hb := B.bytes
  have hr := B.returns
  have hts := atoms_spec (ws := wsX1_skip) B.pre
  have hown : s.vm.findClass RX1 = some m.cls := findClass_of_methodNamed B.named
  have hlocks := B.notSynchronized
  subst hsz
  have hD := hD0.self (sz := s.heap.size)
  generalize hAe : va_A [(ac, .inr (5, [.ref c1, .ref c2, .ref c3, .ref c4, .ref c5, .int 15])), (c1, .inl (cI, 4, .inl (cn 0))), (c2, .inl (cI, 4, .inl (cn 1))), (c3, .inl (cI, 4, .inl (cn 0))), (c4, .inl (cI, 4, .inl (cn tk))), (c5, .inl (cI, 4, .inl (cn fr)))] s.heap.size = A at hD hG ⊢
  have hN := hG.1
  have hA : ∀ q : Nat, s.heap.size ≤ q → A q := fun q h => by rw [← hAe]; exact Or.inr h
  have hS : va_S A s.heap s.heap [] := va_S.rf
  have hP : va_P (dC, dI) vwCl [(ac, .inr (5, [.ref c1, .ref c2, .ref c3, .ref c4, .ref c5, .int 15])), (c1, .inl (cI, 4, .inl (cn 0))), (c2, .inl (cI, 4, .inl (cn 1))), (c3, .inl (cI, 4, .inl (cn 0))), (c4, .inl (cI, 4, .inl (cn tk))), (c5, .inl (cI, 4, .inl (cn fr)))] s.heap := hP
  have hw0 : (Cond.fieldLink RX1 24 "Tickstation$Clocks" "fresh" "[I").before _ s = true := hts _ (List.mem_cons_of_mem _ (List.mem_append_left _ (List.mem_append_left _ (List.mem_append_left _ (List.mem_of_getElem? (i := 0) rfl)))))
  have hiX1 : ∀ w ∈ u_ws RX1 TX1 6, w ∈ wsX1_skip := fun _ h => List.mem_cons_of_mem _ (List.mem_append_left _ (List.mem_append_left _ (List.mem_append_right _ (h))))
  have hw2 : (Cond.fieldLink RX1 21 "Tickstation$Clocks" "ticks" "[I").before _ s = true := hts _ (List.mem_cons_of_mem _ (List.mem_append_left _ (List.mem_append_left _ (List.mem_append_left _ (List.mem_of_getElem? (i := 1) rfl)))))
  have hw3 : (Cond.fieldLink RX1 33 "Tickstation$Clocks" "on" "I").before _ s = true := hts _ (List.mem_cons_of_mem _ (List.mem_append_left _ (List.mem_append_left _ (List.mem_append_left _ (List.mem_of_getElem? (i := 2) rfl)))))
  have hw4 : (Cond.initialized RX8).before _ s = true := hts _ (List.mem_cons_of_mem _ (List.mem_append_left _ (List.mem_append_left _ (List.mem_append_left _ (List.mem_of_getElem? (i := 11) rfl)))))
  have hw5 : (Cond.static yX8_hasBit).before _ s = true := hts _ (List.mem_cons_of_mem _ (List.mem_append_left _ (List.mem_append_left _ (List.mem_append_left _ (List.mem_of_getElem? (i := 10) rfl)))))
  have hw6 : (Cond.fieldLink RX1 9 "Tickstation$Clocks" "source" "[I").before _ s = true := hts _ (List.mem_cons_of_mem _ (List.mem_append_left _ (List.mem_append_left _ (List.mem_append_left _ (List.mem_of_getElem? (i := 3) rfl)))))
  have hw7 : (Cond.fieldLink RX1 15 "Tickstation$Clocks" "divider" "[I").before _ s = true := hts _ (List.mem_cons_of_mem _ (List.mem_append_left _ (List.mem_append_left _ (List.mem_append_left _ (List.mem_of_getElem? (i := 4) rfl)))))
  have hw8 : (Cond.fieldLink RX1 18 "Tickstation$Clocks" "count" "[I").before _ s = true := hts _ (List.mem_cons_of_mem _ (List.mem_append_left _ (List.mem_append_left _ (List.mem_append_left _ (List.mem_of_getElem? (i := 5) rfl)))))
  have hw9 : (Cond.methodLink RX1 45 Lib.Math.max.name).before _ s = true := hts _ (List.mem_cons_of_mem _ (List.mem_append_left _ (List.mem_append_left _ (List.mem_append_left _ (List.mem_of_getElem? (i := 6) rfl)))))
  have hw10 : (Cond.static Lib.Math.max.name).before _ s = true := hts _ (List.mem_cons_of_mem _ (List.mem_append_left _ (List.mem_append_left _ (List.mem_append_left _ (List.mem_of_getElem? (i := 7) rfl)))))
  have hw11 : (Cond.initialized "java/lang/Math").before _ s = true := hts _ (List.mem_cons_of_mem _ (List.mem_append_left _ (List.mem_append_left _ (List.mem_append_left _ (List.mem_of_getElem? (i := 8) rfl)))))
  have hw12 : (Cond.code Lib.Math.max.name Lib.Math.max.code 2 (some .int)).before _ s = true := hts _ (List.mem_cons_of_mem _ (List.mem_append_left _ (List.mem_append_left _ (List.mem_append_left _ (List.mem_of_getElem? (i := 9) rfl)))))
  have hl := lv_entry ([.ref ac, .int z, .int 0]) (n := 7) (Nat.le_of_ble_eq_true rfl)
  rw [lg_entry_eq]
  generalize (lg_sl ([.ref ac, .int z, .int 0]) ++ List.replicate (7 - (lg_sl ([.ref ac, .int z, .int 0])).length) Slot.unset).toArray = ls at hl ⊢
  have hl : lv_has ls 7 [(0, .ref ac), (1, .int z), (2, .int 0)] := hl
  refine lv_aload_n hx hb dX1_skip_0 rfl (lv_at hl 0 rfl) ?_
  refine va_get (D := (dC, dI)) (ci := 5) (v := .ref c5) (C := RX1) (T := TX1) (N := 6) hx hb hts hiX1 hown hK hP 0 rfl rfl 4 (by decide) (hw0) (fun _ h9 => h9) rfl dX1_skip_1 ?_
  refine lv_iconst (v := 0) hx hb dX1_skip_4 (by decide) ?_
  refine lv_iload_n hx hb dX1_skip_5 rfl (lv_at hl 1 rfl) ?_
  refine va_iast (D := (dC, dI)) hx hb hK hP hD hS 5 0 rfl rfl (by unfold vp_in; decide) dX1_skip_6 (fun H locs hP hD hS => ?_)
  have hP : va_P (dC, dI) vwCl [(ac, .inr (5, [.ref c1, .ref c2, .ref c3, .ref c4, .ref c5, .int 15])), (c1, .inl (cI, 4, .inl (cn 0))), (c2, .inl (cI, 4, .inl (cn 1))), (c3, .inl (cI, 4, .inl (cn 0))), (c4, .inl (cI, 4, .inl (cn tk))), (c5, .inl (cI, 4, .inl (upd (cn fr) 0 z)))] H := hP
  have hD : va_D A [(ac, .inr (5, [.ref c1, .ref c2, .ref c3, .ref c4, .ref c5, .int 15])), (c1, .inl (cI, 4, .inl (cn 0))), (c2, .inl (cI, 4, .inl (cn 1))), (c3, .inl (cI, 4, .inl (cn 0))), (c4, .inl (cI, 4, .inl (cn tk))), (c5, .inl (cI, 4, .inl (upd (cn fr) 0 z)))] := hD
  refine lv_aload_n hx hb dX1_skip_7 rfl (lv_at hl 0 rfl) ?_
  refine va_get (D := (dC, dI)) (ci := 5) (v := .ref c4) (C := RX1) (T := TX1) (N := 6) hx hb hts hiX1 hown hK hP 0 rfl rfl 3 (by decide) (hw2) (fun _ h9 => h9) rfl dX1_skip_8 ?_
  refine lv_iconst (v := 0) hx hb dX1_skip_11 (by decide) ?_
  refine lv_dup2_11 hx hb dX1_skip_12 rfl rfl ?_
  refine va_iald (D := (dC, dI)) hx hb hK hP 4 0 rfl rfl (by unfold vp_in; decide) dX1_skip_13 ?_
  refine lt_ci (y := tk) rfl ?_
  refine lv_iload_n hx hb dX1_skip_14 rfl (lv_at hl 1 rfl) ?_
  refine lv_iadd hx hb dX1_skip_15 ?_
  refine va_iast (D := (dC, dI)) hx hb hK hP hD hS 4 0 rfl rfl (by unfold vp_in; decide) dX1_skip_16 (fun H locs hP hD hS => ?_)
  have hP : va_P (dC, dI) vwCl [(ac, .inr (5, [.ref c1, .ref c2, .ref c3, .ref c4, .ref c5, .int 15])), (c1, .inl (cI, 4, .inl (cn 0))), (c2, .inl (cI, 4, .inl (cn 1))), (c3, .inl (cI, 4, .inl (cn 0))), (c4, .inl (cI, 4, .inl (upd (cn tk) 0 (tk + z)))), (c5, .inl (cI, 4, .inl (upd (cn fr) 0 z)))] H := hP
  have hD : va_D A [(ac, .inr (5, [.ref c1, .ref c2, .ref c3, .ref c4, .ref c5, .int 15])), (c1, .inl (cI, 4, .inl (cn 0))), (c2, .inl (cI, 4, .inl (cn 1))), (c3, .inl (cI, 4, .inl (cn 0))), (c4, .inl (cI, 4, .inl (upd (cn tk) 0 (tk + z)))), (c5, .inl (cI, 4, .inl (upd (cn fr) 0 z)))] := hD
  refine lv_iconst (v := 1) hx hb dX1_skip_17 (by decide) ?_
  refine lv_istore_n (lv' := [(3, .int 1), (0, .ref ac), (1, .int z), (2, .int 0)]) hx hb dX1_skip_18 rfl hl (by decide) rfl (fun ls hl => ?_)
  refine lv_iload_n hx hb dX1_skip_19 rfl (lv_at hl 0 rfl) ?_
  refine lv_iconst (v := 4) hx hb dX1_skip_20 (by decide) ?_
  refine lv_icmp_ge (tgt := 167) hx hb dX1_skip_21 (by decide) (fun c => absurd c (by decide)) (fun _ => ?_)
  refine lv_iload_n hx hb dX1_skip_24 rfl (lv_at hl 3 rfl) ?_
  refine lv_if_ne (tgt := 39) hx hb dX1_skip_25 (by decide) (fun c => (c (by decide)).elim) (fun _ => ?_)
  refine lv_aload_n hx hb dX1_skip_28 rfl (lv_at hl 1 rfl) ?_
  refine va_get (D := (dC, dI)) (ci := 5) (v := .int 15) (C := RX1) (T := TX1) (N := 6) hx hb hts hiX1 hown hK hP 0 rfl rfl 5 (by decide) (hw3) (fun _ h9 => h9) rfl dX1_skip_29 ?_
  refine lv_iload_n hx hb dX1_skip_32 rfl (lv_at hl 0 rfl) ?_
  have hPc := hP.sub (ws' := []) [] rfl
  have hDc := hD.sub (ws' := []) [] (by decide) rfl
  have hKc := hK.sub (tys' := []) [] rfl
  have hFc := va_free (wc := []) hD hS hA [] rfl
  refine va_calli (va_runSN (As := [.int 15, .int 1]) (rest := []) ⟨hx, hb, hml, hown, hts⟩ (c_X8_hasBit_1 l dC dI g 15 1 H.size (by decide)) ⟨va_cnB (host := "Tickstation") 2 hts gX1_skip_X8_hasBit_n37 rfl rfl rfl (hN _ (List.mem_of_getElem? (i := 6) rfl)) hw4 (by decide +kernel) ⟨Nat.le_of_ble_eq_true rfl, Nat.le_of_ble_eq_true rfl⟩, hw5, trivial⟩ ⟨wIn_blind, wIn_at hPc hKc hDc hG hS hFc⟩ rfl rfl hl.1 rfl (lv_room (Nat.le_of_ble_eq_true rfl)) dX1_skip_33 ⟨Nat.le_of_ble_eq_true rfl, Nat.le_of_ble_eq_true rfl⟩) hS (fun q _ h => hFc q h) hFc (fun r_1 u t H1 locs ht hvm hw hB hz1 hk1 hS => ?_)
  obtain ⟨hP1, hK1, hD1⟩ := hB
  rw [ht] at hP1
  obtain ⟨hP, hD⟩ := va_join (wr := [(ac, .inr (5, [.ref c1, .ref c2, .ref c3, .ref c4, .ref c5, .int 15])), (c1, .inl (cI, 4, .inl (cn 0))), (c2, .inl (cI, 4, .inl (cn 1))), (c3, .inl (cI, 4, .inl (cn 0))), (c4, .inl (cI, 4, .inl (upd (cn tk) 0 (tk + z)))), (c5, .inl (cI, 4, .inl (upd (cn fr) 0 z)))]) (w1 := []) hP hD [] [0, 1, 2, 3, 4, 5] rfl rfl (by decide) (by decide) hk1 hFc hP1 hD1
  generalize H1 = H at hP hS ⊢
  have hP : va_P (dC, dI) vwCl [(ac, .inr (5, [.ref c1, .ref c2, .ref c3, .ref c4, .ref c5, .int 15])), (c1, .inl (cI, 4, .inl (cn 0))), (c2, .inl (cI, 4, .inl (cn 1))), (c3, .inl (cI, 4, .inl (cn 0))), (c4, .inl (cI, 4, .inl (upd (cn tk) 0 (tk + z)))), (c5, .inl (cI, 4, .inl (upd (cn fr) 0 z)))] H := hP
  have hD : va_D A [(ac, .inr (5, [.ref c1, .ref c2, .ref c3, .ref c4, .ref c5, .int 15])), (c1, .inl (cI, 4, .inl (cn 0))), (c2, .inl (cI, 4, .inl (cn 1))), (c3, .inl (cI, 4, .inl (cn 0))), (c4, .inl (cI, 4, .inl (upd (cn tk) 0 (tk + z)))), (c5, .inl (cI, 4, .inl (upd (cn fr) 0 z)))] := hD
  refine lt_ci (y := 1) hw ?_
  refine lv_if_ne (tgt := 43) hx hb dX1_skip_36 (by decide) (fun _ => ?_) (fun c => absurd c (by decide))
  refine lv_aload_n hx hb dX1_skip_43 rfl (lv_at hl 1 rfl) ?_
  refine lv_aload_n hx hb dX1_skip_44 rfl (lv_at hl 1 rfl) ?_
  refine va_get (D := (dC, dI)) (ci := 5) (v := .ref c1) (C := RX1) (T := TX1) (N := 6) hx hb hts hiX1 hown hK hP 0 rfl rfl 0 (by decide) (hw6) (fun _ h9 => h9) rfl dX1_skip_45 ?_
  refine lv_iload_n hx hb dX1_skip_48 rfl (lv_at hl 0 rfl) ?_
  refine va_iald (D := (dC, dI)) hx hb hK hP 1 0 rfl rfl (by unfold vp_in; decide) dX1_skip_49 ?_
  refine lt_ci (y := 0) rfl ?_
  have hPc := hP.sub (ws' := [(ac, .inr (5, [.ref c1, .ref c2, .ref c3, .ref c4, .ref c5, .int 15])), (c5, .inl (cI, 4, .inl (upd (cn fr) 0 z)))]) [0, 5] rfl
  have hDc := hD.sub (ws' := [(ac, .inr (5, [.ref c1, .ref c2, .ref c3, .ref c4, .ref c5, .int 15])), (c5, .inl (cI, 4, .inl (upd (cn fr) 0 z)))]) [0, 5] (by decide) rfl
  have hKc := hK.sub (tys' := [(cI, .int)]) [0] rfl
  have hFc := va_free (wc := [(ac, .inr (5, [.ref c1, .ref c2, .ref c3, .ref c4, .ref c5, .int 15])), (c5, .inl (cI, 4, .inl (upd (cn fr) 0 z)))]) hD hS hA [0, 5] rfl
  refine va_calli (va_runV (As := [.int 0]) (rest := []) ⟨hx, hb, hml, hown, hts⟩ (c_X1_freshOf_0 l dC dI g ac (.ref c1) (.ref c2) (.ref c3) (.ref c4) c5 15 cI (upd (cn fr) 0 z) H.size) (cwV 1 hts gX1_skip_X1_freshOf rfl rfl rfl (by decide +kernel) ⟨Nat.le_of_ble_eq_true rfl, Nat.le_of_ble_eq_true rfl⟩) ⟨wIn_blind, va_recv hK hP (ci := 5) (q0 := 0) rfl rfl, wIn_at hPc hKc hDc hG hS hFc⟩ rfl rfl hl.1 rfl (lv_room (Nat.le_of_ble_eq_true rfl)) dX1_skip_50 ⟨Nat.le_of_ble_eq_true rfl, Nat.le_of_ble_eq_true rfl⟩) hS (fun q _ h => hFc q h) hFc (fun r_2 u t H1 locs ht hvm hw hB hz1 hk1 hS => ?_)
  obtain ⟨hP1, hK1, hD1⟩ := hB
  rw [ht] at hP1
  obtain ⟨hP, hD⟩ := va_join (wr := [(c1, .inl (cI, 4, .inl (cn 0))), (c2, .inl (cI, 4, .inl (cn 1))), (c3, .inl (cI, 4, .inl (cn 0))), (c4, .inl (cI, 4, .inl (upd (cn tk) 0 (tk + z))))]) (w1 := [(ac, .inr (5, [.ref c1, .ref c2, .ref c3, .ref c4, .ref c5, .int 15])), (c5, .inl (cI, 4, .inl (upd (cn fr) 0 z)))]) hP hD [0, 5] [1, 2, 3, 4] rfl rfl (by decide) (by decide) hk1 hFc hP1 hD1
  generalize H1 = H at hP hS ⊢
  have hP : va_P (dC, dI) vwCl [(c1, .inl (cI, 4, .inl (cn 0))), (c2, .inl (cI, 4, .inl (cn 1))), (c3, .inl (cI, 4, .inl (cn 0))), (c4, .inl (cI, 4, .inl (upd (cn tk) 0 (tk + z)))), (ac, .inr (5, [.ref c1, .ref c2, .ref c3, .ref c4, .ref c5, .int 15])), (c5, .inl (cI, 4, .inl (upd (cn fr) 0 z)))] H := hP
  have hD : va_D A [(c1, .inl (cI, 4, .inl (cn 0))), (c2, .inl (cI, 4, .inl (cn 1))), (c3, .inl (cI, 4, .inl (cn 0))), (c4, .inl (cI, 4, .inl (upd (cn tk) 0 (tk + z)))), (ac, .inr (5, [.ref c1, .ref c2, .ref c3, .ref c4, .ref c5, .int 15])), (c5, .inl (cI, 4, .inl (upd (cn fr) 0 z)))] := hD
  refine lt_ci (y := z) hw ?_
  refine lv_istore (lv' := [(4, .int z), (3, .int 1), (0, .ref ac), (1, .int z), (2, .int 0)]) hx hb dX1_skip_53 hl (by decide) rfl (fun ls hl => ?_)
  refine lv_iconst (v := 1) hx hb dX1_skip_55 (by decide) ?_
  refine lv_aload_n hx hb dX1_skip_56 rfl (lv_at hl 2 rfl) ?_
  refine va_get (D := (dC, dI)) (ci := 5) (v := .ref c2) (C := RX1) (T := TX1) (N := 6) hx hb hts hiX1 hown hK hP 4 rfl rfl 1 (by decide) (hw7) (fun _ h9 => h9) rfl dX1_skip_57 ?_
  refine lv_iload_n hx hb dX1_skip_60 rfl (lv_at hl 1 rfl) ?_
  refine va_iald (D := (dC, dI)) hx hb hK hP 1 0 rfl rfl (by unfold vp_in; decide) dX1_skip_61 ?_
  refine lt_ci (y := 1) rfl ?_
  refine lv_aload_n hx hb dX1_skip_62 rfl (lv_at hl 2 rfl) ?_
  refine va_get (D := (dC, dI)) (ci := 5) (v := .ref c3) (C := RX1) (T := TX1) (N := 6) hx hb hts hiX1 hown hK hP 4 rfl rfl 2 (by decide) (hw8) (fun _ h9 => h9) rfl dX1_skip_63 ?_
  refine lv_iload_n hx hb dX1_skip_66 rfl (lv_at hl 1 rfl) ?_
  refine va_iald (D := (dC, dI)) hx hb hK hP 2 0 rfl rfl (by unfold vp_in; decide) dX1_skip_67 ?_
  refine lt_ci (y := 0) rfl ?_
  refine lv_isub hx hb dX1_skip_68 ?_
  refine lt_ci (y := 1) (by first | rfl | decide) ?_
  refine va_mmax hx hb (by rw [hml]; exact hl.1.symm) hown hw9 hw10 hw11 hw12 (Nat.le_of_ble_eq_true rfl) (Nat.le_of_ble_eq_true rfl) (Nat.le_of_ble_eq_true rfl) (Nat.le_of_ble_eq_true rfl) dX1_skip_69 ?_
  refine lt_ci (y := 1) (by first | rfl | decide) ?_
  refine lv_istore (lv' := [(5, .int 1), (4, .int z), (3, .int 1), (0, .ref ac), (1, .int z), (2, .int 0)]) hx hb dX1_skip_72 hl (by decide) rfl (fun ls hl => ?_)
  refine lv_aload_n hx hb dX1_skip_74 rfl (lv_at hl 3 rfl) ?_
  refine va_get (D := (dC, dI)) (ci := 5) (v := .ref c2) (C := RX1) (T := TX1) (N := 6) hx hb hts hiX1 hown hK hP 4 rfl rfl 1 (by decide) (hw7) (fun _ h9 => h9) rfl dX1_skip_75 ?_
  refine lv_iload_n hx hb dX1_skip_78 rfl (lv_at hl 2 rfl) ?_
  refine va_iald (D := (dC, dI)) hx hb hK hP 1 0 rfl rfl (by unfold vp_in; decide) dX1_skip_79 ?_
  refine lt_ci (y := 1) rfl ?_
  refine lv_istore (lv' := [(6, .int 1), (5, .int 1), (4, .int z), (3, .int 1), (0, .ref ac), (1, .int z), (2, .int 0)]) hx hb dX1_skip_80 hl (by decide) rfl (fun ls hl => ?_)
  refine lv_iload hx hb dX1_skip_82 (lv_at hl 2 rfl) ?_
  refine lv_iload hx hb dX1_skip_84 (lv_at hl 1 rfl) ?_
  refine lv_icmp_lt (tgt := 95) hx hb dX1_skip_86 (by decide) (fun c => absurd c (hn)) (fun _ => ?_)
  refine lv_iload hx hb dX1_skip_89 (lv_at hl 0 rfl) ?_
  refine lv_iconst (v := 1) hx hb dX1_skip_91 (by decide) ?_
  refine lv_icmp_ge (tgt := 116) hx hb dX1_skip_92 (by decide) (fun _ => ?_) (fun c => absurd (by decide) c)
  refine lv_aload_n hx hb dX1_skip_116 rfl (lv_at hl 4 rfl) ?_
  refine va_get (D := (dC, dI)) (ci := 5) (v := .ref c3) (C := RX1) (T := TX1) (N := 6) hx hb hts hiX1 hown hK hP 4 rfl rfl 2 (by decide) (hw8) (fun _ h9 => h9) rfl dX1_skip_117 ?_
  refine lv_iload_n hx hb dX1_skip_120 rfl (lv_at hl 3 rfl) ?_
  refine lv_iload hx hb dX1_skip_121 (lv_at hl 2 rfl) ?_
  refine lv_iload hx hb dX1_skip_123 (lv_at hl 1 rfl) ?_
  refine lv_isub hx hb dX1_skip_125 ?_
  refine lv_iload hx hb dX1_skip_126 (lv_at hl 0 rfl) ?_
  refine lv_irem hx hb dX1_skip_128 (by decide) ?_
  refine lt_ci (y := 0) (a_rem1 _) ?_
  refine va_iast (D := (dC, dI)) hx hb hK hP hD hS 2 0 rfl rfl (by unfold vp_in; decide) dX1_skip_129 (fun H locs hP hD hS => ?_)
  have hP : va_P (dC, dI) vwCl [(c1, .inl (cI, 4, .inl (cn 0))), (c2, .inl (cI, 4, .inl (cn 1))), (c3, .inl (cI, 4, .inl (upd (cn 0) 1 0))), (c4, .inl (cI, 4, .inl (upd (cn tk) 0 (tk + z)))), (ac, .inr (5, [.ref c1, .ref c2, .ref c3, .ref c4, .ref c5, .int 15])), (c5, .inl (cI, 4, .inl (upd (cn fr) 0 z)))] H := hP
  have hD : va_D A [(c1, .inl (cI, 4, .inl (cn 0))), (c2, .inl (cI, 4, .inl (cn 1))), (c3, .inl (cI, 4, .inl (upd (cn 0) 1 0))), (c4, .inl (cI, 4, .inl (upd (cn tk) 0 (tk + z)))), (ac, .inr (5, [.ref c1, .ref c2, .ref c3, .ref c4, .ref c5, .int 15])), (c5, .inl (cI, 4, .inl (upd (cn fr) 0 z)))] := hD
  refine lv_aload_n hx hb dX1_skip_130 rfl (lv_at hl 4 rfl) ?_
  refine va_get (D := (dC, dI)) (ci := 5) (v := .ref c5) (C := RX1) (T := TX1) (N := 6) hx hb hts hiX1 hown hK hP 4 rfl rfl 4 (by decide) (hw0) (fun _ h9 => h9) rfl dX1_skip_131 ?_
  refine lv_iload_n hx hb dX1_skip_134 rfl (lv_at hl 3 rfl) ?_
  refine lv_iconst (v := 1) hx hb dX1_skip_135 (by decide) ?_
  refine lv_iload hx hb dX1_skip_136 (lv_at hl 2 rfl) ?_
  refine lv_iload hx hb dX1_skip_138 (lv_at hl 1 rfl) ?_
  refine lv_isub hx hb dX1_skip_140 ?_
  refine lv_iload hx hb dX1_skip_141 (lv_at hl 0 rfl) ?_
  refine lv_idiv hx hb dX1_skip_143 (by decide) ?_
  refine lt_ci (y := (z - 1)) (a_div1 _) ?_
  refine lv_iadd hx hb dX1_skip_144 ?_
  refine lt_ci (y := z) (a_back _) ?_
  refine va_iast (D := (dC, dI)) hx hb hK hP hD hS 5 0 rfl rfl (by unfold vp_in; decide) dX1_skip_145 (fun H locs hP hD hS => ?_)
  have hP : va_P (dC, dI) vwCl [(c1, .inl (cI, 4, .inl (cn 0))), (c2, .inl (cI, 4, .inl (cn 1))), (c3, .inl (cI, 4, .inl (upd (cn 0) 1 0))), (c4, .inl (cI, 4, .inl (upd (cn tk) 0 (tk + z)))), (ac, .inr (5, [.ref c1, .ref c2, .ref c3, .ref c4, .ref c5, .int 15])), (c5, .inl (cI, 4, .inl (upd (upd (cn fr) 0 z) 1 z)))] H := hP
  have hD : va_D A [(c1, .inl (cI, 4, .inl (cn 0))), (c2, .inl (cI, 4, .inl (cn 1))), (c3, .inl (cI, 4, .inl (upd (cn 0) 1 0))), (c4, .inl (cI, 4, .inl (upd (cn tk) 0 (tk + z)))), (ac, .inr (5, [.ref c1, .ref c2, .ref c3, .ref c4, .ref c5, .int 15])), (c5, .inl (cI, 4, .inl (upd (upd (cn fr) 0 z) 1 z)))] := hD
  refine lv_aload_n hx hb dX1_skip_146 rfl (lv_at hl 4 rfl) ?_
  refine va_get (D := (dC, dI)) (ci := 5) (v := .ref c4) (C := RX1) (T := TX1) (N := 6) hx hb hts hiX1 hown hK hP 4 rfl rfl 3 (by decide) (hw2) (fun _ h9 => h9) rfl dX1_skip_147 ?_
  refine lv_iload_n hx hb dX1_skip_150 rfl (lv_at hl 3 rfl) ?_
  refine lv_dup2_11 hx hb dX1_skip_151 rfl rfl ?_
  refine va_iald (D := (dC, dI)) hx hb hK hP 3 0 rfl rfl (by unfold vp_in; decide) dX1_skip_152 ?_
  refine lt_ci (y := tk) rfl ?_
  refine lv_aload_n hx hb dX1_skip_153 rfl (lv_at hl 4 rfl) ?_
  refine va_get (D := (dC, dI)) (ci := 5) (v := .ref c5) (C := RX1) (T := TX1) (N := 6) hx hb hts hiX1 hown hK hP 4 rfl rfl 4 (by decide) (hw0) (fun _ h9 => h9) rfl dX1_skip_154 ?_
  refine lv_iload_n hx hb dX1_skip_157 rfl (lv_at hl 3 rfl) ?_
  refine va_iald (D := (dC, dI)) hx hb hK hP 5 0 rfl rfl (by unfold vp_in; decide) dX1_skip_158 ?_
  refine lt_ci (y := z) rfl ?_
  refine lv_iadd hx hb dX1_skip_159 ?_
  refine va_iast (D := (dC, dI)) hx hb hK hP hD hS 3 0 rfl rfl (by unfold vp_in; decide) dX1_skip_160 (fun H locs hP hD hS => ?_)
  have hP : va_P (dC, dI) vwCl [(c1, .inl (cI, 4, .inl (cn 0))), (c2, .inl (cI, 4, .inl (cn 1))), (c3, .inl (cI, 4, .inl (upd (cn 0) 1 0))), (c4, .inl (cI, 4, .inl (upd (upd (cn tk) 0 (tk + z)) 1 (tk + z)))), (ac, .inr (5, [.ref c1, .ref c2, .ref c3, .ref c4, .ref c5, .int 15])), (c5, .inl (cI, 4, .inl (upd (upd (cn fr) 0 z) 1 z)))] H := hP
  have hD : va_D A [(c1, .inl (cI, 4, .inl (cn 0))), (c2, .inl (cI, 4, .inl (cn 1))), (c3, .inl (cI, 4, .inl (upd (cn 0) 1 0))), (c4, .inl (cI, 4, .inl (upd (upd (cn tk) 0 (tk + z)) 1 (tk + z)))), (ac, .inr (5, [.ref c1, .ref c2, .ref c3, .ref c4, .ref c5, .int 15])), (c5, .inl (cI, 4, .inl (upd (upd (cn fr) 0 z) 1 z)))] := hD
  refine lv_iinc (v := 2) (lv' := [(3, .int 2), (6, .int 1), (5, .int 1), (4, .int z), (0, .ref ac), (1, .int z), (2, .int 0)]) hx hb dX1_skip_161 hl (k := 3) rfl (by first | rfl | decide) (by decide) rfl (fun ls hl => ?_)
  refine lv_goto (tgt := 19) hx hb dX1_skip_164 (by decide) ?_
  refine lv_iload_n hx hb dX1_skip_19 rfl (lv_at hl 0 rfl) ?_
  refine lv_iconst (v := 4) hx hb dX1_skip_20 (by decide) ?_
  refine lv_icmp_ge (tgt := 167) hx hb dX1_skip_21 (by decide) (fun c => absurd c (by decide)) (fun _ => ?_)
  refine lv_iload_n hx hb dX1_skip_24 rfl (lv_at hl 6 rfl) ?_
  refine lv_if_ne (tgt := 39) hx hb dX1_skip_25 (by decide) (fun c => (c (by decide)).elim) (fun _ => ?_)
  refine lv_aload_n hx hb dX1_skip_28 rfl (lv_at hl 4 rfl) ?_
  refine va_get (D := (dC, dI)) (ci := 5) (v := .int 15) (C := RX1) (T := TX1) (N := 6) hx hb hts hiX1 hown hK hP 4 rfl rfl 5 (by decide) (hw3) (fun _ h9 => h9) rfl dX1_skip_29 ?_
  refine lv_iload_n hx hb dX1_skip_32 rfl (lv_at hl 0 rfl) ?_
  have hPc := hP.sub (ws' := []) [] rfl
  have hDc := hD.sub (ws' := []) [] (by decide) rfl
  have hKc := hK.sub (tys' := []) [] rfl
  have hFc := va_free (wc := []) hD hS hA [] rfl
  refine va_calli (va_runSN (As := [.int 15, .int 2]) (rest := []) ⟨hx, hb, hml, hown, hts⟩ (c_X8_hasBit_1 l dC dI g 15 2 H.size (by decide)) ⟨va_cnB (host := "Tickstation") 2 hts gX1_skip_X8_hasBit_n37 rfl rfl rfl (hN _ (List.mem_of_getElem? (i := 6) rfl)) hw4 (by decide +kernel) ⟨Nat.le_of_ble_eq_true rfl, Nat.le_of_ble_eq_true rfl⟩, hw5, trivial⟩ ⟨wIn_blind, wIn_at hPc hKc hDc hG hS hFc⟩ rfl rfl hl.1 rfl (lv_room (Nat.le_of_ble_eq_true rfl)) dX1_skip_33 ⟨Nat.le_of_ble_eq_true rfl, Nat.le_of_ble_eq_true rfl⟩) hS (fun q _ h => hFc q h) hFc (fun r_3 u t H1 locs ht hvm hw hB hz1 hk1 hS => ?_)
  obtain ⟨hP1, hK1, hD1⟩ := hB
  rw [ht] at hP1
  obtain ⟨hP, hD⟩ := va_join (wr := [(c1, .inl (cI, 4, .inl (cn 0))), (c2, .inl (cI, 4, .inl (cn 1))), (c3, .inl (cI, 4, .inl (upd (cn 0) 1 0))), (c4, .inl (cI, 4, .inl (upd (upd (cn tk) 0 (tk + z)) 1 (tk + z)))), (ac, .inr (5, [.ref c1, .ref c2, .ref c3, .ref c4, .ref c5, .int 15])), (c5, .inl (cI, 4, .inl (upd (upd (cn fr) 0 z) 1 z)))]) (w1 := []) hP hD [] [0, 1, 2, 3, 4, 5] rfl rfl (by decide) (by decide) hk1 hFc hP1 hD1
  generalize H1 = H at hP hS ⊢
  have hP : va_P (dC, dI) vwCl [(c1, .inl (cI, 4, .inl (cn 0))), (c2, .inl (cI, 4, .inl (cn 1))), (c3, .inl (cI, 4, .inl (upd (cn 0) 1 0))), (c4, .inl (cI, 4, .inl (upd (upd (cn tk) 0 (tk + z)) 1 (tk + z)))), (ac, .inr (5, [.ref c1, .ref c2, .ref c3, .ref c4, .ref c5, .int 15])), (c5, .inl (cI, 4, .inl (upd (upd (cn fr) 0 z) 1 z)))] H := hP
  have hD : va_D A [(c1, .inl (cI, 4, .inl (cn 0))), (c2, .inl (cI, 4, .inl (cn 1))), (c3, .inl (cI, 4, .inl (upd (cn 0) 1 0))), (c4, .inl (cI, 4, .inl (upd (upd (cn tk) 0 (tk + z)) 1 (tk + z)))), (ac, .inr (5, [.ref c1, .ref c2, .ref c3, .ref c4, .ref c5, .int 15])), (c5, .inl (cI, 4, .inl (upd (upd (cn fr) 0 z) 1 z)))] := hD
  refine lt_ci (y := 1) hw ?_
  refine lv_if_ne (tgt := 43) hx hb dX1_skip_36 (by decide) (fun _ => ?_) (fun c => absurd c (by decide))
  refine lv_aload_n hx hb dX1_skip_43 rfl (lv_at hl 4 rfl) ?_
  refine lv_aload_n hx hb dX1_skip_44 rfl (lv_at hl 4 rfl) ?_
  refine va_get (D := (dC, dI)) (ci := 5) (v := .ref c1) (C := RX1) (T := TX1) (N := 6) hx hb hts hiX1 hown hK hP 4 rfl rfl 0 (by decide) (hw6) (fun _ h9 => h9) rfl dX1_skip_45 ?_
  refine lv_iload_n hx hb dX1_skip_48 rfl (lv_at hl 0 rfl) ?_
  refine va_iald (D := (dC, dI)) hx hb hK hP 0 0 rfl rfl (by unfold vp_in; decide) dX1_skip_49 ?_
  refine lt_ci (y := 0) rfl ?_
  have hPc := hP.sub (ws' := [(ac, .inr (5, [.ref c1, .ref c2, .ref c3, .ref c4, .ref c5, .int 15])), (c5, .inl (cI, 4, .inl (upd (upd (cn fr) 0 z) 1 z)))]) [4, 5] rfl
  have hDc := hD.sub (ws' := [(ac, .inr (5, [.ref c1, .ref c2, .ref c3, .ref c4, .ref c5, .int 15])), (c5, .inl (cI, 4, .inl (upd (upd (cn fr) 0 z) 1 z)))]) [4, 5] (by decide) rfl
  have hKc := hK.sub (tys' := [(cI, .int)]) [0] rfl
  have hFc := va_free (wc := [(ac, .inr (5, [.ref c1, .ref c2, .ref c3, .ref c4, .ref c5, .int 15])), (c5, .inl (cI, 4, .inl (upd (upd (cn fr) 0 z) 1 z)))]) hD hS hA [4, 5] rfl
  refine va_calli (va_runV (As := [.int 0]) (rest := []) ⟨hx, hb, hml, hown, hts⟩ (c_X1_freshOf_0 l dC dI g ac (.ref c1) (.ref c2) (.ref c3) (.ref c4) c5 15 cI (upd (upd (cn fr) 0 z) 1 z) H.size) (cwV 1 hts gX1_skip_X1_freshOf rfl rfl rfl (by decide +kernel) ⟨Nat.le_of_ble_eq_true rfl, Nat.le_of_ble_eq_true rfl⟩) ⟨wIn_blind, va_recv hK hP (ci := 5) (q0 := 4) rfl rfl, wIn_at hPc hKc hDc hG hS hFc⟩ rfl rfl hl.1 rfl (lv_room (Nat.le_of_ble_eq_true rfl)) dX1_skip_50 ⟨Nat.le_of_ble_eq_true rfl, Nat.le_of_ble_eq_true rfl⟩) hS (fun q _ h => hFc q h) hFc (fun r_4 u t H1 locs ht hvm hw hB hz1 hk1 hS => ?_)
  obtain ⟨hP1, hK1, hD1⟩ := hB
  rw [ht] at hP1
  obtain ⟨hP, hD⟩ := va_join (wr := [(c1, .inl (cI, 4, .inl (cn 0))), (c2, .inl (cI, 4, .inl (cn 1))), (c3, .inl (cI, 4, .inl (upd (cn 0) 1 0))), (c4, .inl (cI, 4, .inl (upd (upd (cn tk) 0 (tk + z)) 1 (tk + z))))]) (w1 := [(ac, .inr (5, [.ref c1, .ref c2, .ref c3, .ref c4, .ref c5, .int 15])), (c5, .inl (cI, 4, .inl (upd (upd (cn fr) 0 z) 1 z)))]) hP hD [4, 5] [0, 1, 2, 3] rfl rfl (by decide) (by decide) hk1 hFc hP1 hD1
  generalize H1 = H at hP hS ⊢
  have hP : va_P (dC, dI) vwCl [(c1, .inl (cI, 4, .inl (cn 0))), (c2, .inl (cI, 4, .inl (cn 1))), (c3, .inl (cI, 4, .inl (upd (cn 0) 1 0))), (c4, .inl (cI, 4, .inl (upd (upd (cn tk) 0 (tk + z)) 1 (tk + z)))), (ac, .inr (5, [.ref c1, .ref c2, .ref c3, .ref c4, .ref c5, .int 15])), (c5, .inl (cI, 4, .inl (upd (upd (cn fr) 0 z) 1 z)))] H := hP
  have hD : va_D A [(c1, .inl (cI, 4, .inl (cn 0))), (c2, .inl (cI, 4, .inl (cn 1))), (c3, .inl (cI, 4, .inl (upd (cn 0) 1 0))), (c4, .inl (cI, 4, .inl (upd (upd (cn tk) 0 (tk + z)) 1 (tk + z)))), (ac, .inr (5, [.ref c1, .ref c2, .ref c3, .ref c4, .ref c5, .int 15])), (c5, .inl (cI, 4, .inl (upd (upd (cn fr) 0 z) 1 z)))] := hD
  refine lt_ci (y := z) hw ?_
  refine lv_istore (lv' := [(4, .int z), (3, .int 2), (6, .int 1), (5, .int 1), (0, .ref ac), (1, .int z), (2, .int 0)]) hx hb dX1_skip_53 hl (by decide) rfl (fun ls hl => ?_)
  refine lv_iconst (v := 1) hx hb dX1_skip_55 (by decide) ?_
  refine lv_aload_n hx hb dX1_skip_56 rfl (lv_at hl 4 rfl) ?_
  refine va_get (D := (dC, dI)) (ci := 5) (v := .ref c2) (C := RX1) (T := TX1) (N := 6) hx hb hts hiX1 hown hK hP 4 rfl rfl 1 (by decide) (hw7) (fun _ h9 => h9) rfl dX1_skip_57 ?_
  refine lv_iload_n hx hb dX1_skip_60 rfl (lv_at hl 1 rfl) ?_
  refine va_iald (D := (dC, dI)) hx hb hK hP 1 0 rfl rfl (by unfold vp_in; decide) dX1_skip_61 ?_
  refine lt_ci (y := 1) rfl ?_
  refine lv_aload_n hx hb dX1_skip_62 rfl (lv_at hl 4 rfl) ?_
  refine va_get (D := (dC, dI)) (ci := 5) (v := .ref c3) (C := RX1) (T := TX1) (N := 6) hx hb hts hiX1 hown hK hP 4 rfl rfl 2 (by decide) (hw8) (fun _ h9 => h9) rfl dX1_skip_63 ?_
  refine lv_iload_n hx hb dX1_skip_66 rfl (lv_at hl 1 rfl) ?_
  refine va_iald (D := (dC, dI)) hx hb hK hP 2 0 rfl rfl (by unfold vp_in; decide) dX1_skip_67 ?_
  refine lt_ci (y := 0) rfl ?_
  refine lv_isub hx hb dX1_skip_68 ?_
  refine lt_ci (y := 1) (by first | rfl | decide) ?_
  refine va_mmax hx hb (by rw [hml]; exact hl.1.symm) hown hw9 hw10 hw11 hw12 (Nat.le_of_ble_eq_true rfl) (Nat.le_of_ble_eq_true rfl) (Nat.le_of_ble_eq_true rfl) (Nat.le_of_ble_eq_true rfl) dX1_skip_69 ?_
  refine lt_ci (y := 1) (by first | rfl | decide) ?_
  refine lv_istore (lv' := [(5, .int 1), (4, .int z), (3, .int 2), (6, .int 1), (0, .ref ac), (1, .int z), (2, .int 0)]) hx hb dX1_skip_72 hl (by decide) rfl (fun ls hl => ?_)
  refine lv_aload_n hx hb dX1_skip_74 rfl (lv_at hl 4 rfl) ?_
  refine va_get (D := (dC, dI)) (ci := 5) (v := .ref c2) (C := RX1) (T := TX1) (N := 6) hx hb hts hiX1 hown hK hP 4 rfl rfl 1 (by decide) (hw7) (fun _ h9 => h9) rfl dX1_skip_75 ?_
  refine lv_iload_n hx hb dX1_skip_78 rfl (lv_at hl 2 rfl) ?_
  refine va_iald (D := (dC, dI)) hx hb hK hP 1 0 rfl rfl (by unfold vp_in; decide) dX1_skip_79 ?_
  refine lt_ci (y := 1) rfl ?_
  refine lv_istore (lv' := [(6, .int 1), (5, .int 1), (4, .int z), (3, .int 2), (0, .ref ac), (1, .int z), (2, .int 0)]) hx hb dX1_skip_80 hl (by decide) rfl (fun ls hl => ?_)
  refine lv_iload hx hb dX1_skip_82 (lv_at hl 2 rfl) ?_
  refine lv_iload hx hb dX1_skip_84 (lv_at hl 1 rfl) ?_
  refine lv_icmp_lt (tgt := 95) hx hb dX1_skip_86 (by decide) (fun c => absurd c (hn)) (fun _ => ?_)
  refine lv_iload hx hb dX1_skip_89 (lv_at hl 0 rfl) ?_
  refine lv_iconst (v := 1) hx hb dX1_skip_91 (by decide) ?_
  refine lv_icmp_ge (tgt := 116) hx hb dX1_skip_92 (by decide) (fun _ => ?_) (fun c => absurd (by decide) c)
  refine lv_aload_n hx hb dX1_skip_116 rfl (lv_at hl 4 rfl) ?_
  refine va_get (D := (dC, dI)) (ci := 5) (v := .ref c3) (C := RX1) (T := TX1) (N := 6) hx hb hts hiX1 hown hK hP 4 rfl rfl 2 (by decide) (hw8) (fun _ h9 => h9) rfl dX1_skip_117 ?_
  refine lv_iload_n hx hb dX1_skip_120 rfl (lv_at hl 3 rfl) ?_
  refine lv_iload hx hb dX1_skip_121 (lv_at hl 2 rfl) ?_
  refine lv_iload hx hb dX1_skip_123 (lv_at hl 1 rfl) ?_
  refine lv_isub hx hb dX1_skip_125 ?_
  refine lv_iload hx hb dX1_skip_126 (lv_at hl 0 rfl) ?_
  refine lv_irem hx hb dX1_skip_128 (by decide) ?_
  refine lt_ci (y := 0) (a_rem1 _) ?_
  refine va_iast (D := (dC, dI)) hx hb hK hP hD hS 2 0 rfl rfl (by unfold vp_in; decide) dX1_skip_129 (fun H locs hP hD hS => ?_)
  have hP : va_P (dC, dI) vwCl [(c1, .inl (cI, 4, .inl (cn 0))), (c2, .inl (cI, 4, .inl (cn 1))), (c3, .inl (cI, 4, .inl (upd (upd (cn 0) 1 0) 2 0))), (c4, .inl (cI, 4, .inl (upd (upd (cn tk) 0 (tk + z)) 1 (tk + z)))), (ac, .inr (5, [.ref c1, .ref c2, .ref c3, .ref c4, .ref c5, .int 15])), (c5, .inl (cI, 4, .inl (upd (upd (cn fr) 0 z) 1 z)))] H := hP
  have hD : va_D A [(c1, .inl (cI, 4, .inl (cn 0))), (c2, .inl (cI, 4, .inl (cn 1))), (c3, .inl (cI, 4, .inl (upd (upd (cn 0) 1 0) 2 0))), (c4, .inl (cI, 4, .inl (upd (upd (cn tk) 0 (tk + z)) 1 (tk + z)))), (ac, .inr (5, [.ref c1, .ref c2, .ref c3, .ref c4, .ref c5, .int 15])), (c5, .inl (cI, 4, .inl (upd (upd (cn fr) 0 z) 1 z)))] := hD
  refine lv_aload_n hx hb dX1_skip_130 rfl (lv_at hl 4 rfl) ?_
  refine va_get (D := (dC, dI)) (ci := 5) (v := .ref c5) (C := RX1) (T := TX1) (N := 6) hx hb hts hiX1 hown hK hP 4 rfl rfl 4 (by decide) (hw0) (fun _ h9 => h9) rfl dX1_skip_131 ?_
  refine lv_iload_n hx hb dX1_skip_134 rfl (lv_at hl 3 rfl) ?_
  refine lv_iconst (v := 1) hx hb dX1_skip_135 (by decide) ?_
  refine lv_iload hx hb dX1_skip_136 (lv_at hl 2 rfl) ?_
  refine lv_iload hx hb dX1_skip_138 (lv_at hl 1 rfl) ?_
  refine lv_isub hx hb dX1_skip_140 ?_
  refine lv_iload hx hb dX1_skip_141 (lv_at hl 0 rfl) ?_
  refine lv_idiv hx hb dX1_skip_143 (by decide) ?_
  refine lt_ci (y := (z - 1)) (a_div1 _) ?_
  refine lv_iadd hx hb dX1_skip_144 ?_
  refine lt_ci (y := z) (a_back _) ?_
  refine va_iast (D := (dC, dI)) hx hb hK hP hD hS 5 0 rfl rfl (by unfold vp_in; decide) dX1_skip_145 (fun H locs hP hD hS => ?_)
  have hP : va_P (dC, dI) vwCl [(c1, .inl (cI, 4, .inl (cn 0))), (c2, .inl (cI, 4, .inl (cn 1))), (c3, .inl (cI, 4, .inl (upd (upd (cn 0) 1 0) 2 0))), (c4, .inl (cI, 4, .inl (upd (upd (cn tk) 0 (tk + z)) 1 (tk + z)))), (ac, .inr (5, [.ref c1, .ref c2, .ref c3, .ref c4, .ref c5, .int 15])), (c5, .inl (cI, 4, .inl (upd (upd (upd (cn fr) 0 z) 1 z) 2 z)))] H := hP
  have hD : va_D A [(c1, .inl (cI, 4, .inl (cn 0))), (c2, .inl (cI, 4, .inl (cn 1))), (c3, .inl (cI, 4, .inl (upd (upd (cn 0) 1 0) 2 0))), (c4, .inl (cI, 4, .inl (upd (upd (cn tk) 0 (tk + z)) 1 (tk + z)))), (ac, .inr (5, [.ref c1, .ref c2, .ref c3, .ref c4, .ref c5, .int 15])), (c5, .inl (cI, 4, .inl (upd (upd (upd (cn fr) 0 z) 1 z) 2 z)))] := hD
  refine lv_aload_n hx hb dX1_skip_146 rfl (lv_at hl 4 rfl) ?_
  refine va_get (D := (dC, dI)) (ci := 5) (v := .ref c4) (C := RX1) (T := TX1) (N := 6) hx hb hts hiX1 hown hK hP 4 rfl rfl 3 (by decide) (hw2) (fun _ h9 => h9) rfl dX1_skip_147 ?_
  refine lv_iload_n hx hb dX1_skip_150 rfl (lv_at hl 3 rfl) ?_
  refine lv_dup2_11 hx hb dX1_skip_151 rfl rfl ?_
  refine va_iald (D := (dC, dI)) hx hb hK hP 3 0 rfl rfl (by unfold vp_in; decide) dX1_skip_152 ?_
  refine lt_ci (y := tk) rfl ?_
  refine lv_aload_n hx hb dX1_skip_153 rfl (lv_at hl 4 rfl) ?_
  refine va_get (D := (dC, dI)) (ci := 5) (v := .ref c5) (C := RX1) (T := TX1) (N := 6) hx hb hts hiX1 hown hK hP 4 rfl rfl 4 (by decide) (hw0) (fun _ h9 => h9) rfl dX1_skip_154 ?_
  refine lv_iload_n hx hb dX1_skip_157 rfl (lv_at hl 3 rfl) ?_
  refine va_iald (D := (dC, dI)) hx hb hK hP 5 0 rfl rfl (by unfold vp_in; decide) dX1_skip_158 ?_
  refine lt_ci (y := z) rfl ?_
  refine lv_iadd hx hb dX1_skip_159 ?_
  refine va_iast (D := (dC, dI)) hx hb hK hP hD hS 3 0 rfl rfl (by unfold vp_in; decide) dX1_skip_160 (fun H locs hP hD hS => ?_)
  have hP : va_P (dC, dI) vwCl [(c1, .inl (cI, 4, .inl (cn 0))), (c2, .inl (cI, 4, .inl (cn 1))), (c3, .inl (cI, 4, .inl (upd (upd (cn 0) 1 0) 2 0))), (c4, .inl (cI, 4, .inl (upd (upd (upd (cn tk) 0 (tk + z)) 1 (tk + z)) 2 (tk + z)))), (ac, .inr (5, [.ref c1, .ref c2, .ref c3, .ref c4, .ref c5, .int 15])), (c5, .inl (cI, 4, .inl (upd (upd (upd (cn fr) 0 z) 1 z) 2 z)))] H := hP
  have hD : va_D A [(c1, .inl (cI, 4, .inl (cn 0))), (c2, .inl (cI, 4, .inl (cn 1))), (c3, .inl (cI, 4, .inl (upd (upd (cn 0) 1 0) 2 0))), (c4, .inl (cI, 4, .inl (upd (upd (upd (cn tk) 0 (tk + z)) 1 (tk + z)) 2 (tk + z)))), (ac, .inr (5, [.ref c1, .ref c2, .ref c3, .ref c4, .ref c5, .int 15])), (c5, .inl (cI, 4, .inl (upd (upd (upd (cn fr) 0 z) 1 z) 2 z)))] := hD
  refine lv_iinc (v := 3) (lv' := [(3, .int 3), (6, .int 1), (5, .int 1), (4, .int z), (0, .ref ac), (1, .int z), (2, .int 0)]) hx hb dX1_skip_161 hl (k := 3) rfl (by first | rfl | decide) (by decide) rfl (fun ls hl => ?_)
  refine lv_goto (tgt := 19) hx hb dX1_skip_164 (by decide) ?_
  refine lv_iload_n hx hb dX1_skip_19 rfl (lv_at hl 0 rfl) ?_
  refine lv_iconst (v := 4) hx hb dX1_skip_20 (by decide) ?_
  refine lv_icmp_ge (tgt := 167) hx hb dX1_skip_21 (by decide) (fun c => absurd c (by decide)) (fun _ => ?_)
  refine lv_iload_n hx hb dX1_skip_24 rfl (lv_at hl 6 rfl) ?_
  refine lv_if_ne (tgt := 39) hx hb dX1_skip_25 (by decide) (fun c => (c (by decide)).elim) (fun _ => ?_)
  refine lv_aload_n hx hb dX1_skip_28 rfl (lv_at hl 4 rfl) ?_
  refine va_get (D := (dC, dI)) (ci := 5) (v := .int 15) (C := RX1) (T := TX1) (N := 6) hx hb hts hiX1 hown hK hP 4 rfl rfl 5 (by decide) (hw3) (fun _ h9 => h9) rfl dX1_skip_29 ?_
  refine lv_iload_n hx hb dX1_skip_32 rfl (lv_at hl 0 rfl) ?_
  have hPc := hP.sub (ws' := []) [] rfl
  have hDc := hD.sub (ws' := []) [] (by decide) rfl
  have hKc := hK.sub (tys' := []) [] rfl
  have hFc := va_free (wc := []) hD hS hA [] rfl
  refine va_calli (va_runSN (As := [.int 15, .int 3]) (rest := []) ⟨hx, hb, hml, hown, hts⟩ (c_X8_hasBit_1 l dC dI g 15 3 H.size (by decide)) ⟨va_cnB (host := "Tickstation") 2 hts gX1_skip_X8_hasBit_n37 rfl rfl rfl (hN _ (List.mem_of_getElem? (i := 6) rfl)) hw4 (by decide +kernel) ⟨Nat.le_of_ble_eq_true rfl, Nat.le_of_ble_eq_true rfl⟩, hw5, trivial⟩ ⟨wIn_blind, wIn_at hPc hKc hDc hG hS hFc⟩ rfl rfl hl.1 rfl (lv_room (Nat.le_of_ble_eq_true rfl)) dX1_skip_33 ⟨Nat.le_of_ble_eq_true rfl, Nat.le_of_ble_eq_true rfl⟩) hS (fun q _ h => hFc q h) hFc (fun r_5 u t H1 locs ht hvm hw hB hz1 hk1 hS => ?_)
  obtain ⟨hP1, hK1, hD1⟩ := hB
  rw [ht] at hP1
  obtain ⟨hP, hD⟩ := va_join (wr := [(c1, .inl (cI, 4, .inl (cn 0))), (c2, .inl (cI, 4, .inl (cn 1))), (c3, .inl (cI, 4, .inl (upd (upd (cn 0) 1 0) 2 0))), (c4, .inl (cI, 4, .inl (upd (upd (upd (cn tk) 0 (tk + z)) 1 (tk + z)) 2 (tk + z)))), (ac, .inr (5, [.ref c1, .ref c2, .ref c3, .ref c4, .ref c5, .int 15])), (c5, .inl (cI, 4, .inl (upd (upd (upd (cn fr) 0 z) 1 z) 2 z)))]) (w1 := []) hP hD [] [0, 1, 2, 3, 4, 5] rfl rfl (by decide) (by decide) hk1 hFc hP1 hD1
  generalize H1 = H at hP hS ⊢
  have hP : va_P (dC, dI) vwCl [(c1, .inl (cI, 4, .inl (cn 0))), (c2, .inl (cI, 4, .inl (cn 1))), (c3, .inl (cI, 4, .inl (upd (upd (cn 0) 1 0) 2 0))), (c4, .inl (cI, 4, .inl (upd (upd (upd (cn tk) 0 (tk + z)) 1 (tk + z)) 2 (tk + z)))), (ac, .inr (5, [.ref c1, .ref c2, .ref c3, .ref c4, .ref c5, .int 15])), (c5, .inl (cI, 4, .inl (upd (upd (upd (cn fr) 0 z) 1 z) 2 z)))] H := hP
  have hD : va_D A [(c1, .inl (cI, 4, .inl (cn 0))), (c2, .inl (cI, 4, .inl (cn 1))), (c3, .inl (cI, 4, .inl (upd (upd (cn 0) 1 0) 2 0))), (c4, .inl (cI, 4, .inl (upd (upd (upd (cn tk) 0 (tk + z)) 1 (tk + z)) 2 (tk + z)))), (ac, .inr (5, [.ref c1, .ref c2, .ref c3, .ref c4, .ref c5, .int 15])), (c5, .inl (cI, 4, .inl (upd (upd (upd (cn fr) 0 z) 1 z) 2 z)))] := hD
  refine lt_ci (y := 1) hw ?_
  refine lv_if_ne (tgt := 43) hx hb dX1_skip_36 (by decide) (fun _ => ?_) (fun c => absurd c (by decide))
  refine lv_aload_n hx hb dX1_skip_43 rfl (lv_at hl 4 rfl) ?_
  refine lv_aload_n hx hb dX1_skip_44 rfl (lv_at hl 4 rfl) ?_
  refine va_get (D := (dC, dI)) (ci := 5) (v := .ref c1) (C := RX1) (T := TX1) (N := 6) hx hb hts hiX1 hown hK hP 4 rfl rfl 0 (by decide) (hw6) (fun _ h9 => h9) rfl dX1_skip_45 ?_
  refine lv_iload_n hx hb dX1_skip_48 rfl (lv_at hl 0 rfl) ?_
  refine va_iald (D := (dC, dI)) hx hb hK hP 0 0 rfl rfl (by unfold vp_in; decide) dX1_skip_49 ?_
  refine lt_ci (y := 0) rfl ?_
  have hPc := hP.sub (ws' := [(ac, .inr (5, [.ref c1, .ref c2, .ref c3, .ref c4, .ref c5, .int 15])), (c5, .inl (cI, 4, .inl (upd (upd (upd (cn fr) 0 z) 1 z) 2 z)))]) [4, 5] rfl
  have hDc := hD.sub (ws' := [(ac, .inr (5, [.ref c1, .ref c2, .ref c3, .ref c4, .ref c5, .int 15])), (c5, .inl (cI, 4, .inl (upd (upd (upd (cn fr) 0 z) 1 z) 2 z)))]) [4, 5] (by decide) rfl
  have hKc := hK.sub (tys' := [(cI, .int)]) [0] rfl
  have hFc := va_free (wc := [(ac, .inr (5, [.ref c1, .ref c2, .ref c3, .ref c4, .ref c5, .int 15])), (c5, .inl (cI, 4, .inl (upd (upd (upd (cn fr) 0 z) 1 z) 2 z)))]) hD hS hA [4, 5] rfl
  refine va_calli (va_runV (As := [.int 0]) (rest := []) ⟨hx, hb, hml, hown, hts⟩ (c_X1_freshOf_0 l dC dI g ac (.ref c1) (.ref c2) (.ref c3) (.ref c4) c5 15 cI (upd (upd (upd (cn fr) 0 z) 1 z) 2 z) H.size) (cwV 1 hts gX1_skip_X1_freshOf rfl rfl rfl (by decide +kernel) ⟨Nat.le_of_ble_eq_true rfl, Nat.le_of_ble_eq_true rfl⟩) ⟨wIn_blind, va_recv hK hP (ci := 5) (q0 := 4) rfl rfl, wIn_at hPc hKc hDc hG hS hFc⟩ rfl rfl hl.1 rfl (lv_room (Nat.le_of_ble_eq_true rfl)) dX1_skip_50 ⟨Nat.le_of_ble_eq_true rfl, Nat.le_of_ble_eq_true rfl⟩) hS (fun q _ h => hFc q h) hFc (fun r_6 u t H1 locs ht hvm hw hB hz1 hk1 hS => ?_)
  obtain ⟨hP1, hK1, hD1⟩ := hB
  rw [ht] at hP1
  obtain ⟨hP, hD⟩ := va_join (wr := [(c1, .inl (cI, 4, .inl (cn 0))), (c2, .inl (cI, 4, .inl (cn 1))), (c3, .inl (cI, 4, .inl (upd (upd (cn 0) 1 0) 2 0))), (c4, .inl (cI, 4, .inl (upd (upd (upd (cn tk) 0 (tk + z)) 1 (tk + z)) 2 (tk + z))))]) (w1 := [(ac, .inr (5, [.ref c1, .ref c2, .ref c3, .ref c4, .ref c5, .int 15])), (c5, .inl (cI, 4, .inl (upd (upd (upd (cn fr) 0 z) 1 z) 2 z)))]) hP hD [4, 5] [0, 1, 2, 3] rfl rfl (by decide) (by decide) hk1 hFc hP1 hD1
  generalize H1 = H at hP hS ⊢
  have hP : va_P (dC, dI) vwCl [(c1, .inl (cI, 4, .inl (cn 0))), (c2, .inl (cI, 4, .inl (cn 1))), (c3, .inl (cI, 4, .inl (upd (upd (cn 0) 1 0) 2 0))), (c4, .inl (cI, 4, .inl (upd (upd (upd (cn tk) 0 (tk + z)) 1 (tk + z)) 2 (tk + z)))), (ac, .inr (5, [.ref c1, .ref c2, .ref c3, .ref c4, .ref c5, .int 15])), (c5, .inl (cI, 4, .inl (upd (upd (upd (cn fr) 0 z) 1 z) 2 z)))] H := hP
  have hD : va_D A [(c1, .inl (cI, 4, .inl (cn 0))), (c2, .inl (cI, 4, .inl (cn 1))), (c3, .inl (cI, 4, .inl (upd (upd (cn 0) 1 0) 2 0))), (c4, .inl (cI, 4, .inl (upd (upd (upd (cn tk) 0 (tk + z)) 1 (tk + z)) 2 (tk + z)))), (ac, .inr (5, [.ref c1, .ref c2, .ref c3, .ref c4, .ref c5, .int 15])), (c5, .inl (cI, 4, .inl (upd (upd (upd (cn fr) 0 z) 1 z) 2 z)))] := hD
  refine lt_ci (y := z) hw ?_
  refine lv_istore (lv' := [(4, .int z), (3, .int 3), (6, .int 1), (5, .int 1), (0, .ref ac), (1, .int z), (2, .int 0)]) hx hb dX1_skip_53 hl (by decide) rfl (fun ls hl => ?_)
  refine lv_iconst (v := 1) hx hb dX1_skip_55 (by decide) ?_
  refine lv_aload_n hx hb dX1_skip_56 rfl (lv_at hl 4 rfl) ?_
  refine va_get (D := (dC, dI)) (ci := 5) (v := .ref c2) (C := RX1) (T := TX1) (N := 6) hx hb hts hiX1 hown hK hP 4 rfl rfl 1 (by decide) (hw7) (fun _ h9 => h9) rfl dX1_skip_57 ?_
  refine lv_iload_n hx hb dX1_skip_60 rfl (lv_at hl 1 rfl) ?_
  refine va_iald (D := (dC, dI)) hx hb hK hP 1 0 rfl rfl (by unfold vp_in; decide) dX1_skip_61 ?_
  refine lt_ci (y := 1) rfl ?_
  refine lv_aload_n hx hb dX1_skip_62 rfl (lv_at hl 4 rfl) ?_
  refine va_get (D := (dC, dI)) (ci := 5) (v := .ref c3) (C := RX1) (T := TX1) (N := 6) hx hb hts hiX1 hown hK hP 4 rfl rfl 2 (by decide) (hw8) (fun _ h9 => h9) rfl dX1_skip_63 ?_
  refine lv_iload_n hx hb dX1_skip_66 rfl (lv_at hl 1 rfl) ?_
  refine va_iald (D := (dC, dI)) hx hb hK hP 2 0 rfl rfl (by unfold vp_in; decide) dX1_skip_67 ?_
  refine lt_ci (y := 0) rfl ?_
  refine lv_isub hx hb dX1_skip_68 ?_
  refine lt_ci (y := 1) (by first | rfl | decide) ?_
  refine va_mmax hx hb (by rw [hml]; exact hl.1.symm) hown hw9 hw10 hw11 hw12 (Nat.le_of_ble_eq_true rfl) (Nat.le_of_ble_eq_true rfl) (Nat.le_of_ble_eq_true rfl) (Nat.le_of_ble_eq_true rfl) dX1_skip_69 ?_
  refine lt_ci (y := 1) (by first | rfl | decide) ?_
  refine lv_istore (lv' := [(5, .int 1), (4, .int z), (3, .int 3), (6, .int 1), (0, .ref ac), (1, .int z), (2, .int 0)]) hx hb dX1_skip_72 hl (by decide) rfl (fun ls hl => ?_)
  refine lv_aload_n hx hb dX1_skip_74 rfl (lv_at hl 4 rfl) ?_
  refine va_get (D := (dC, dI)) (ci := 5) (v := .ref c2) (C := RX1) (T := TX1) (N := 6) hx hb hts hiX1 hown hK hP 4 rfl rfl 1 (by decide) (hw7) (fun _ h9 => h9) rfl dX1_skip_75 ?_
  refine lv_iload_n hx hb dX1_skip_78 rfl (lv_at hl 2 rfl) ?_
  refine va_iald (D := (dC, dI)) hx hb hK hP 1 0 rfl rfl (by unfold vp_in; decide) dX1_skip_79 ?_
  refine lt_ci (y := 1) rfl ?_
  refine lv_istore (lv' := [(6, .int 1), (5, .int 1), (4, .int z), (3, .int 3), (0, .ref ac), (1, .int z), (2, .int 0)]) hx hb dX1_skip_80 hl (by decide) rfl (fun ls hl => ?_)
  refine lv_iload hx hb dX1_skip_82 (lv_at hl 2 rfl) ?_
  refine lv_iload hx hb dX1_skip_84 (lv_at hl 1 rfl) ?_
  refine lv_icmp_lt (tgt := 95) hx hb dX1_skip_86 (by decide) (fun c => absurd c (hn)) (fun _ => ?_)
  refine lv_iload hx hb dX1_skip_89 (lv_at hl 0 rfl) ?_
  refine lv_iconst (v := 1) hx hb dX1_skip_91 (by decide) ?_
  refine lv_icmp_ge (tgt := 116) hx hb dX1_skip_92 (by decide) (fun _ => ?_) (fun c => absurd (by decide) c)
  refine lv_aload_n hx hb dX1_skip_116 rfl (lv_at hl 4 rfl) ?_
  refine va_get (D := (dC, dI)) (ci := 5) (v := .ref c3) (C := RX1) (T := TX1) (N := 6) hx hb hts hiX1 hown hK hP 4 rfl rfl 2 (by decide) (hw8) (fun _ h9 => h9) rfl dX1_skip_117 ?_
  refine lv_iload_n hx hb dX1_skip_120 rfl (lv_at hl 3 rfl) ?_
  refine lv_iload hx hb dX1_skip_121 (lv_at hl 2 rfl) ?_
  refine lv_iload hx hb dX1_skip_123 (lv_at hl 1 rfl) ?_
  refine lv_isub hx hb dX1_skip_125 ?_
  refine lv_iload hx hb dX1_skip_126 (lv_at hl 0 rfl) ?_
  refine lv_irem hx hb dX1_skip_128 (by decide) ?_
  refine lt_ci (y := 0) (a_rem1 _) ?_
  refine va_iast (D := (dC, dI)) hx hb hK hP hD hS 2 0 rfl rfl (by unfold vp_in; decide) dX1_skip_129 (fun H locs hP hD hS => ?_)
  have hP : va_P (dC, dI) vwCl [(c1, .inl (cI, 4, .inl (cn 0))), (c2, .inl (cI, 4, .inl (cn 1))), (c3, .inl (cI, 4, .inl (upd (upd (upd (cn 0) 1 0) 2 0) 3 0))), (c4, .inl (cI, 4, .inl (upd (upd (upd (cn tk) 0 (tk + z)) 1 (tk + z)) 2 (tk + z)))), (ac, .inr (5, [.ref c1, .ref c2, .ref c3, .ref c4, .ref c5, .int 15])), (c5, .inl (cI, 4, .inl (upd (upd (upd (cn fr) 0 z) 1 z) 2 z)))] H := hP
  have hD : va_D A [(c1, .inl (cI, 4, .inl (cn 0))), (c2, .inl (cI, 4, .inl (cn 1))), (c3, .inl (cI, 4, .inl (upd (upd (upd (cn 0) 1 0) 2 0) 3 0))), (c4, .inl (cI, 4, .inl (upd (upd (upd (cn tk) 0 (tk + z)) 1 (tk + z)) 2 (tk + z)))), (ac, .inr (5, [.ref c1, .ref c2, .ref c3, .ref c4, .ref c5, .int 15])), (c5, .inl (cI, 4, .inl (upd (upd (upd (cn fr) 0 z) 1 z) 2 z)))] := hD
  refine lv_aload_n hx hb dX1_skip_130 rfl (lv_at hl 4 rfl) ?_
  refine va_get (D := (dC, dI)) (ci := 5) (v := .ref c5) (C := RX1) (T := TX1) (N := 6) hx hb hts hiX1 hown hK hP 4 rfl rfl 4 (by decide) (hw0) (fun _ h9 => h9) rfl dX1_skip_131 ?_
  refine lv_iload_n hx hb dX1_skip_134 rfl (lv_at hl 3 rfl) ?_
  refine lv_iconst (v := 1) hx hb dX1_skip_135 (by decide) ?_
  refine lv_iload hx hb dX1_skip_136 (lv_at hl 2 rfl) ?_
  refine lv_iload hx hb dX1_skip_138 (lv_at hl 1 rfl) ?_
  refine lv_isub hx hb dX1_skip_140 ?_
  refine lv_iload hx hb dX1_skip_141 (lv_at hl 0 rfl) ?_
  refine lv_idiv hx hb dX1_skip_143 (by decide) ?_
  refine lt_ci (y := (z - 1)) (a_div1 _) ?_
  refine lv_iadd hx hb dX1_skip_144 ?_
  refine lt_ci (y := z) (a_back _) ?_
  refine va_iast (D := (dC, dI)) hx hb hK hP hD hS 5 0 rfl rfl (by unfold vp_in; decide) dX1_skip_145 (fun H locs hP hD hS => ?_)
  have hP : va_P (dC, dI) vwCl [(c1, .inl (cI, 4, .inl (cn 0))), (c2, .inl (cI, 4, .inl (cn 1))), (c3, .inl (cI, 4, .inl (upd (upd (upd (cn 0) 1 0) 2 0) 3 0))), (c4, .inl (cI, 4, .inl (upd (upd (upd (cn tk) 0 (tk + z)) 1 (tk + z)) 2 (tk + z)))), (ac, .inr (5, [.ref c1, .ref c2, .ref c3, .ref c4, .ref c5, .int 15])), (c5, .inl (cI, 4, .inl (upd (upd (upd (upd (cn fr) 0 z) 1 z) 2 z) 3 z)))] H := hP
  have hD : va_D A [(c1, .inl (cI, 4, .inl (cn 0))), (c2, .inl (cI, 4, .inl (cn 1))), (c3, .inl (cI, 4, .inl (upd (upd (upd (cn 0) 1 0) 2 0) 3 0))), (c4, .inl (cI, 4, .inl (upd (upd (upd (cn tk) 0 (tk + z)) 1 (tk + z)) 2 (tk + z)))), (ac, .inr (5, [.ref c1, .ref c2, .ref c3, .ref c4, .ref c5, .int 15])), (c5, .inl (cI, 4, .inl (upd (upd (upd (upd (cn fr) 0 z) 1 z) 2 z) 3 z)))] := hD
  refine lv_aload_n hx hb dX1_skip_146 rfl (lv_at hl 4 rfl) ?_
  refine va_get (D := (dC, dI)) (ci := 5) (v := .ref c4) (C := RX1) (T := TX1) (N := 6) hx hb hts hiX1 hown hK hP 4 rfl rfl 3 (by decide) (hw2) (fun _ h9 => h9) rfl dX1_skip_147 ?_
  refine lv_iload_n hx hb dX1_skip_150 rfl (lv_at hl 3 rfl) ?_
  refine lv_dup2_11 hx hb dX1_skip_151 rfl rfl ?_
  refine va_iald (D := (dC, dI)) hx hb hK hP 3 0 rfl rfl (by unfold vp_in; decide) dX1_skip_152 ?_
  refine lt_ci (y := tk) rfl ?_
  refine lv_aload_n hx hb dX1_skip_153 rfl (lv_at hl 4 rfl) ?_
  refine va_get (D := (dC, dI)) (ci := 5) (v := .ref c5) (C := RX1) (T := TX1) (N := 6) hx hb hts hiX1 hown hK hP 4 rfl rfl 4 (by decide) (hw0) (fun _ h9 => h9) rfl dX1_skip_154 ?_
  refine lv_iload_n hx hb dX1_skip_157 rfl (lv_at hl 3 rfl) ?_
  refine va_iald (D := (dC, dI)) hx hb hK hP 5 0 rfl rfl (by unfold vp_in; decide) dX1_skip_158 ?_
  refine lt_ci (y := z) rfl ?_
  refine lv_iadd hx hb dX1_skip_159 ?_
  refine va_iast (D := (dC, dI)) hx hb hK hP hD hS 3 0 rfl rfl (by unfold vp_in; decide) dX1_skip_160 (fun H locs hP hD hS => ?_)
  have hP : va_P (dC, dI) vwCl [(c1, .inl (cI, 4, .inl (cn 0))), (c2, .inl (cI, 4, .inl (cn 1))), (c3, .inl (cI, 4, .inl (upd (upd (upd (cn 0) 1 0) 2 0) 3 0))), (c4, .inl (cI, 4, .inl (upd (upd (upd (upd (cn tk) 0 (tk + z)) 1 (tk + z)) 2 (tk + z)) 3 (tk + z)))), (ac, .inr (5, [.ref c1, .ref c2, .ref c3, .ref c4, .ref c5, .int 15])), (c5, .inl (cI, 4, .inl (upd (upd (upd (upd (cn fr) 0 z) 1 z) 2 z) 3 z)))] H := hP
  have hD : va_D A [(c1, .inl (cI, 4, .inl (cn 0))), (c2, .inl (cI, 4, .inl (cn 1))), (c3, .inl (cI, 4, .inl (upd (upd (upd (cn 0) 1 0) 2 0) 3 0))), (c4, .inl (cI, 4, .inl (upd (upd (upd (upd (cn tk) 0 (tk + z)) 1 (tk + z)) 2 (tk + z)) 3 (tk + z)))), (ac, .inr (5, [.ref c1, .ref c2, .ref c3, .ref c4, .ref c5, .int 15])), (c5, .inl (cI, 4, .inl (upd (upd (upd (upd (cn fr) 0 z) 1 z) 2 z) 3 z)))] := hD
  refine lv_iinc (v := 4) (lv' := [(3, .int 4), (6, .int 1), (5, .int 1), (4, .int z), (0, .ref ac), (1, .int z), (2, .int 0)]) hx hb dX1_skip_161 hl (k := 3) rfl (by first | rfl | decide) (by decide) rfl (fun ls hl => ?_)
  refine lv_goto (tgt := 19) hx hb dX1_skip_164 (by decide) ?_
  refine lv_iload_n hx hb dX1_skip_19 rfl (lv_at hl 0 rfl) ?_
  refine lv_iconst (v := 4) hx hb dX1_skip_20 (by decide) ?_
  refine lv_icmp_ge (tgt := 167) hx hb dX1_skip_21 (by decide) (fun _ => ?_) (fun c => absurd (by decide) c)
  obtain ⟨hP, hD⟩ := arr_to (cn 0) 2 hP hD rfl (lt_s (lt_s (lt_s (lt_s lt_0 rfl) rfl) rfl) rfl)
  have hP : va_P (dC, dI) vwCl [(c1, .inl (cI, 4, .inl (cn 0))), (c2, .inl (cI, 4, .inl (cn 1))), (c3, .inl (cI, 4, .inl (cn 0))), (c4, .inl (cI, 4, .inl (upd (upd (upd (upd (cn tk) 0 (tk + z)) 1 (tk + z)) 2 (tk + z)) 3 (tk + z)))), (ac, .inr (5, [.ref c1, .ref c2, .ref c3, .ref c4, .ref c5, .int 15])), (c5, .inl (cI, 4, .inl (upd (upd (upd (upd (cn fr) 0 z) 1 z) 2 z) 3 z)))] H := hP
  have hD : va_D A [(c1, .inl (cI, 4, .inl (cn 0))), (c2, .inl (cI, 4, .inl (cn 1))), (c3, .inl (cI, 4, .inl (cn 0))), (c4, .inl (cI, 4, .inl (upd (upd (upd (upd (cn tk) 0 (tk + z)) 1 (tk + z)) 2 (tk + z)) 3 (tk + z)))), (ac, .inr (5, [.ref c1, .ref c2, .ref c3, .ref c4, .ref c5, .int 15])), (c5, .inl (cI, 4, .inl (upd (upd (upd (upd (cn fr) 0 z) 1 z) 2 z) 3 z)))] := hD
  obtain ⟨hP, hD⟩ := arr_to (cn (tk + z)) 3 hP hD rfl (lt_s (lt_s (lt_s (lt_s lt_0 rfl) rfl) rfl) rfl)
  have hP : va_P (dC, dI) vwCl [(c1, .inl (cI, 4, .inl (cn 0))), (c2, .inl (cI, 4, .inl (cn 1))), (c3, .inl (cI, 4, .inl (cn 0))), (c4, .inl (cI, 4, .inl (cn (tk + z)))), (ac, .inr (5, [.ref c1, .ref c2, .ref c3, .ref c4, .ref c5, .int 15])), (c5, .inl (cI, 4, .inl (upd (upd (upd (upd (cn fr) 0 z) 1 z) 2 z) 3 z)))] H := hP
  have hD : va_D A [(c1, .inl (cI, 4, .inl (cn 0))), (c2, .inl (cI, 4, .inl (cn 1))), (c3, .inl (cI, 4, .inl (cn 0))), (c4, .inl (cI, 4, .inl (cn (tk + z)))), (ac, .inr (5, [.ref c1, .ref c2, .ref c3, .ref c4, .ref c5, .int 15])), (c5, .inl (cI, 4, .inl (upd (upd (upd (upd (cn fr) 0 z) 1 z) 2 z) 3 z)))] := hD
  obtain ⟨hP, hD⟩ := arr_to (cn z) 5 hP hD rfl (lt_s (lt_s (lt_s (lt_s lt_0 rfl) rfl) rfl) rfl)
  have hP : va_P (dC, dI) vwCl [(c1, .inl (cI, 4, .inl (cn 0))), (c2, .inl (cI, 4, .inl (cn 1))), (c3, .inl (cI, 4, .inl (cn 0))), (c4, .inl (cI, 4, .inl (cn (tk + z)))), (ac, .inr (5, [.ref c1, .ref c2, .ref c3, .ref c4, .ref c5, .int 15])), (c5, .inl (cI, 4, .inl (cn z)))] H := hP
  have hD : va_D A [(c1, .inl (cI, 4, .inl (cn 0))), (c2, .inl (cI, 4, .inl (cn 1))), (c3, .inl (cI, 4, .inl (cn 0))), (c4, .inl (cI, 4, .inl (cn (tk + z)))), (ac, .inr (5, [.ref c1, .ref c2, .ref c3, .ref c4, .ref c5, .int 15])), (c5, .inl (cI, 4, .inl (cn z)))] := hD
  have hP9 := hP.sub (ws' := [(ac, .inr (5, [.ref c1, .ref c2, .ref c3, .ref c4, .ref c5, .int 15])), (c1, .inl (cI, 4, .inl (cn 0))), (c2, .inl (cI, 4, .inl (cn 1))), (c3, .inl (cI, 4, .inl (cn 0))), (c4, .inl (cI, 4, .inl (cn (tk + z)))), (c5, .inl (cI, 4, .inl (cn z)))]) [4, 0, 1, 2, 3, 5] rfl
  have hD9 := hD.sub (ws' := [(ac, .inr (5, [.ref c1, .ref c2, .ref c3, .ref c4, .ref c5, .int 15])), (c1, .inl (cI, 4, .inl (cn 0))), (c2, .inl (cI, 4, .inl (cn 1))), (c3, .inl (cI, 4, .inl (cn 0))), (c4, .inl (cI, 4, .inl (cn (tk + z)))), (c5, .inl (cI, 4, .inl (cn z)))]) [4, 0, 1, 2, 3, 5] (by decide) rfl
  have hK9 := hK.sub (tys' := [(cI, .int)]) [0] rfl
  exact W.vret hx hb hr (fun t ht hW => ⟨⟨(), rfl, trivial, wOut_at ht hW hP9 hK9 hD9⟩, hS.F ht⟩) hS.2.2 dX1_skip_167

set_option maxHeartbeats 4000000 in
set_option maxRecDepth 100000 in
theorem c_X6_skip (l : Launch) (dC : Nat → ClassId) (dI : Nat → Nat → Nat) (g : Nat × Nat × Nat) (au : Nat) (t1 : Nat) (t2 : Nat) (t3 : Nat) (t4 : Nat) (t5 : Nat) (t6 : Nat) (t7 : Nat) (ac : Nat) (cI : ClassId) (sz : Nat) : Met l yX6_skip wsX6_skip ({ frames := 2, cells := 0, slots := 0, locals := 42 } : Room) (va_Pc [.ref au, .ref ac] (wIn dC dI g [(au, .inr (10, [.ref t1, .ref t2, .ref t3, .ref t4, .ref t5, .ref t6, .ref t7, .int 0, .int 0]))] [(cI, .int)] sz)) (va_Qv (fun (u : Unit) => True) (fun (u : Unit) (t : State) => wOut dC dI [(au, .inr (10, [.ref t1, .ref t2, .ref t3, .ref t4, .ref t5, .ref t6, .ref t7, .int 0, .int 0]))] [(cI, .int)] (va_A [(au, .inr (10, [.ref t1, .ref t2, .ref t3, .ref t4, .ref t5, .ref t6, .ref t7, .int 0, .int 0]))] sz) t) (va_A [(au, .inr (10, [.ref t1, .ref t2, .ref t3, .ref t4, .ref t5, .ref t6, .ref t7, .int 0, .int 0]))] sz)) 0 0 (va_A [(au, .inr (10, [.ref t1, .ref t2, .ref t3, .ref t4, .ref t5, .ref t6, .ref t7, .int 0, .int 0]))] sz) := by
  refine Met.ofW (cc := cX6_skip) (maxL := 3) (ret := none) (by decide) rfl ?_
  intro p e s m args below meth c s₁ B hml hv
  obtain ⟨rfl, hsz, hP, hK, hD0, hG⟩ := hv
  have hx := B.exec
  have hb := B.bytes
  have hr := B.returns
  have hts := atoms_spec (ws := wsX6_skip) B.pre
  have hown : s.vm.findClass RX6 = some m.cls := findClass_of_methodNamed B.named
  have hlocks := B.notSynchronized
  subst hsz
  have hD := hD0.self (sz := s.heap.size)
  generalize hAe : va_A [(au, .inr (10, [.ref t1, .ref t2, .ref t3, .ref t4, .ref t5, .ref t6, .ref t7, .int 0, .int 0]))] s.heap.size = A at hD hG ⊢
  have hN := hG.1
  have hA : ∀ q : Nat, s.heap.size ≤ q → A q := fun q h => by rw [← hAe]; exact Or.inr h
  have hS : va_S A s.heap s.heap [] := va_S.rf
  have hP : va_P (dC, dI) vwCl [(au, .inr (10, [.ref t1, .ref t2, .ref t3, .ref t4, .ref t5, .ref t6, .ref t7, .int 0, .int 0]))] s.heap := hP
  have hl := lv_entry ([.ref au, .ref ac]) (n := 3) (Nat.le_of_ble_eq_true rfl)
  rw [lg_entry_eq]
  generalize (lg_sl ([.ref au, .ref ac]) ++ List.replicate (3 - (lg_sl ([.ref au, .ref ac])).length) Slot.unset).toArray = ls at hl ⊢
  have hl : lv_has ls 3 [(0, .ref au), (1, .ref ac)] := hl
  refine lv_iconst (v := 0) hx hb dX6_skip_0 (by decide) ?_
  refine lv_istore_n (lv' := [(2, .int 0), (0, .ref au), (1, .ref ac)]) hx hb dX6_skip_1 rfl hl (by decide) rfl (fun ls hl => ?_)
  refine lv_iload_n hx hb dX6_skip_2 rfl (lv_at hl 0 rfl) ?_
  refine lv_iconst (v := 4) hx hb dX6_skip_3 (by decide) ?_
  refine lv_icmp_ge (tgt := 40) hx hb dX6_skip_4 (by decide) (fun c => absurd c (by decide)) (fun _ => ?_)
  refine lv_aload_n hx hb dX6_skip_7 rfl (lv_at hl 1 rfl) ?_
  refine lv_iload_n hx hb dX6_skip_8 rfl (lv_at hl 0 rfl) ?_
  have hPc := hP.sub (ws' := [(au, .inr (10, [.ref t1, .ref t2, .ref t3, .ref t4, .ref t5, .ref t6, .ref t7, .int 0, .int 0]))]) [0] rfl
  have hDc := hD.sub (ws' := [(au, .inr (10, [.ref t1, .ref t2, .ref t3, .ref t4, .ref t5, .ref t6, .ref t7, .int 0, .int 0]))]) [0] (by decide) rfl
  have hKc := hK.sub (tys' := [(cI, .int)]) [0] rfl
  have hFc := va_free (wc := [(au, .inr (10, [.ref t1, .ref t2, .ref t3, .ref t4, .ref t5, .ref t6, .ref t7, .int 0, .int 0]))]) hD hS hA [0] rfl
  refine va_calli (va_runV (As := [.int 0]) (rest := []) ⟨hx, hb, hml, hown, hts⟩ (c_X6_countsByClock_0 l dC dI g au t1 t2 t3 t4 t5 t6 t7 cI s.heap.size) (cwV 1 hts gX6_skip_X6_countsByClock rfl rfl rfl (by decide +kernel) ⟨Nat.le_of_ble_eq_true rfl, Nat.le_of_ble_eq_true rfl⟩) ⟨wIn_blind, va_recv hK hP (ci := 10) (q0 := 0) rfl rfl, wIn_at hPc hKc hDc hG hS hFc⟩ rfl rfl hl.1 rfl (lv_room (Nat.le_of_ble_eq_true rfl)) dX6_skip_9 ⟨Nat.le_of_ble_eq_true rfl, Nat.le_of_ble_eq_true rfl⟩) hS (fun q _ h => hFc q h) hFc (fun r_1 u t H1 locs ht hvm hw hB hz1 hk1 hS => ?_)
  obtain ⟨hP1, hK1, hD1⟩ := hB
  rw [ht] at hP1
  obtain ⟨hP, hD⟩ := va_join (wr := []) (w1 := [(au, .inr (10, [.ref t1, .ref t2, .ref t3, .ref t4, .ref t5, .ref t6, .ref t7, .int 0, .int 0]))]) hP hD [0] [] rfl rfl (by decide) (by decide) hk1 hFc hP1 hD1
  generalize H1 = H at hP hS ⊢
  have hP : va_P (dC, dI) vwCl [(au, .inr (10, [.ref t1, .ref t2, .ref t3, .ref t4, .ref t5, .ref t6, .ref t7, .int 0, .int 0]))] H := hP
  have hD : va_D A [(au, .inr (10, [.ref t1, .ref t2, .ref t3, .ref t4, .ref t5, .ref t6, .ref t7, .int 0, .int 0]))] := hD
  refine lt_ci (y := 0) hw ?_
  refine lv_if_eq (tgt := 34) hx hb dX6_skip_12 (by decide) (fun _ => ?_) (fun c => absurd (by decide) c)
  refine lv_iinc (v := 1) (lv' := [(2, .int 1), (0, .ref au), (1, .ref ac)]) hx hb dX6_skip_34 hl (k := 0) rfl (by first | rfl | decide) (by decide) rfl (fun ls hl => ?_)
  refine lv_goto (tgt := 2) hx hb dX6_skip_37 (by decide) ?_
  refine lv_iload_n hx hb dX6_skip_2 rfl (lv_at hl 0 rfl) ?_
  refine lv_iconst (v := 4) hx hb dX6_skip_3 (by decide) ?_
  refine lv_icmp_ge (tgt := 40) hx hb dX6_skip_4 (by decide) (fun c => absurd c (by decide)) (fun _ => ?_)
  refine lv_aload_n hx hb dX6_skip_7 rfl (lv_at hl 1 rfl) ?_
  refine lv_iload_n hx hb dX6_skip_8 rfl (lv_at hl 0 rfl) ?_
  have hPc := hP.sub (ws' := [(au, .inr (10, [.ref t1, .ref t2, .ref t3, .ref t4, .ref t5, .ref t6, .ref t7, .int 0, .int 0]))]) [0] rfl
  have hDc := hD.sub (ws' := [(au, .inr (10, [.ref t1, .ref t2, .ref t3, .ref t4, .ref t5, .ref t6, .ref t7, .int 0, .int 0]))]) [0] (by decide) rfl
  have hKc := hK.sub (tys' := [(cI, .int)]) [0] rfl
  have hFc := va_free (wc := [(au, .inr (10, [.ref t1, .ref t2, .ref t3, .ref t4, .ref t5, .ref t6, .ref t7, .int 0, .int 0]))]) hD hS hA [0] rfl
  refine va_calli (va_runV (As := [.int 1]) (rest := []) ⟨hx, hb, hml, hown, hts⟩ (c_X6_countsByClock_1 l dC dI g au t1 t2 t3 t4 t5 t6 t7 cI H.size) (cwV 1 hts gX6_skip_X6_countsByClock rfl rfl rfl (by decide +kernel) ⟨Nat.le_of_ble_eq_true rfl, Nat.le_of_ble_eq_true rfl⟩) ⟨wIn_blind, va_recv hK hP (ci := 10) (q0 := 0) rfl rfl, wIn_at hPc hKc hDc hG hS hFc⟩ rfl rfl hl.1 rfl (lv_room (Nat.le_of_ble_eq_true rfl)) dX6_skip_9 ⟨Nat.le_of_ble_eq_true rfl, Nat.le_of_ble_eq_true rfl⟩) hS (fun q _ h => hFc q h) hFc (fun r_2 u t H1 locs ht hvm hw hB hz1 hk1 hS => ?_)
  obtain ⟨hP1, hK1, hD1⟩ := hB
  rw [ht] at hP1
  obtain ⟨hP, hD⟩ := va_join (wr := []) (w1 := [(au, .inr (10, [.ref t1, .ref t2, .ref t3, .ref t4, .ref t5, .ref t6, .ref t7, .int 0, .int 0]))]) hP hD [0] [] rfl rfl (by decide) (by decide) hk1 hFc hP1 hD1
  generalize H1 = H at hP hS ⊢
  have hP : va_P (dC, dI) vwCl [(au, .inr (10, [.ref t1, .ref t2, .ref t3, .ref t4, .ref t5, .ref t6, .ref t7, .int 0, .int 0]))] H := hP
  have hD : va_D A [(au, .inr (10, [.ref t1, .ref t2, .ref t3, .ref t4, .ref t5, .ref t6, .ref t7, .int 0, .int 0]))] := hD
  refine lt_ci (y := 0) hw ?_
  refine lv_if_eq (tgt := 34) hx hb dX6_skip_12 (by decide) (fun _ => ?_) (fun c => absurd (by decide) c)
  refine lv_iinc (v := 2) (lv' := [(2, .int 2), (0, .ref au), (1, .ref ac)]) hx hb dX6_skip_34 hl (k := 0) rfl (by first | rfl | decide) (by decide) rfl (fun ls hl => ?_)
  refine lv_goto (tgt := 2) hx hb dX6_skip_37 (by decide) ?_
  refine lv_iload_n hx hb dX6_skip_2 rfl (lv_at hl 0 rfl) ?_
  refine lv_iconst (v := 4) hx hb dX6_skip_3 (by decide) ?_
  refine lv_icmp_ge (tgt := 40) hx hb dX6_skip_4 (by decide) (fun c => absurd c (by decide)) (fun _ => ?_)
  refine lv_aload_n hx hb dX6_skip_7 rfl (lv_at hl 1 rfl) ?_
  refine lv_iload_n hx hb dX6_skip_8 rfl (lv_at hl 0 rfl) ?_
  have hPc := hP.sub (ws' := [(au, .inr (10, [.ref t1, .ref t2, .ref t3, .ref t4, .ref t5, .ref t6, .ref t7, .int 0, .int 0]))]) [0] rfl
  have hDc := hD.sub (ws' := [(au, .inr (10, [.ref t1, .ref t2, .ref t3, .ref t4, .ref t5, .ref t6, .ref t7, .int 0, .int 0]))]) [0] (by decide) rfl
  have hKc := hK.sub (tys' := [(cI, .int)]) [0] rfl
  have hFc := va_free (wc := [(au, .inr (10, [.ref t1, .ref t2, .ref t3, .ref t4, .ref t5, .ref t6, .ref t7, .int 0, .int 0]))]) hD hS hA [0] rfl
  refine va_calli (va_runV (As := [.int 2]) (rest := []) ⟨hx, hb, hml, hown, hts⟩ (c_X6_countsByClock_2 l dC dI g au t1 t2 t3 t4 t5 t6 t7 cI H.size) (cwV 1 hts gX6_skip_X6_countsByClock rfl rfl rfl (by decide +kernel) ⟨Nat.le_of_ble_eq_true rfl, Nat.le_of_ble_eq_true rfl⟩) ⟨wIn_blind, va_recv hK hP (ci := 10) (q0 := 0) rfl rfl, wIn_at hPc hKc hDc hG hS hFc⟩ rfl rfl hl.1 rfl (lv_room (Nat.le_of_ble_eq_true rfl)) dX6_skip_9 ⟨Nat.le_of_ble_eq_true rfl, Nat.le_of_ble_eq_true rfl⟩) hS (fun q _ h => hFc q h) hFc (fun r_3 u t H1 locs ht hvm hw hB hz1 hk1 hS => ?_)
  obtain ⟨hP1, hK1, hD1⟩ := hB
  rw [ht] at hP1
  obtain ⟨hP, hD⟩ := va_join (wr := []) (w1 := [(au, .inr (10, [.ref t1, .ref t2, .ref t3, .ref t4, .ref t5, .ref t6, .ref t7, .int 0, .int 0]))]) hP hD [0] [] rfl rfl (by decide) (by decide) hk1 hFc hP1 hD1
  generalize H1 = H at hP hS ⊢
  have hP : va_P (dC, dI) vwCl [(au, .inr (10, [.ref t1, .ref t2, .ref t3, .ref t4, .ref t5, .ref t6, .ref t7, .int 0, .int 0]))] H := hP
  have hD : va_D A [(au, .inr (10, [.ref t1, .ref t2, .ref t3, .ref t4, .ref t5, .ref t6, .ref t7, .int 0, .int 0]))] := hD
  refine lt_ci (y := 0) hw ?_
  refine lv_if_eq (tgt := 34) hx hb dX6_skip_12 (by decide) (fun _ => ?_) (fun c => absurd (by decide) c)
  refine lv_iinc (v := 3) (lv' := [(2, .int 3), (0, .ref au), (1, .ref ac)]) hx hb dX6_skip_34 hl (k := 0) rfl (by first | rfl | decide) (by decide) rfl (fun ls hl => ?_)
  refine lv_goto (tgt := 2) hx hb dX6_skip_37 (by decide) ?_
  refine lv_iload_n hx hb dX6_skip_2 rfl (lv_at hl 0 rfl) ?_
  refine lv_iconst (v := 4) hx hb dX6_skip_3 (by decide) ?_
  refine lv_icmp_ge (tgt := 40) hx hb dX6_skip_4 (by decide) (fun c => absurd c (by decide)) (fun _ => ?_)
  refine lv_aload_n hx hb dX6_skip_7 rfl (lv_at hl 1 rfl) ?_
  refine lv_iload_n hx hb dX6_skip_8 rfl (lv_at hl 0 rfl) ?_
  have hPc := hP.sub (ws' := [(au, .inr (10, [.ref t1, .ref t2, .ref t3, .ref t4, .ref t5, .ref t6, .ref t7, .int 0, .int 0]))]) [0] rfl
  have hDc := hD.sub (ws' := [(au, .inr (10, [.ref t1, .ref t2, .ref t3, .ref t4, .ref t5, .ref t6, .ref t7, .int 0, .int 0]))]) [0] (by decide) rfl
  have hKc := hK.sub (tys' := [(cI, .int)]) [0] rfl
  have hFc := va_free (wc := [(au, .inr (10, [.ref t1, .ref t2, .ref t3, .ref t4, .ref t5, .ref t6, .ref t7, .int 0, .int 0]))]) hD hS hA [0] rfl
  refine va_calli (va_runV (As := [.int 3]) (rest := []) ⟨hx, hb, hml, hown, hts⟩ (c_X6_countsByClock_3 l dC dI g au t1 t2 t3 t4 t5 t6 t7 cI H.size) (cwV 1 hts gX6_skip_X6_countsByClock rfl rfl rfl (by decide +kernel) ⟨Nat.le_of_ble_eq_true rfl, Nat.le_of_ble_eq_true rfl⟩) ⟨wIn_blind, va_recv hK hP (ci := 10) (q0 := 0) rfl rfl, wIn_at hPc hKc hDc hG hS hFc⟩ rfl rfl hl.1 rfl (lv_room (Nat.le_of_ble_eq_true rfl)) dX6_skip_9 ⟨Nat.le_of_ble_eq_true rfl, Nat.le_of_ble_eq_true rfl⟩) hS (fun q _ h => hFc q h) hFc (fun r_4 u t H1 locs ht hvm hw hB hz1 hk1 hS => ?_)
  obtain ⟨hP1, hK1, hD1⟩ := hB
  rw [ht] at hP1
  obtain ⟨hP, hD⟩ := va_join (wr := []) (w1 := [(au, .inr (10, [.ref t1, .ref t2, .ref t3, .ref t4, .ref t5, .ref t6, .ref t7, .int 0, .int 0]))]) hP hD [0] [] rfl rfl (by decide) (by decide) hk1 hFc hP1 hD1
  generalize H1 = H at hP hS ⊢
  have hP : va_P (dC, dI) vwCl [(au, .inr (10, [.ref t1, .ref t2, .ref t3, .ref t4, .ref t5, .ref t6, .ref t7, .int 0, .int 0]))] H := hP
  have hD : va_D A [(au, .inr (10, [.ref t1, .ref t2, .ref t3, .ref t4, .ref t5, .ref t6, .ref t7, .int 0, .int 0]))] := hD
  refine lt_ci (y := 0) hw ?_
  refine lv_if_eq (tgt := 34) hx hb dX6_skip_12 (by decide) (fun _ => ?_) (fun c => absurd (by decide) c)
  refine lv_iinc (v := 4) (lv' := [(2, .int 4), (0, .ref au), (1, .ref ac)]) hx hb dX6_skip_34 hl (k := 0) rfl (by first | rfl | decide) (by decide) rfl (fun ls hl => ?_)
  refine lv_goto (tgt := 2) hx hb dX6_skip_37 (by decide) ?_
  refine lv_iload_n hx hb dX6_skip_2 rfl (lv_at hl 0 rfl) ?_
  refine lv_iconst (v := 4) hx hb dX6_skip_3 (by decide) ?_
  refine lv_icmp_ge (tgt := 40) hx hb dX6_skip_4 (by decide) (fun _ => ?_) (fun c => absurd (by decide) c)
  have hP9 := hP.sub (ws' := [(au, .inr (10, [.ref t1, .ref t2, .ref t3, .ref t4, .ref t5, .ref t6, .ref t7, .int 0, .int 0]))]) [0] rfl
  have hD9 := hD.sub (ws' := [(au, .inr (10, [.ref t1, .ref t2, .ref t3, .ref t4, .ref t5, .ref t6, .ref t7, .int 0, .int 0]))]) [0] (by decide) rfl
  have hK9 := hK.sub (tys' := [(cI, .int)]) [0] rfl
  exact W.vret hx hb hr (fun t ht hW => ⟨⟨(), rfl, trivial, wOut_at ht hW hP9 hK9 hD9⟩, hS.F ht⟩) hS.2.2 dX6_skip_40

set_option maxHeartbeats 4000000 in
set_option maxRecDepth 100000 in
theorem c_X7_skip (l : Launch) (dC : Nat → ClassId) (dI : Nat → Nat → Nat) (g : Nat × Nat × Nat) (ad : Nat) (ac : Nat) (cI : ClassId) (sz : Nat) : Met l yX7_skip wsX7_skip ({ frames := 0, cells := 0, slots := 0, locals := 0 } : Room) (va_Pc [.ref ad, .ref ac] (wIn dC dI g [(ad, .inr (11, [.int (-1), .int 0, .int 0, .int 0, .int 0, .int 0]))] [(cI, .int)] sz)) (va_Qv (fun (u : Unit) => True) (fun (u : Unit) (t : State) => wOut dC dI [(ad, .inr (11, [.int (-1), .int 0, .int 0, .int 0, .int 0, .int 0]))] [(cI, .int)] (va_A [(ad, .inr (11, [.int (-1), .int 0, .int 0, .int 0, .int 0, .int 0]))] sz) t) (va_A [(ad, .inr (11, [.int (-1), .int 0, .int 0, .int 0, .int 0, .int 0]))] sz)) 0 0 (va_A [(ad, .inr (11, [.int (-1), .int 0, .int 0, .int 0, .int 0, .int 0]))] sz) := by
  refine Met.ofW (cc := cX7_skip) (maxL := 2) (ret := none) (by decide) rfl ?_
  intro p e s m args below meth c s₁ B hml hv
  obtain ⟨rfl, hsz, hP, hK, hD0, hG⟩ := hv
  have hx := B.exec
  have hb := B.bytes
  have hr := B.returns
  have hts := atoms_spec (ws := wsX7_skip) B.pre
  have hown : s.vm.findClass RX7 = some m.cls := findClass_of_methodNamed B.named
  have hlocks := B.notSynchronized
  subst hsz
  have hD := hD0.self (sz := s.heap.size)
  generalize hAe : va_A [(ad, .inr (11, [.int (-1), .int 0, .int 0, .int 0, .int 0, .int 0]))] s.heap.size = A at hD hG ⊢
  have hN := hG.1
  have hA : ∀ q : Nat, s.heap.size ≤ q → A q := fun q h => by rw [← hAe]; exact Or.inr h
  have hS : va_S A s.heap s.heap [] := va_S.rf
  have hP : va_P (dC, dI) vwCl [(ad, .inr (11, [.int (-1), .int 0, .int 0, .int 0, .int 0, .int 0]))] s.heap := hP
  have hw0 : (Cond.fieldLink RX7 9 "Tickstation$Watchdog" "clock" "I").before _ s = true := hts _ (List.mem_cons_of_mem _ (List.mem_append_left _ (List.mem_append_left _ (List.mem_append_left _ (List.mem_of_getElem? (i := 0) rfl)))))
  have hiX7 : ∀ w ∈ u_ws RX7 TX7 6, w ∈ wsX7_skip := fun _ h => List.mem_cons_of_mem _ (List.mem_append_left _ (List.mem_append_left _ (List.mem_append_right _ (h))))
  have hl := lv_entry ([.ref ad, .ref ac]) (n := 2) (Nat.le_of_ble_eq_true rfl)
  rw [lg_entry_eq]
  generalize (lg_sl ([.ref ad, .ref ac]) ++ List.replicate (2 - (lg_sl ([.ref ad, .ref ac])).length) Slot.unset).toArray = ls at hl ⊢
  have hl : lv_has ls 2 [(0, .ref ad), (1, .ref ac)] := hl
  refine lv_aload_n hx hb dX7_skip_0 rfl (lv_at hl 0 rfl) ?_
  refine va_get (D := (dC, dI)) (ci := 11) (v := .int (-1)) (C := RX7) (T := TX7) (N := 6) hx hb hts hiX7 hown hK hP 0 rfl rfl 0 (by decide) (hw0) (fun _ h9 => h9) rfl dX7_skip_1 ?_
  refine lv_iconst (v := (-1)) hx hb dX7_skip_4 (by decide) ?_
  refine lv_icmp_eq (tgt := 25) hx hb dX7_skip_5 (by decide) (fun _ => ?_) (fun c => absurd (by decide) c)
  have hP9 := hP.sub (ws' := [(ad, .inr (11, [.int (-1), .int 0, .int 0, .int 0, .int 0, .int 0]))]) [0] rfl
  have hD9 := hD.sub (ws' := [(ad, .inr (11, [.int (-1), .int 0, .int 0, .int 0, .int 0, .int 0]))]) [0] (by decide) rfl
  have hK9 := hK.sub (tys' := [(cI, .int)]) [0] rfl
  exact W.vret hx hb hr (fun t ht hW => ⟨⟨(), rfl, trivial, wOut_at ht hW hP9 hK9 hD9⟩, hS.F ht⟩) hS.2.2 dX7_skip_25

set_option maxHeartbeats 4000000 in
set_option maxRecDepth 100000 in
theorem c_X4_skip (l : Launch) (dC : Nat → ClassId) (dI : Nat → Nat → Nat) (g : Nat × Nat × Nat) (ak : Nat) (ar : Nat) (cI : ClassId) (z : Int32) (sz : Nat) : Met l yX4_skip wsX4_skip ({ frames := 0, cells := 0, slots := 0, locals := 0 } : Room) (va_Pc [.ref ak, .int z] (wIn dC dI g [(ak, .inr (8, [.ref ar, .int 105, .int 0, .int (-1), .int 0, .int 0, .int 0]))] [(cI, .int)] sz)) (va_Qv (fun (u : Unit) => True) (fun (u : Unit) (t : State) => wOut dC dI [(ak, .inr (8, [.ref ar, .int 105, .int 0, .int (-1), .int 0, .int 0, .int 0]))] [(cI, .int)] (va_A [(ak, .inr (8, [.ref ar, .int 105, .int 0, .int (-1), .int 0, .int 0, .int 0]))] sz) t) (va_A [(ak, .inr (8, [.ref ar, .int 105, .int 0, .int (-1), .int 0, .int 0, .int 0]))] sz)) 0 0 (va_A [(ak, .inr (8, [.ref ar, .int 105, .int 0, .int (-1), .int 0, .int 0, .int 0]))] sz) := by
  refine Met.ofW (cc := cX4_skip) (maxL := 2) (ret := none) (by decide) rfl ?_
  intro p e s m args below meth c s₁ B hml hv
  obtain ⟨rfl, hsz, hP, hK, hD0, hG⟩ := hv
  have hx := B.exec
  have hb := B.bytes
  have hr := B.returns
  have hts := atoms_spec (ws := wsX4_skip) B.pre
  have hown : s.vm.findClass RX4 = some m.cls := findClass_of_methodNamed B.named
  have hlocks := B.notSynchronized
  subst hsz
  have hD := hD0.self (sz := s.heap.size)
  generalize hAe : va_A [(ak, .inr (8, [.ref ar, .int 105, .int 0, .int (-1), .int 0, .int 0, .int 0]))] s.heap.size = A at hD hG ⊢
  have hN := hG.1
  have hA : ∀ q : Nat, s.heap.size ≤ q → A q := fun q h => by rw [← hAe]; exact Or.inr h
  have hS : va_S A s.heap s.heap [] := va_S.rf
  have hP : va_P (dC, dI) vwCl [(ak, .inr (8, [.ref ar, .int 105, .int 0, .int (-1), .int 0, .int 0, .int 0]))] s.heap := hP
  have hw0 : (Cond.fieldLink RX4 18 "Tickstation$Processor" "state" "C").before _ s = true := hts _ (List.mem_cons_of_mem _ (List.mem_append_left _ (List.mem_append_left _ (List.mem_append_left _ (List.mem_of_getElem? (i := 0) rfl)))))
  have hiX4 : ∀ w ∈ u_ws RX4 TX4 7, w ∈ wsX4_skip := fun _ h => List.mem_cons_of_mem _ (List.mem_append_left _ (List.mem_append_left _ (List.mem_append_right _ (h))))
  have hl := lv_entry ([.ref ak, .int z]) (n := 2) (Nat.le_of_ble_eq_true rfl)
  rw [lg_entry_eq]
  generalize (lg_sl ([.ref ak, .int z]) ++ List.replicate (2 - (lg_sl ([.ref ak, .int z])).length) Slot.unset).toArray = ls at hl ⊢
  have hl : lv_has ls 2 [(0, .ref ak), (1, .int z)] := hl
  refine lv_aload_n hx hb dX4_skip_0 rfl (lv_at hl 0 rfl) ?_
  refine va_get (D := (dC, dI)) (ci := 8) (v := .int 105) (C := RX4) (T := TX4) (N := 7) hx hb hts hiX4 hown hK hP 0 rfl rfl 1 (by decide) (hw0) (fun _ h9 => h9) rfl dX4_skip_1 ?_
  refine lv_bipush (v := 104) hx hb dX4_skip_4 (by decide) ?_
  refine lv_icmp_ne (tgt := 20) hx hb dX4_skip_6 (by decide) (fun _ => ?_) (fun c => absurd c (by decide))
  refine lv_aload_n hx hb dX4_skip_20 rfl (lv_at hl 0 rfl) ?_
  refine va_get (D := (dC, dI)) (ci := 8) (v := .int 105) (C := RX4) (T := TX4) (N := 7) hx hb hts hiX4 hown hK hP 0 rfl rfl 1 (by decide) (hw0) (fun _ h9 => h9) rfl dX4_skip_21 ?_
  refine lv_bipush (v := 105) hx hb dX4_skip_24 (by decide) ?_
  refine lv_icmp_eq (tgt := 48) hx hb dX4_skip_26 (by decide) (fun _ => ?_) (fun c => absurd (by decide) c)
  have hP9 := hP.sub (ws' := [(ak, .inr (8, [.ref ar, .int 105, .int 0, .int (-1), .int 0, .int 0, .int 0]))]) [0] rfl
  have hD9 := hD.sub (ws' := [(ak, .inr (8, [.ref ar, .int 105, .int 0, .int (-1), .int 0, .int 0, .int 0]))]) [0] (by decide) rfl
  have hK9 := hK.sub (tys' := [(cI, .int)]) [0] rfl
  exact W.vret hx hb hr (fun t ht hW => ⟨⟨(), rfl, trivial, wOut_at ht hW hP9 hK9 hD9⟩, hS.F ht⟩) hS.2.2 dX4_skip_48

set_option maxHeartbeats 4000000 in
set_option maxRecDepth 100000 in
theorem c_X0_skip (l : Launch) (dC : Nat → ClassId) (dI : Nat → Nat → Nat) (g : Nat × Nat × Nat) (ah : Nat) (ac : Nat) (c1 : Nat) (c2 : Nat) (c3 : Nat) (c4 : Nat) (c5 : Nat) (au : Nat) (t1 : Nat) (t2 : Nat) (t3 : Nat) (t4 : Nat) (t5 : Nat) (t6 : Nat) (t7 : Nat) (ab : Nat) (an : Nat) (ar : Nat) (ak : Nat) (ad : Nat) (cI : ClassId) (tm : Int32) (sl : Int32) (tk : Int32) (fr : Int32) (z : Int32) (en : Int64) (sz : Nat) (hn : ¬ z < 1) : Met l yX0_skip wsX0_skip ({ frames := 3, cells := 0, slots := 0, locals := 64 } : Room) (va_Pc [.ref ah, .int z] (wIn dC dI g [(ah, .inr (4, [.ref ac, .ref au, .ref ab, .ref an, .ref ak, .ref ad, .int tm, .int sl, .long en])), (ac, .inr (5, [.ref c1, .ref c2, .ref c3, .ref c4, .ref c5, .int 15])), (c1, .inl (cI, 4, .inl (cn 0))), (c2, .inl (cI, 4, .inl (cn 1))), (c3, .inl (cI, 4, .inl (cn 0))), (c4, .inl (cI, 4, .inl (cn tk))), (c5, .inl (cI, 4, .inl (cn fr))), (au, .inr (10, [.ref t1, .ref t2, .ref t3, .ref t4, .ref t5, .ref t6, .ref t7, .int 0, .int 0])), (ak, .inr (8, [.ref ar, .int 105, .int 0, .int (-1), .int 0, .int 0, .int 0])), (ad, .inr (11, [.int (-1), .int 0, .int 0, .int 0, .int 0, .int 0]))] [(cI, .int)] sz)) (va_Qv (fun (u : Unit) => True) (fun (u : Unit) (t : State) => wOut dC dI [(ah, .inr (4, [.ref ac, .ref au, .ref ab, .ref an, .ref ak, .ref ad, .int (tm + z), .int sl, .long (en + (5 * (z).toInt64))])), (ac, .inr (5, [.ref c1, .ref c2, .ref c3, .ref c4, .ref c5, .int 15])), (c1, .inl (cI, 4, .inl (cn 0))), (c2, .inl (cI, 4, .inl (cn 1))), (c3, .inl (cI, 4, .inl (cn 0))), (c4, .inl (cI, 4, .inl (cn (tk + z)))), (c5, .inl (cI, 4, .inl (cn z))), (au, .inr (10, [.ref t1, .ref t2, .ref t3, .ref t4, .ref t5, .ref t6, .ref t7, .int 0, .int 0])), (ak, .inr (8, [.ref ar, .int 105, .int 0, .int (-1), .int 0, .int 0, .int 0])), (ad, .inr (11, [.int (-1), .int 0, .int 0, .int 0, .int 0, .int 0]))] [(cI, .int)] (va_A [(ah, .inr (4, [.ref ac, .ref au, .ref ab, .ref an, .ref ak, .ref ad, .int tm, .int sl, .long en])), (ac, .inr (5, [.ref c1, .ref c2, .ref c3, .ref c4, .ref c5, .int 15])), (c1, .inl (cI, 4, .inl (cn 0))), (c2, .inl (cI, 4, .inl (cn 1))), (c3, .inl (cI, 4, .inl (cn 0))), (c4, .inl (cI, 4, .inl (cn tk))), (c5, .inl (cI, 4, .inl (cn fr))), (au, .inr (10, [.ref t1, .ref t2, .ref t3, .ref t4, .ref t5, .ref t6, .ref t7, .int 0, .int 0])), (ak, .inr (8, [.ref ar, .int 105, .int 0, .int (-1), .int 0, .int 0, .int 0])), (ad, .inr (11, [.int (-1), .int 0, .int 0, .int 0, .int 0, .int 0]))] sz) t) (va_A [(ah, .inr (4, [.ref ac, .ref au, .ref ab, .ref an, .ref ak, .ref ad, .int tm, .int sl, .long en])), (ac, .inr (5, [.ref c1, .ref c2, .ref c3, .ref c4, .ref c5, .int 15])), (c1, .inl (cI, 4, .inl (cn 0))), (c2, .inl (cI, 4, .inl (cn 1))), (c3, .inl (cI, 4, .inl (cn 0))), (c4, .inl (cI, 4, .inl (cn tk))), (c5, .inl (cI, 4, .inl (cn fr))), (au, .inr (10, [.ref t1, .ref t2, .ref t3, .ref t4, .ref t5, .ref t6, .ref t7, .int 0, .int 0])), (ak, .inr (8, [.ref ar, .int 105, .int 0, .int (-1), .int 0, .int 0, .int 0])), (ad, .inr (11, [.int (-1), .int 0, .int 0, .int 0, .int 0, .int 0]))] sz)) 0 0 (va_A [(ah, .inr (4, [.ref ac, .ref au, .ref ab, .ref an, .ref ak, .ref ad, .int tm, .int sl, .long en])), (ac, .inr (5, [.ref c1, .ref c2, .ref c3, .ref c4, .ref c5, .int 15])), (c1, .inl (cI, 4, .inl (cn 0))), (c2, .inl (cI, 4, .inl (cn 1))), (c3, .inl (cI, 4, .inl (cn 0))), (c4, .inl (cI, 4, .inl (cn tk))), (c5, .inl (cI, 4, .inl (cn fr))), (au, .inr (10, [.ref t1, .ref t2, .ref t3, .ref t4, .ref t5, .ref t6, .ref t7, .int 0, .int 0])), (ak, .inr (8, [.ref ar, .int 105, .int 0, .int (-1), .int 0, .int 0, .int 0])), (ad, .inr (11, [.int (-1), .int 0, .int 0, .int 0, .int 0, .int 0]))] sz) := by
  refine Met.ofW (cc := cX0_skip) (maxL := 2) (ret := none) (by decide) rfl ?_
  intro p e s m args below meth c s₁ B hml hv
  obtain ⟨rfl, hsz, hP, hK, hD0, hG⟩ := hv
  have hx := B.exec
  have hb := B.bytes
  have hr := B.returns
  have hts := atoms_spec (ws := wsX0_skip) B.pre
  have hown : s.vm.findClass RX0 = some m.cls := findClass_of_methodNamed B.named
  have hlocks := B.notSynchronized
  subst hsz
  have hD := hD0.self (sz := s.heap.size)
  generalize hAe : va_A [(ah, .inr (4, [.ref ac, .ref au, .ref ab, .ref an, .ref ak, .ref ad, .int tm, .int sl, .long en])), (ac, .inr (5, [.ref c1, .ref c2, .ref c3, .ref c4, .ref c5, .int 15])), (c1, .inl (cI, 4, .inl (cn 0))), (c2, .inl (cI, 4, .inl (cn 1))), (c3, .inl (cI, 4, .inl (cn 0))), (c4, .inl (cI, 4, .inl (cn tk))), (c5, .inl (cI, 4, .inl (cn fr))), (au, .inr (10, [.ref t1, .ref t2, .ref t3, .ref t4, .ref t5, .ref t6, .ref t7, .int 0, .int 0])), (ak, .inr (8, [.ref ar, .int 105, .int 0, .int (-1), .int 0, .int 0, .int 0])), (ad, .inr (11, [.int (-1), .int 0, .int 0, .int 0, .int 0, .int 0]))] s.heap.size = A at hD hG ⊢
  have hN := hG.1
  have hA : ∀ q : Nat, s.heap.size ≤ q → A q := fun q h => by rw [← hAe]; exact Or.inr h
  have hS : va_S A s.heap s.heap [] := va_S.rf
  have hP : va_P (dC, dI) vwCl [(ah, .inr (4, [.ref ac, .ref au, .ref ab, .ref an, .ref ak, .ref ad, .int tm, .int sl, .long en])), (ac, .inr (5, [.ref c1, .ref c2, .ref c3, .ref c4, .ref c5, .int 15])), (c1, .inl (cI, 4, .inl (cn 0))), (c2, .inl (cI, 4, .inl (cn 1))), (c3, .inl (cI, 4, .inl (cn 0))), (c4, .inl (cI, 4, .inl (cn tk))), (c5, .inl (cI, 4, .inl (cn fr))), (au, .inr (10, [.ref t1, .ref t2, .ref t3, .ref t4, .ref t5, .ref t6, .ref t7, .int 0, .int 0])), (ak, .inr (8, [.ref ar, .int 105, .int 0, .int (-1), .int 0, .int 0, .int 0])), (ad, .inr (11, [.int (-1), .int 0, .int 0, .int 0, .int 0, .int 0]))] s.heap := hP
  have hw0 : (Cond.fieldLink RX0 85 "Tickstation$Chip" "time" "I").before _ s = true := hts _ (List.mem_cons_of_mem _ (List.mem_append_left _ (List.mem_append_left _ (List.mem_append_left _ (List.mem_append_left _ (List.mem_append_left _ (List.mem_append_left _ (List.mem_append_left _ (List.mem_append_left _ (List.mem_append_left _ (List.mem_of_getElem? (i := 0) rfl)))))))))))
  have hiX0 : ∀ w ∈ u_ws RX0 TX0 9, w ∈ wsX0_skip := fun _ h => List.mem_cons_of_mem _ (List.mem_append_left _ (List.mem_append_left _ (List.mem_append_left _ (List.mem_append_left _ (List.mem_append_left _ (List.mem_append_left _ (List.mem_append_left _ (List.mem_append_right _ (h)))))))))
  have hw2 : (Cond.fieldLink RX0 12 "Tickstation$Chip" "clocks" "LTickstation$Clocks;").before _ s = true := hts _ (List.mem_cons_of_mem _ (List.mem_append_left _ (List.mem_append_left _ (List.mem_append_left _ (List.mem_append_left _ (List.mem_append_left _ (List.mem_append_left _ (List.mem_append_left _ (List.mem_append_left _ (List.mem_append_left _ (List.mem_of_getElem? (i := 1) rfl)))))))))))
  have hw3 : (Cond.fieldLink RX0 42 "Tickstation$Chip" "processor" "LTickstation$Processor;").before _ s = true := hts _ (List.mem_cons_of_mem _ (List.mem_append_left _ (List.mem_append_left _ (List.mem_append_left _ (List.mem_append_left _ (List.mem_append_left _ (List.mem_append_left _ (List.mem_append_left _ (List.mem_append_left _ (List.mem_append_left _ (List.mem_of_getElem? (i := 2) rfl)))))))))))
  have hw4 : (Cond.fieldLink RX0 21 "Tickstation$Chip" "timers" "LTickstation$Timers;").before _ s = true := hts _ (List.mem_cons_of_mem _ (List.mem_append_left _ (List.mem_append_left _ (List.mem_append_left _ (List.mem_append_left _ (List.mem_append_left _ (List.mem_append_left _ (List.mem_append_left _ (List.mem_append_left _ (List.mem_append_left _ (List.mem_of_getElem? (i := 3) rfl)))))))))))
  have hw5 : (Cond.fieldLink RX0 49 "Tickstation$Chip" "watchdog" "LTickstation$Watchdog;").before _ s = true := hts _ (List.mem_cons_of_mem _ (List.mem_append_left _ (List.mem_append_left _ (List.mem_append_left _ (List.mem_append_left _ (List.mem_append_left _ (List.mem_append_left _ (List.mem_append_left _ (List.mem_append_left _ (List.mem_append_left _ (List.mem_of_getElem? (i := 4) rfl)))))))))))
  have hl := lv_entry ([.ref ah, .int z]) (n := 2) (Nat.le_of_ble_eq_true rfl)
  rw [lg_entry_eq]
  generalize (lg_sl ([.ref ah, .int z]) ++ List.replicate (2 - (lg_sl ([.ref ah, .int z])).length) Slot.unset).toArray = ls at hl ⊢
  have hl : lv_has ls 2 [(0, .ref ah), (1, .int z)] := hl
  refine lv_aload_n hx hb dX0_skip_0 rfl (lv_at hl 0 rfl) ?_
  refine lv_dup hx hb dX0_skip_1 rfl ?_
  refine va_get (D := (dC, dI)) (ci := 4) (v := .int tm) (C := RX0) (T := TX0) (N := 9) hx hb hts hiX0 hown hK hP 0 rfl rfl 6 (by decide) (hw0) (fun _ h9 => h9) rfl dX0_skip_2 ?_
  refine lv_iload_n hx hb dX0_skip_5 rfl (lv_at hl 1 rfl) ?_
  refine lv_iadd hx hb dX0_skip_6 ?_
  refine va_put (D := (dC, dI)) (ci := 4) (v := .int (tm + z)) (ty := .int) (C := RX0) (T := TX0) (N := 9) hx hb hts hiX0 tyX0 tyX0_ok nmX0 hown hK hP hD hS 0 rfl rfl 6 (by decide) (hw0) (fun _ h9 => h9) rfl (by decide +kernel) rfl rfl (Nat.le_of_ble_eq_true rfl) dX0_skip_7 (fun H locs hP hD hS => ?_)
  have hP : va_P (dC, dI) vwCl [(ah, .inr (4, [.ref ac, .ref au, .ref ab, .ref an, .ref ak, .ref ad, .int (tm + z), .int sl, .long en])), (ac, .inr (5, [.ref c1, .ref c2, .ref c3, .ref c4, .ref c5, .int 15])), (c1, .inl (cI, 4, .inl (cn 0))), (c2, .inl (cI, 4, .inl (cn 1))), (c3, .inl (cI, 4, .inl (cn 0))), (c4, .inl (cI, 4, .inl (cn tk))), (c5, .inl (cI, 4, .inl (cn fr))), (au, .inr (10, [.ref t1, .ref t2, .ref t3, .ref t4, .ref t5, .ref t6, .ref t7, .int 0, .int 0])), (ak, .inr (8, [.ref ar, .int 105, .int 0, .int (-1), .int 0, .int 0, .int 0])), (ad, .inr (11, [.int (-1), .int 0, .int 0, .int 0, .int 0, .int 0]))] H := hP
  have hD : va_D A [(ah, .inr (4, [.ref ac, .ref au, .ref ab, .ref an, .ref ak, .ref ad, .int (tm + z), .int sl, .long en])), (ac, .inr (5, [.ref c1, .ref c2, .ref c3, .ref c4, .ref c5, .int 15])), (c1, .inl (cI, 4, .inl (cn 0))), (c2, .inl (cI, 4, .inl (cn 1))), (c3, .inl (cI, 4, .inl (cn 0))), (c4, .inl (cI, 4, .inl (cn tk))), (c5, .inl (cI, 4, .inl (cn fr))), (au, .inr (10, [.ref t1, .ref t2, .ref t3, .ref t4, .ref t5, .ref t6, .ref t7, .int 0, .int 0])), (ak, .inr (8, [.ref ar, .int 105, .int 0, .int (-1), .int 0, .int 0, .int 0])), (ad, .inr (11, [.int (-1), .int 0, .int 0, .int 0, .int 0, .int 0]))] := hD
  refine lv_aload_n hx hb dX0_skip_10 rfl (lv_at hl 0 rfl) ?_
  refine va_get (D := (dC, dI)) (ci := 4) (v := .ref ac) (C := RX0) (T := TX0) (N := 9) hx hb hts hiX0 hown hK hP 0 rfl rfl 0 (by decide) (hw2) (fun _ h9 => h9) rfl dX0_skip_11 ?_
  refine lv_iload_n hx hb dX0_skip_14 rfl (lv_at hl 1 rfl) ?_
  refine lv_aload_n hx hb dX0_skip_15 rfl (lv_at hl 0 rfl) ?_
  refine va_get (D := (dC, dI)) (ci := 4) (v := .ref ak) (C := RX0) (T := TX0) (N := 9) hx hb hts hiX0 hown hK hP 0 rfl rfl 4 (by decide) (hw3) (fun _ h9 => h9) rfl dX0_skip_16 ?_
  have hPc := hP.sub (ws' := [(ak, .inr (8, [.ref ar, .int 105, .int 0, .int (-1), .int 0, .int 0, .int 0]))]) [8] rfl
  have hDc := hD.sub (ws' := [(ak, .inr (8, [.ref ar, .int 105, .int 0, .int (-1), .int 0, .int 0, .int 0]))]) [8] (by decide) rfl
  have hKc := hK.sub (tys' := [(cI, .int)]) [0] rfl
  have hFc := va_free (wc := [(ak, .inr (8, [.ref ar, .int 105, .int 0, .int (-1), .int 0, .int 0, .int 0]))]) hD hS hA [8] rfl
  refine va_calli (va_runV (As := []) (rest := [.int z, .ref ac]) ⟨hx, hb, hml, hown, hts⟩ (c_X4_isDeepAsleep l dC dI g ak ar cI H.size) (cwV 0 hts gX0_skip_X4_isDeepAsleep rfl rfl rfl (by decide +kernel) ⟨Nat.le_of_ble_eq_true rfl, Nat.le_of_ble_eq_true rfl⟩) ⟨wIn_blind, va_recv hK hP (ci := 8) (q0 := 8) rfl rfl, wIn_at hPc hKc hDc hG hS hFc⟩ rfl rfl hl.1 rfl (lv_room (Nat.le_of_ble_eq_true rfl)) dX0_skip_19 ⟨Nat.le_of_ble_eq_true rfl, Nat.le_of_ble_eq_true rfl⟩) hS (fun q _ h => hFc q h) hFc (fun r_1 u t H1 locs ht hvm hw hB hz1 hk1 hS => ?_)
  obtain ⟨hP1, hK1, hD1⟩ := hB
  rw [ht] at hP1
  obtain ⟨hP, hD⟩ := va_join (wr := [(ah, .inr (4, [.ref ac, .ref au, .ref ab, .ref an, .ref ak, .ref ad, .int (tm + z), .int sl, .long en])), (ac, .inr (5, [.ref c1, .ref c2, .ref c3, .ref c4, .ref c5, .int 15])), (c1, .inl (cI, 4, .inl (cn 0))), (c2, .inl (cI, 4, .inl (cn 1))), (c3, .inl (cI, 4, .inl (cn 0))), (c4, .inl (cI, 4, .inl (cn tk))), (c5, .inl (cI, 4, .inl (cn fr))), (au, .inr (10, [.ref t1, .ref t2, .ref t3, .ref t4, .ref t5, .ref t6, .ref t7, .int 0, .int 0])), (ad, .inr (11, [.int (-1), .int 0, .int 0, .int 0, .int 0, .int 0]))]) (w1 := [(ak, .inr (8, [.ref ar, .int 105, .int 0, .int (-1), .int 0, .int 0, .int 0]))]) hP hD [8] [0, 1, 2, 3, 4, 5, 6, 7, 9] rfl rfl (by decide) (by decide) hk1 hFc hP1 hD1
  generalize H1 = H at hP hS ⊢
  have hP : va_P (dC, dI) vwCl [(ah, .inr (4, [.ref ac, .ref au, .ref ab, .ref an, .ref ak, .ref ad, .int (tm + z), .int sl, .long en])), (ac, .inr (5, [.ref c1, .ref c2, .ref c3, .ref c4, .ref c5, .int 15])), (c1, .inl (cI, 4, .inl (cn 0))), (c2, .inl (cI, 4, .inl (cn 1))), (c3, .inl (cI, 4, .inl (cn 0))), (c4, .inl (cI, 4, .inl (cn tk))), (c5, .inl (cI, 4, .inl (cn fr))), (au, .inr (10, [.ref t1, .ref t2, .ref t3, .ref t4, .ref t5, .ref t6, .ref t7, .int 0, .int 0])), (ad, .inr (11, [.int (-1), .int 0, .int 0, .int 0, .int 0, .int 0])), (ak, .inr (8, [.ref ar, .int 105, .int 0, .int (-1), .int 0, .int 0, .int 0]))] H := hP
  have hD : va_D A [(ah, .inr (4, [.ref ac, .ref au, .ref ab, .ref an, .ref ak, .ref ad, .int (tm + z), .int sl, .long en])), (ac, .inr (5, [.ref c1, .ref c2, .ref c3, .ref c4, .ref c5, .int 15])), (c1, .inl (cI, 4, .inl (cn 0))), (c2, .inl (cI, 4, .inl (cn 1))), (c3, .inl (cI, 4, .inl (cn 0))), (c4, .inl (cI, 4, .inl (cn tk))), (c5, .inl (cI, 4, .inl (cn fr))), (au, .inr (10, [.ref t1, .ref t2, .ref t3, .ref t4, .ref t5, .ref t6, .ref t7, .int 0, .int 0])), (ad, .inr (11, [.int (-1), .int 0, .int 0, .int 0, .int 0, .int 0])), (ak, .inr (8, [.ref ar, .int 105, .int 0, .int (-1), .int 0, .int 0, .int 0]))] := hD
  refine lt_ci (y := 0) hw ?_
  have hPc := hP.sub (ws' := [(ac, .inr (5, [.ref c1, .ref c2, .ref c3, .ref c4, .ref c5, .int 15])), (c1, .inl (cI, 4, .inl (cn 0))), (c2, .inl (cI, 4, .inl (cn 1))), (c3, .inl (cI, 4, .inl (cn 0))), (c4, .inl (cI, 4, .inl (cn tk))), (c5, .inl (cI, 4, .inl (cn fr)))]) [1, 2, 3, 4, 5, 6] rfl
  have hDc := hD.sub (ws' := [(ac, .inr (5, [.ref c1, .ref c2, .ref c3, .ref c4, .ref c5, .int 15])), (c1, .inl (cI, 4, .inl (cn 0))), (c2, .inl (cI, 4, .inl (cn 1))), (c3, .inl (cI, 4, .inl (cn 0))), (c4, .inl (cI, 4, .inl (cn tk))), (c5, .inl (cI, 4, .inl (cn fr)))]) [1, 2, 3, 4, 5, 6] (by decide) rfl
  have hKc := hK.sub (tys' := [(cI, .int)]) [0] rfl
  have hFc := va_free (wc := [(ac, .inr (5, [.ref c1, .ref c2, .ref c3, .ref c4, .ref c5, .int 15])), (c1, .inl (cI, 4, .inl (cn 0))), (c2, .inl (cI, 4, .inl (cn 1))), (c3, .inl (cI, 4, .inl (cn 0))), (c4, .inl (cI, 4, .inl (cn tk))), (c5, .inl (cI, 4, .inl (cn fr)))]) hD hS hA [1, 2, 3, 4, 5, 6] rfl
  refine va_callv (va_runV (As := [.int z, .int 0]) (rest := []) ⟨hx, hb, hml, hown, hts⟩ (c_X1_skip l dC dI g ac c1 c2 c3 c4 c5 cI tk fr z H.size hn) (cwV 2 hts gX0_skip_X1_skip rfl rfl rfl (by decide +kernel) ⟨Nat.le_of_ble_eq_true rfl, Nat.le_of_ble_eq_true rfl⟩) ⟨wIn_blind, va_recv hK hP (ci := 5) (q0 := 1) rfl rfl, wIn_at hPc hKc hDc hG hS hFc⟩ rfl rfl hl.1 rfl (lv_room (Nat.le_of_ble_eq_true rfl)) dX0_skip_22 ⟨Nat.le_of_ble_eq_true rfl, Nat.le_of_ble_eq_true rfl⟩) hS (fun q _ h => hFc q h) hFc (fun u t H1 locs ht hvm hw hB hz1 hk1 hS => ?_)
  obtain ⟨hP1, hK1, hD1⟩ := hB
  rw [ht] at hP1
  obtain ⟨hP, hD⟩ := va_join (wr := [(ah, .inr (4, [.ref ac, .ref au, .ref ab, .ref an, .ref ak, .ref ad, .int (tm + z), .int sl, .long en])), (au, .inr (10, [.ref t1, .ref t2, .ref t3, .ref t4, .ref t5, .ref t6, .ref t7, .int 0, .int 0])), (ad, .inr (11, [.int (-1), .int 0, .int 0, .int 0, .int 0, .int 0])), (ak, .inr (8, [.ref ar, .int 105, .int 0, .int (-1), .int 0, .int 0, .int 0]))]) (w1 := [(ac, .inr (5, [.ref c1, .ref c2, .ref c3, .ref c4, .ref c5, .int 15])), (c1, .inl (cI, 4, .inl (cn 0))), (c2, .inl (cI, 4, .inl (cn 1))), (c3, .inl (cI, 4, .inl (cn 0))), (c4, .inl (cI, 4, .inl (cn (tk + z)))), (c5, .inl (cI, 4, .inl (cn z)))]) hP hD [1, 2, 3, 4, 5, 6] [0, 7, 8, 9] rfl rfl (by decide) (by decide) hk1 hFc hP1 hD1
  generalize H1 = H at hP hS ⊢
  have hP : va_P (dC, dI) vwCl [(ah, .inr (4, [.ref ac, .ref au, .ref ab, .ref an, .ref ak, .ref ad, .int (tm + z), .int sl, .long en])), (au, .inr (10, [.ref t1, .ref t2, .ref t3, .ref t4, .ref t5, .ref t6, .ref t7, .int 0, .int 0])), (ad, .inr (11, [.int (-1), .int 0, .int 0, .int 0, .int 0, .int 0])), (ak, .inr (8, [.ref ar, .int 105, .int 0, .int (-1), .int 0, .int 0, .int 0])), (ac, .inr (5, [.ref c1, .ref c2, .ref c3, .ref c4, .ref c5, .int 15])), (c1, .inl (cI, 4, .inl (cn 0))), (c2, .inl (cI, 4, .inl (cn 1))), (c3, .inl (cI, 4, .inl (cn 0))), (c4, .inl (cI, 4, .inl (cn (tk + z)))), (c5, .inl (cI, 4, .inl (cn z)))] H := hP
  have hD : va_D A [(ah, .inr (4, [.ref ac, .ref au, .ref ab, .ref an, .ref ak, .ref ad, .int (tm + z), .int sl, .long en])), (au, .inr (10, [.ref t1, .ref t2, .ref t3, .ref t4, .ref t5, .ref t6, .ref t7, .int 0, .int 0])), (ad, .inr (11, [.int (-1), .int 0, .int 0, .int 0, .int 0, .int 0])), (ak, .inr (8, [.ref ar, .int 105, .int 0, .int (-1), .int 0, .int 0, .int 0])), (ac, .inr (5, [.ref c1, .ref c2, .ref c3, .ref c4, .ref c5, .int 15])), (c1, .inl (cI, 4, .inl (cn 0))), (c2, .inl (cI, 4, .inl (cn 1))), (c3, .inl (cI, 4, .inl (cn 0))), (c4, .inl (cI, 4, .inl (cn (tk + z)))), (c5, .inl (cI, 4, .inl (cn z)))] := hD
  refine lv_aload_n hx hb dX0_skip_25 rfl (lv_at hl 0 rfl) ?_
  refine va_get (D := (dC, dI)) (ci := 4) (v := .ref au) (C := RX0) (T := TX0) (N := 9) hx hb hts hiX0 hown hK hP 0 rfl rfl 1 (by decide) (hw4) (fun _ h9 => h9) rfl dX0_skip_26 ?_
  refine lv_aload_n hx hb dX0_skip_29 rfl (lv_at hl 0 rfl) ?_
  refine va_get (D := (dC, dI)) (ci := 4) (v := .ref ac) (C := RX0) (T := TX0) (N := 9) hx hb hts hiX0 hown hK hP 0 rfl rfl 0 (by decide) (hw2) (fun _ h9 => h9) rfl dX0_skip_30 ?_
  have hPc := hP.sub (ws' := [(au, .inr (10, [.ref t1, .ref t2, .ref t3, .ref t4, .ref t5, .ref t6, .ref t7, .int 0, .int 0]))]) [1] rfl
  have hDc := hD.sub (ws' := [(au, .inr (10, [.ref t1, .ref t2, .ref t3, .ref t4, .ref t5, .ref t6, .ref t7, .int 0, .int 0]))]) [1] (by decide) rfl
  have hKc := hK.sub (tys' := [(cI, .int)]) [0] rfl
  have hFc := va_free (wc := [(au, .inr (10, [.ref t1, .ref t2, .ref t3, .ref t4, .ref t5, .ref t6, .ref t7, .int 0, .int 0]))]) hD hS hA [1] rfl
  refine va_callv (va_runV (As := [.ref ac]) (rest := []) ⟨hx, hb, hml, hown, hts⟩ (c_X6_skip l dC dI g au t1 t2 t3 t4 t5 t6 t7 ac cI H.size) (cwV 1 hts gX0_skip_X6_skip rfl rfl rfl (by decide +kernel) ⟨Nat.le_of_ble_eq_true rfl, Nat.le_of_ble_eq_true rfl⟩) ⟨wIn_blind, va_recv hK hP (ci := 10) (q0 := 1) rfl rfl, wIn_at hPc hKc hDc hG hS hFc⟩ rfl rfl hl.1 rfl (lv_room (Nat.le_of_ble_eq_true rfl)) dX0_skip_33 ⟨Nat.le_of_ble_eq_true rfl, Nat.le_of_ble_eq_true rfl⟩) hS (fun q _ h => hFc q h) hFc (fun u t H1 locs ht hvm hw hB hz1 hk1 hS => ?_)
  obtain ⟨hP1, hK1, hD1⟩ := hB
  rw [ht] at hP1
  obtain ⟨hP, hD⟩ := va_join (wr := [(ah, .inr (4, [.ref ac, .ref au, .ref ab, .ref an, .ref ak, .ref ad, .int (tm + z), .int sl, .long en])), (ad, .inr (11, [.int (-1), .int 0, .int 0, .int 0, .int 0, .int 0])), (ak, .inr (8, [.ref ar, .int 105, .int 0, .int (-1), .int 0, .int 0, .int 0])), (ac, .inr (5, [.ref c1, .ref c2, .ref c3, .ref c4, .ref c5, .int 15])), (c1, .inl (cI, 4, .inl (cn 0))), (c2, .inl (cI, 4, .inl (cn 1))), (c3, .inl (cI, 4, .inl (cn 0))), (c4, .inl (cI, 4, .inl (cn (tk + z)))), (c5, .inl (cI, 4, .inl (cn z)))]) (w1 := [(au, .inr (10, [.ref t1, .ref t2, .ref t3, .ref t4, .ref t5, .ref t6, .ref t7, .int 0, .int 0]))]) hP hD [1] [0, 2, 3, 4, 5, 6, 7, 8, 9] rfl rfl (by decide) (by decide) hk1 hFc hP1 hD1
  generalize H1 = H at hP hS ⊢
  have hP : va_P (dC, dI) vwCl [(ah, .inr (4, [.ref ac, .ref au, .ref ab, .ref an, .ref ak, .ref ad, .int (tm + z), .int sl, .long en])), (ad, .inr (11, [.int (-1), .int 0, .int 0, .int 0, .int 0, .int 0])), (ak, .inr (8, [.ref ar, .int 105, .int 0, .int (-1), .int 0, .int 0, .int 0])), (ac, .inr (5, [.ref c1, .ref c2, .ref c3, .ref c4, .ref c5, .int 15])), (c1, .inl (cI, 4, .inl (cn 0))), (c2, .inl (cI, 4, .inl (cn 1))), (c3, .inl (cI, 4, .inl (cn 0))), (c4, .inl (cI, 4, .inl (cn (tk + z)))), (c5, .inl (cI, 4, .inl (cn z))), (au, .inr (10, [.ref t1, .ref t2, .ref t3, .ref t4, .ref t5, .ref t6, .ref t7, .int 0, .int 0]))] H := hP
  have hD : va_D A [(ah, .inr (4, [.ref ac, .ref au, .ref ab, .ref an, .ref ak, .ref ad, .int (tm + z), .int sl, .long en])), (ad, .inr (11, [.int (-1), .int 0, .int 0, .int 0, .int 0, .int 0])), (ak, .inr (8, [.ref ar, .int 105, .int 0, .int (-1), .int 0, .int 0, .int 0])), (ac, .inr (5, [.ref c1, .ref c2, .ref c3, .ref c4, .ref c5, .int 15])), (c1, .inl (cI, 4, .inl (cn 0))), (c2, .inl (cI, 4, .inl (cn 1))), (c3, .inl (cI, 4, .inl (cn 0))), (c4, .inl (cI, 4, .inl (cn (tk + z)))), (c5, .inl (cI, 4, .inl (cn z))), (au, .inr (10, [.ref t1, .ref t2, .ref t3, .ref t4, .ref t5, .ref t6, .ref t7, .int 0, .int 0]))] := hD
  refine lv_aload_n hx hb dX0_skip_36 rfl (lv_at hl 0 rfl) ?_
  refine va_get (D := (dC, dI)) (ci := 4) (v := .ref ad) (C := RX0) (T := TX0) (N := 9) hx hb hts hiX0 hown hK hP 0 rfl rfl 5 (by decide) (hw5) (fun _ h9 => h9) rfl dX0_skip_37 ?_
  refine lv_aload_n hx hb dX0_skip_40 rfl (lv_at hl 0 rfl) ?_
  refine va_get (D := (dC, dI)) (ci := 4) (v := .ref ac) (C := RX0) (T := TX0) (N := 9) hx hb hts hiX0 hown hK hP 0 rfl rfl 0 (by decide) (hw2) (fun _ h9 => h9) rfl dX0_skip_41 ?_
  have hPc := hP.sub (ws' := [(ad, .inr (11, [.int (-1), .int 0, .int 0, .int 0, .int 0, .int 0]))]) [1] rfl
  have hDc := hD.sub (ws' := [(ad, .inr (11, [.int (-1), .int 0, .int 0, .int 0, .int 0, .int 0]))]) [1] (by decide) rfl
  have hKc := hK.sub (tys' := [(cI, .int)]) [0] rfl
  have hFc := va_free (wc := [(ad, .inr (11, [.int (-1), .int 0, .int 0, .int 0, .int 0, .int 0]))]) hD hS hA [1] rfl
  refine va_callv (va_runV (As := [.ref ac]) (rest := []) ⟨hx, hb, hml, hown, hts⟩ (c_X7_skip l dC dI g ad ac cI H.size) (cwV 1 hts gX0_skip_X7_skip rfl rfl rfl (by decide +kernel) ⟨Nat.le_of_ble_eq_true rfl, Nat.le_of_ble_eq_true rfl⟩) ⟨wIn_blind, va_recv hK hP (ci := 11) (q0 := 1) rfl rfl, wIn_at hPc hKc hDc hG hS hFc⟩ rfl rfl hl.1 rfl (lv_room (Nat.le_of_ble_eq_true rfl)) dX0_skip_44 ⟨Nat.le_of_ble_eq_true rfl, Nat.le_of_ble_eq_true rfl⟩) hS (fun q _ h => hFc q h) hFc (fun u t H1 locs ht hvm hw hB hz1 hk1 hS => ?_)
  obtain ⟨hP1, hK1, hD1⟩ := hB
  rw [ht] at hP1
  obtain ⟨hP, hD⟩ := va_join (wr := [(ah, .inr (4, [.ref ac, .ref au, .ref ab, .ref an, .ref ak, .ref ad, .int (tm + z), .int sl, .long en])), (ak, .inr (8, [.ref ar, .int 105, .int 0, .int (-1), .int 0, .int 0, .int 0])), (ac, .inr (5, [.ref c1, .ref c2, .ref c3, .ref c4, .ref c5, .int 15])), (c1, .inl (cI, 4, .inl (cn 0))), (c2, .inl (cI, 4, .inl (cn 1))), (c3, .inl (cI, 4, .inl (cn 0))), (c4, .inl (cI, 4, .inl (cn (tk + z)))), (c5, .inl (cI, 4, .inl (cn z))), (au, .inr (10, [.ref t1, .ref t2, .ref t3, .ref t4, .ref t5, .ref t6, .ref t7, .int 0, .int 0]))]) (w1 := [(ad, .inr (11, [.int (-1), .int 0, .int 0, .int 0, .int 0, .int 0]))]) hP hD [1] [0, 2, 3, 4, 5, 6, 7, 8, 9] rfl rfl (by decide) (by decide) hk1 hFc hP1 hD1
  generalize H1 = H at hP hS ⊢
  have hP : va_P (dC, dI) vwCl [(ah, .inr (4, [.ref ac, .ref au, .ref ab, .ref an, .ref ak, .ref ad, .int (tm + z), .int sl, .long en])), (ak, .inr (8, [.ref ar, .int 105, .int 0, .int (-1), .int 0, .int 0, .int 0])), (ac, .inr (5, [.ref c1, .ref c2, .ref c3, .ref c4, .ref c5, .int 15])), (c1, .inl (cI, 4, .inl (cn 0))), (c2, .inl (cI, 4, .inl (cn 1))), (c3, .inl (cI, 4, .inl (cn 0))), (c4, .inl (cI, 4, .inl (cn (tk + z)))), (c5, .inl (cI, 4, .inl (cn z))), (au, .inr (10, [.ref t1, .ref t2, .ref t3, .ref t4, .ref t5, .ref t6, .ref t7, .int 0, .int 0])), (ad, .inr (11, [.int (-1), .int 0, .int 0, .int 0, .int 0, .int 0]))] H := hP
  have hD : va_D A [(ah, .inr (4, [.ref ac, .ref au, .ref ab, .ref an, .ref ak, .ref ad, .int (tm + z), .int sl, .long en])), (ak, .inr (8, [.ref ar, .int 105, .int 0, .int (-1), .int 0, .int 0, .int 0])), (ac, .inr (5, [.ref c1, .ref c2, .ref c3, .ref c4, .ref c5, .int 15])), (c1, .inl (cI, 4, .inl (cn 0))), (c2, .inl (cI, 4, .inl (cn 1))), (c3, .inl (cI, 4, .inl (cn 0))), (c4, .inl (cI, 4, .inl (cn (tk + z)))), (c5, .inl (cI, 4, .inl (cn z))), (au, .inr (10, [.ref t1, .ref t2, .ref t3, .ref t4, .ref t5, .ref t6, .ref t7, .int 0, .int 0])), (ad, .inr (11, [.int (-1), .int 0, .int 0, .int 0, .int 0, .int 0]))] := hD
  refine lv_aload_n hx hb dX0_skip_47 rfl (lv_at hl 0 rfl) ?_
  refine va_get (D := (dC, dI)) (ci := 4) (v := .ref ak) (C := RX0) (T := TX0) (N := 9) hx hb hts hiX0 hown hK hP 0 rfl rfl 4 (by decide) (hw3) (fun _ h9 => h9) rfl dX0_skip_48 ?_
  refine lv_iload_n hx hb dX0_skip_51 rfl (lv_at hl 1 rfl) ?_
  have hPc := hP.sub (ws' := [(ak, .inr (8, [.ref ar, .int 105, .int 0, .int (-1), .int 0, .int 0, .int 0]))]) [1] rfl
  have hDc := hD.sub (ws' := [(ak, .inr (8, [.ref ar, .int 105, .int 0, .int (-1), .int 0, .int 0, .int 0]))]) [1] (by decide) rfl
  have hKc := hK.sub (tys' := [(cI, .int)]) [0] rfl
  have hFc := va_free (wc := [(ak, .inr (8, [.ref ar, .int 105, .int 0, .int (-1), .int 0, .int 0, .int 0]))]) hD hS hA [1] rfl
  refine va_callv (va_runV (As := [.int z]) (rest := []) ⟨hx, hb, hml, hown, hts⟩ (c_X4_skip l dC dI g ak ar cI z H.size) (cwV 1 hts gX0_skip_X4_skip rfl rfl rfl (by decide +kernel) ⟨Nat.le_of_ble_eq_true rfl, Nat.le_of_ble_eq_true rfl⟩) ⟨wIn_blind, va_recv hK hP (ci := 8) (q0 := 1) rfl rfl, wIn_at hPc hKc hDc hG hS hFc⟩ rfl rfl hl.1 rfl (lv_room (Nat.le_of_ble_eq_true rfl)) dX0_skip_52 ⟨Nat.le_of_ble_eq_true rfl, Nat.le_of_ble_eq_true rfl⟩) hS (fun q _ h => hFc q h) hFc (fun u t H1 locs ht hvm hw hB hz1 hk1 hS => ?_)
  obtain ⟨hP1, hK1, hD1⟩ := hB
  rw [ht] at hP1
  obtain ⟨hP, hD⟩ := va_join (wr := [(ah, .inr (4, [.ref ac, .ref au, .ref ab, .ref an, .ref ak, .ref ad, .int (tm + z), .int sl, .long en])), (ac, .inr (5, [.ref c1, .ref c2, .ref c3, .ref c4, .ref c5, .int 15])), (c1, .inl (cI, 4, .inl (cn 0))), (c2, .inl (cI, 4, .inl (cn 1))), (c3, .inl (cI, 4, .inl (cn 0))), (c4, .inl (cI, 4, .inl (cn (tk + z)))), (c5, .inl (cI, 4, .inl (cn z))), (au, .inr (10, [.ref t1, .ref t2, .ref t3, .ref t4, .ref t5, .ref t6, .ref t7, .int 0, .int 0])), (ad, .inr (11, [.int (-1), .int 0, .int 0, .int 0, .int 0, .int 0]))]) (w1 := [(ak, .inr (8, [.ref ar, .int 105, .int 0, .int (-1), .int 0, .int 0, .int 0]))]) hP hD [1] [0, 2, 3, 4, 5, 6, 7, 8, 9] rfl rfl (by decide) (by decide) hk1 hFc hP1 hD1
  generalize H1 = H at hP hS ⊢
  have hP : va_P (dC, dI) vwCl [(ah, .inr (4, [.ref ac, .ref au, .ref ab, .ref an, .ref ak, .ref ad, .int (tm + z), .int sl, .long en])), (ac, .inr (5, [.ref c1, .ref c2, .ref c3, .ref c4, .ref c5, .int 15])), (c1, .inl (cI, 4, .inl (cn 0))), (c2, .inl (cI, 4, .inl (cn 1))), (c3, .inl (cI, 4, .inl (cn 0))), (c4, .inl (cI, 4, .inl (cn (tk + z)))), (c5, .inl (cI, 4, .inl (cn z))), (au, .inr (10, [.ref t1, .ref t2, .ref t3, .ref t4, .ref t5, .ref t6, .ref t7, .int 0, .int 0])), (ad, .inr (11, [.int (-1), .int 0, .int 0, .int 0, .int 0, .int 0])), (ak, .inr (8, [.ref ar, .int 105, .int 0, .int (-1), .int 0, .int 0, .int 0]))] H := hP
  have hD : va_D A [(ah, .inr (4, [.ref ac, .ref au, .ref ab, .ref an, .ref ak, .ref ad, .int (tm + z), .int sl, .long en])), (ac, .inr (5, [.ref c1, .ref c2, .ref c3, .ref c4, .ref c5, .int 15])), (c1, .inl (cI, 4, .inl (cn 0))), (c2, .inl (cI, 4, .inl (cn 1))), (c3, .inl (cI, 4, .inl (cn 0))), (c4, .inl (cI, 4, .inl (cn (tk + z)))), (c5, .inl (cI, 4, .inl (cn z))), (au, .inr (10, [.ref t1, .ref t2, .ref t3, .ref t4, .ref t5, .ref t6, .ref t7, .int 0, .int 0])), (ad, .inr (11, [.int (-1), .int 0, .int 0, .int 0, .int 0, .int 0])), (ak, .inr (8, [.ref ar, .int 105, .int 0, .int (-1), .int 0, .int 0, .int 0]))] := hD
  refine lv_aload_n hx hb dX0_skip_55 rfl (lv_at hl 0 rfl) ?_
  refine lv_iload_n hx hb dX0_skip_56 rfl (lv_at hl 1 rfl) ?_
  have hPc := hP.sub (ws' := [(ah, .inr (4, [.ref ac, .ref au, .ref ab, .ref an, .ref ak, .ref ad, .int (tm + z), .int sl, .long en])), (au, .inr (10, [.ref t1, .ref t2, .ref t3, .ref t4, .ref t5, .ref t6, .ref t7, .int 0, .int 0])), (ak, .inr (8, [.ref ar, .int 105, .int 0, .int (-1), .int 0, .int 0, .int 0]))]) [0, 7, 9] rfl
  have hDc := hD.sub (ws' := [(ah, .inr (4, [.ref ac, .ref au, .ref ab, .ref an, .ref ak, .ref ad, .int (tm + z), .int sl, .long en])), (au, .inr (10, [.ref t1, .ref t2, .ref t3, .ref t4, .ref t5, .ref t6, .ref t7, .int 0, .int 0])), (ak, .inr (8, [.ref ar, .int 105, .int 0, .int (-1), .int 0, .int 0, .int 0]))]) [0, 7, 9] (by decide) rfl
  have hKc := hK.sub (tys' := [(cI, .int)]) [0] rfl
  have hFc := va_free (wc := [(ah, .inr (4, [.ref ac, .ref au, .ref ab, .ref an, .ref ak, .ref ad, .int (tm + z), .int sl, .long en])), (au, .inr (10, [.ref t1, .ref t2, .ref t3, .ref t4, .ref t5, .ref t6, .ref t7, .int 0, .int 0])), (ak, .inr (8, [.ref ar, .int 105, .int 0, .int (-1), .int 0, .int 0, .int 0]))]) hD hS hA [0, 7, 9] rfl
  refine va_callv (va_runV (As := [.int z]) (rest := []) ⟨hx, hb, hml, hown, hts⟩ (c_X0_countEnergy_n l dC dI g ah ac au ab an ak ad ar t1 t2 t3 t4 t5 t6 t7 cI (tm + z) sl z en H.size) (cwV 1 hts gX0_skip_X0_countEnergy rfl rfl rfl (by decide +kernel) ⟨Nat.le_of_ble_eq_true rfl, Nat.le_of_ble_eq_true rfl⟩) ⟨wIn_blind, va_recv hK hP (ci := 4) (q0 := 0) rfl rfl, wIn_at hPc hKc hDc hG hS hFc⟩ rfl rfl hl.1 rfl (lv_room (Nat.le_of_ble_eq_true rfl)) dX0_skip_57 ⟨Nat.le_of_ble_eq_true rfl, Nat.le_of_ble_eq_true rfl⟩) hS (fun q _ h => hFc q h) hFc (fun u t H1 locs ht hvm hw hB hz1 hk1 hS => ?_)
  obtain ⟨hP1, hK1, hD1⟩ := hB
  rw [ht] at hP1
  obtain ⟨hP, hD⟩ := va_join (wr := [(ac, .inr (5, [.ref c1, .ref c2, .ref c3, .ref c4, .ref c5, .int 15])), (c1, .inl (cI, 4, .inl (cn 0))), (c2, .inl (cI, 4, .inl (cn 1))), (c3, .inl (cI, 4, .inl (cn 0))), (c4, .inl (cI, 4, .inl (cn (tk + z)))), (c5, .inl (cI, 4, .inl (cn z))), (ad, .inr (11, [.int (-1), .int 0, .int 0, .int 0, .int 0, .int 0]))]) (w1 := [(ah, .inr (4, [.ref ac, .ref au, .ref ab, .ref an, .ref ak, .ref ad, .int (tm + z), .int sl, .long (en + (5 * (z).toInt64))])), (au, .inr (10, [.ref t1, .ref t2, .ref t3, .ref t4, .ref t5, .ref t6, .ref t7, .int 0, .int 0])), (ak, .inr (8, [.ref ar, .int 105, .int 0, .int (-1), .int 0, .int 0, .int 0]))]) hP hD [0, 7, 9] [1, 2, 3, 4, 5, 6, 8] rfl rfl (by decide) (by decide) hk1 hFc hP1 hD1
  generalize H1 = H at hP hS ⊢
  have hP : va_P (dC, dI) vwCl [(ac, .inr (5, [.ref c1, .ref c2, .ref c3, .ref c4, .ref c5, .int 15])), (c1, .inl (cI, 4, .inl (cn 0))), (c2, .inl (cI, 4, .inl (cn 1))), (c3, .inl (cI, 4, .inl (cn 0))), (c4, .inl (cI, 4, .inl (cn (tk + z)))), (c5, .inl (cI, 4, .inl (cn z))), (ad, .inr (11, [.int (-1), .int 0, .int 0, .int 0, .int 0, .int 0])), (ah, .inr (4, [.ref ac, .ref au, .ref ab, .ref an, .ref ak, .ref ad, .int (tm + z), .int sl, .long (en + (5 * (z).toInt64))])), (au, .inr (10, [.ref t1, .ref t2, .ref t3, .ref t4, .ref t5, .ref t6, .ref t7, .int 0, .int 0])), (ak, .inr (8, [.ref ar, .int 105, .int 0, .int (-1), .int 0, .int 0, .int 0]))] H := hP
  have hD : va_D A [(ac, .inr (5, [.ref c1, .ref c2, .ref c3, .ref c4, .ref c5, .int 15])), (c1, .inl (cI, 4, .inl (cn 0))), (c2, .inl (cI, 4, .inl (cn 1))), (c3, .inl (cI, 4, .inl (cn 0))), (c4, .inl (cI, 4, .inl (cn (tk + z)))), (c5, .inl (cI, 4, .inl (cn z))), (ad, .inr (11, [.int (-1), .int 0, .int 0, .int 0, .int 0, .int 0])), (ah, .inr (4, [.ref ac, .ref au, .ref ab, .ref an, .ref ak, .ref ad, .int (tm + z), .int sl, .long (en + (5 * (z).toInt64))])), (au, .inr (10, [.ref t1, .ref t2, .ref t3, .ref t4, .ref t5, .ref t6, .ref t7, .int 0, .int 0])), (ak, .inr (8, [.ref ar, .int 105, .int 0, .int (-1), .int 0, .int 0, .int 0]))] := hD
  have hP9 := hP.sub (ws' := [(ah, .inr (4, [.ref ac, .ref au, .ref ab, .ref an, .ref ak, .ref ad, .int (tm + z), .int sl, .long (en + (5 * (z).toInt64))])), (ac, .inr (5, [.ref c1, .ref c2, .ref c3, .ref c4, .ref c5, .int 15])), (c1, .inl (cI, 4, .inl (cn 0))), (c2, .inl (cI, 4, .inl (cn 1))), (c3, .inl (cI, 4, .inl (cn 0))), (c4, .inl (cI, 4, .inl (cn (tk + z)))), (c5, .inl (cI, 4, .inl (cn z))), (au, .inr (10, [.ref t1, .ref t2, .ref t3, .ref t4, .ref t5, .ref t6, .ref t7, .int 0, .int 0])), (ak, .inr (8, [.ref ar, .int 105, .int 0, .int (-1), .int 0, .int 0, .int 0])), (ad, .inr (11, [.int (-1), .int 0, .int 0, .int 0, .int 0, .int 0]))]) [7, 0, 1, 2, 3, 4, 5, 8, 9, 6] rfl
  have hD9 := hD.sub (ws' := [(ah, .inr (4, [.ref ac, .ref au, .ref ab, .ref an, .ref ak, .ref ad, .int (tm + z), .int sl, .long (en + (5 * (z).toInt64))])), (ac, .inr (5, [.ref c1, .ref c2, .ref c3, .ref c4, .ref c5, .int 15])), (c1, .inl (cI, 4, .inl (cn 0))), (c2, .inl (cI, 4, .inl (cn 1))), (c3, .inl (cI, 4, .inl (cn 0))), (c4, .inl (cI, 4, .inl (cn (tk + z)))), (c5, .inl (cI, 4, .inl (cn z))), (au, .inr (10, [.ref t1, .ref t2, .ref t3, .ref t4, .ref t5, .ref t6, .ref t7, .int 0, .int 0])), (ak, .inr (8, [.ref ar, .int 105, .int 0, .int (-1), .int 0, .int 0, .int 0])), (ad, .inr (11, [.int (-1), .int 0, .int 0, .int 0, .int 0, .int 0]))]) [7, 0, 1, 2, 3, 4, 5, 8, 9, 6] (by decide) rfl
  have hK9 := hK.sub (tys' := [(cI, .int)]) [0] rfl
  exact W.vret hx hb hr (fun t ht hW => ⟨⟨(), rfl, trivial, wOut_at ht hW hP9 hK9 hD9⟩, hS.F ht⟩) hS.2.2 dX0_skip_60
