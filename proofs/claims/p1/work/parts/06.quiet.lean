set_option maxHeartbeats 4000000 in
set_option maxRecDepth 100000 in
theorem c_X1_goBeat (l : Launch) (dC : Nat → ClassId) (dI : Nat → Nat → Nat) (g : Nat × Nat × Nat) (ac : Nat) (c1 : Nat) (c2 : Nat) (c3 : Nat) (c4 : Nat) (c5 : Nat) (cI : ClassId) (tk : Int32) (fr : Int32) (sz : Nat) : Met l yX1_goBeat wsX1_goBeat ({ frames := 1, cells := 0, slots := 0, locals := 21 } : Room) (va_Pc [.ref ac, .int 0] (wIn dC dI g [(ac, .inr (5, [.ref c1, .ref c2, .ref c3, .ref c4, .ref c5, .int 15])), (c1, .inl (cI, 4, .inl (cn 0))), (c2, .inl (cI, 4, .inl (cn 1))), (c3, .inl (cI, 4, .inl (cn 0))), (c4, .inl (cI, 4, .inl (cn tk))), (c5, .inl (cI, 4, .inl (cn fr)))] [(cI, .int)] sz)) (va_Qv (fun (u : Unit) => True) (fun (u : Unit) (t : State) => wOut dC dI [(ac, .inr (5, [.ref c1, .ref c2, .ref c3, .ref c4, .ref c5, .int 15])), (c1, .inl (cI, 4, .inl (cn 0))), (c2, .inl (cI, 4, .inl (cn 1))), (c3, .inl (cI, 4, .inl (cn 0))), (c4, .inl (cI, 4, .inl (cn (tk + 1)))), (c5, .inl (cI, 4, .inl (cn 1)))] [(cI, .int)] (va_A [(ac, .inr (5, [.ref c1, .ref c2, .ref c3, .ref c4, .ref c5, .int 15])), (c1, .inl (cI, 4, .inl (cn 0))), (c2, .inl (cI, 4, .inl (cn 1))), (c3, .inl (cI, 4, .inl (cn 0))), (c4, .inl (cI, 4, .inl (cn tk))), (c5, .inl (cI, 4, .inl (cn fr)))] sz) t) (va_A [(ac, .inr (5, [.ref c1, .ref c2, .ref c3, .ref c4, .ref c5, .int 15])), (c1, .inl (cI, 4, .inl (cn 0))), (c2, .inl (cI, 4, .inl (cn 1))), (c3, .inl (cI, 4, .inl (cn 0))), (c4, .inl (cI, 4, .inl (cn tk))), (c5, .inl (cI, 4, .inl (cn fr)))] sz)) 0 0 (va_A [(ac, .inr (5, [.ref c1, .ref c2, .ref c3, .ref c4, .ref c5, .int 15])), (c1, .inl (cI, 4, .inl (cn 0))), (c2, .inl (cI, 4, .inl (cn 1))), (c3, .inl (cI, 4, .inl (cn 0))), (c4, .inl (cI, 4, .inl (cn tk))), (c5, .inl (cI, 4, .inl (cn fr)))] sz) := by
  refine Met.ofW (cc := cX1_goBeat) (maxL := 3) (ret := none) (by decide) rfl ?_
  intro p e s m args below meth c s₁ B hml hv
  obtain ⟨rfl, hsz, hP, hK, hD0, hG⟩ := hv
  have hx := B.exec
  have hb := B.bytes
  have hr := B.returns
  have hts := atoms_spec (ws := wsX1_goBeat) B.pre
  have hown : s.vm.findClass RX1 = some m.cls := findClass_of_methodNamed B.named
  have hlocks := B.notSynchronized
  subst hsz
  have hD := hD0.self (sz := s.heap.size)
  generalize hAe : va_A [(ac, .inr (5, [.ref c1, .ref c2, .ref c3, .ref c4, .ref c5, .int 15])), (c1, .inl (cI, 4, .inl (cn 0))), (c2, .inl (cI, 4, .inl (cn 1))), (c3, .inl (cI, 4, .inl (cn 0))), (c4, .inl (cI, 4, .inl (cn tk))), (c5, .inl (cI, 4, .inl (cn fr)))] s.heap.size = A at hD hG ⊢
  have hN := hG.1
  have hA : ∀ q : Nat, s.heap.size ≤ q → A q := fun q h => by rw [← hAe]; exact Or.inr h
  have hS : va_S A s.heap s.heap [] := va_S.rf
  have hP : va_P (dC, dI) vwCl [(ac, .inr (5, [.ref c1, .ref c2, .ref c3, .ref c4, .ref c5, .int 15])), (c1, .inl (cI, 4, .inl (cn 0))), (c2, .inl (cI, 4, .inl (cn 1))), (c3, .inl (cI, 4, .inl (cn 0))), (c4, .inl (cI, 4, .inl (cn tk))), (c5, .inl (cI, 4, .inl (cn fr)))] s.heap := hP
  have hw0 : (Cond.fieldLink RX1 24 "Tickstation$Clocks" "fresh" "[I").before _ s = true := hts _ (List.mem_cons_of_mem _ (List.mem_append_left _ (List.mem_append_left _ (List.mem_of_getElem? (i := 0) rfl))))
  have hiX1 : ∀ w ∈ u_ws RX1 TX1 6, w ∈ wsX1_goBeat := fun _ h => List.mem_cons_of_mem _ (List.mem_append_left _ (List.mem_append_right _ (h)))
  have hw2 : (Cond.fieldLink RX1 21 "Tickstation$Clocks" "ticks" "[I").before _ s = true := hts _ (List.mem_cons_of_mem _ (List.mem_append_left _ (List.mem_append_left _ (List.mem_of_getElem? (i := 1) rfl))))
  have hw3 : (Cond.fieldLink RX1 33 "Tickstation$Clocks" "on" "I").before _ s = true := hts _ (List.mem_cons_of_mem _ (List.mem_append_left _ (List.mem_append_left _ (List.mem_of_getElem? (i := 2) rfl))))
  have hw4 : (Cond.initialized RX8).before _ s = true := hts _ (List.mem_cons_of_mem _ (List.mem_append_left _ (List.mem_append_left _ (List.mem_of_getElem? (i := 7) rfl))))
  have hw5 : (Cond.static yX8_hasBit).before _ s = true := hts _ (List.mem_cons_of_mem _ (List.mem_append_left _ (List.mem_append_left _ (List.mem_of_getElem? (i := 6) rfl))))
  have hw6 : (Cond.fieldLink RX1 9 "Tickstation$Clocks" "source" "[I").before _ s = true := hts _ (List.mem_cons_of_mem _ (List.mem_append_left _ (List.mem_append_left _ (List.mem_of_getElem? (i := 3) rfl))))
  have hw7 : (Cond.fieldLink RX1 18 "Tickstation$Clocks" "count" "[I").before _ s = true := hts _ (List.mem_cons_of_mem _ (List.mem_append_left _ (List.mem_append_left _ (List.mem_of_getElem? (i := 4) rfl))))
  have hw8 : (Cond.fieldLink RX1 15 "Tickstation$Clocks" "divider" "[I").before _ s = true := hts _ (List.mem_cons_of_mem _ (List.mem_append_left _ (List.mem_append_left _ (List.mem_of_getElem? (i := 5) rfl))))
  have hl := lv_entry ([.ref ac, .int 0]) (n := 3) (Nat.le_of_ble_eq_true rfl)
  rw [lg_entry_eq]
  generalize (lg_sl ([.ref ac, .int 0]) ++ List.replicate (3 - (lg_sl ([.ref ac, .int 0])).length) Slot.unset).toArray = ls at hl ⊢
  have hl : lv_has ls 3 [(0, .ref ac), (1, .int 0)] := hl
  refine lv_aload_n hx hb dX1_goBeat_0 rfl (lv_at hl 0 rfl) ?_
  refine va_get (D := (dC, dI)) (ci := 5) (v := .ref c5) (C := RX1) (T := TX1) (N := 6) hx hb hts hiX1 hown hK hP 0 rfl rfl 4 (by decide) (hw0) (fun _ h9 => h9) rfl dX1_goBeat_1 ?_
  refine lv_iconst (v := 0) hx hb dX1_goBeat_4 (by decide) ?_
  refine lv_iconst (v := 1) hx hb dX1_goBeat_5 (by decide) ?_
  refine va_iast (D := (dC, dI)) hx hb hK hP hD hS 5 0 rfl rfl (by unfold vp_in; decide) dX1_goBeat_6 (fun H locs hP hD hS => ?_)
  have hP : va_P (dC, dI) vwCl [(ac, .inr (5, [.ref c1, .ref c2, .ref c3, .ref c4, .ref c5, .int 15])), (c1, .inl (cI, 4, .inl (cn 0))), (c2, .inl (cI, 4, .inl (cn 1))), (c3, .inl (cI, 4, .inl (cn 0))), (c4, .inl (cI, 4, .inl (cn tk))), (c5, .inl (cI, 4, .inl (upd (cn fr) 0 1)))] H := hP
  have hD : va_D A [(ac, .inr (5, [.ref c1, .ref c2, .ref c3, .ref c4, .ref c5, .int 15])), (c1, .inl (cI, 4, .inl (cn 0))), (c2, .inl (cI, 4, .inl (cn 1))), (c3, .inl (cI, 4, .inl (cn 0))), (c4, .inl (cI, 4, .inl (cn tk))), (c5, .inl (cI, 4, .inl (upd (cn fr) 0 1)))] := hD
  refine lv_aload_n hx hb dX1_goBeat_7 rfl (lv_at hl 0 rfl) ?_
  refine va_get (D := (dC, dI)) (ci := 5) (v := .ref c4) (C := RX1) (T := TX1) (N := 6) hx hb hts hiX1 hown hK hP 0 rfl rfl 3 (by decide) (hw2) (fun _ h9 => h9) rfl dX1_goBeat_8 ?_
  refine lv_iconst (v := 0) hx hb dX1_goBeat_11 (by decide) ?_
  refine lv_dup2_11 hx hb dX1_goBeat_12 rfl rfl ?_
  refine va_iald (D := (dC, dI)) hx hb hK hP 4 0 rfl rfl (by unfold vp_in; decide) dX1_goBeat_13 ?_
  refine lt_ci (y := tk) rfl ?_
  refine lv_iconst (v := 1) hx hb dX1_goBeat_14 (by decide) ?_
  refine lv_iadd hx hb dX1_goBeat_15 ?_
  refine va_iast (D := (dC, dI)) hx hb hK hP hD hS 4 0 rfl rfl (by unfold vp_in; decide) dX1_goBeat_16 (fun H locs hP hD hS => ?_)
  have hP : va_P (dC, dI) vwCl [(ac, .inr (5, [.ref c1, .ref c2, .ref c3, .ref c4, .ref c5, .int 15])), (c1, .inl (cI, 4, .inl (cn 0))), (c2, .inl (cI, 4, .inl (cn 1))), (c3, .inl (cI, 4, .inl (cn 0))), (c4, .inl (cI, 4, .inl (upd (cn tk) 0 (tk + 1)))), (c5, .inl (cI, 4, .inl (upd (cn fr) 0 1)))] H := hP
  have hD : va_D A [(ac, .inr (5, [.ref c1, .ref c2, .ref c3, .ref c4, .ref c5, .int 15])), (c1, .inl (cI, 4, .inl (cn 0))), (c2, .inl (cI, 4, .inl (cn 1))), (c3, .inl (cI, 4, .inl (cn 0))), (c4, .inl (cI, 4, .inl (upd (cn tk) 0 (tk + 1)))), (c5, .inl (cI, 4, .inl (upd (cn fr) 0 1)))] := hD
  refine lv_iconst (v := 1) hx hb dX1_goBeat_17 (by decide) ?_
  refine lv_istore_n (lv' := [(2, .int 1), (0, .ref ac), (1, .int 0)]) hx hb dX1_goBeat_18 rfl hl (by decide) rfl (fun ls hl => ?_)
  refine lv_iload_n hx hb dX1_goBeat_19 rfl (lv_at hl 0 rfl) ?_
  refine lv_iconst (v := 4) hx hb dX1_goBeat_20 (by decide) ?_
  refine lv_icmp_ge (tgt := 117) hx hb dX1_goBeat_21 (by decide) (fun c => absurd c (by decide)) (fun _ => ?_)
  refine lv_aload_n hx hb dX1_goBeat_24 rfl (lv_at hl 1 rfl) ?_
  refine va_get (D := (dC, dI)) (ci := 5) (v := .ref c5) (C := RX1) (T := TX1) (N := 6) hx hb hts hiX1 hown hK hP 0 rfl rfl 4 (by decide) (hw0) (fun _ h9 => h9) rfl dX1_goBeat_25 ?_
  refine lv_iload_n hx hb dX1_goBeat_28 rfl (lv_at hl 0 rfl) ?_
  refine lv_iconst (v := 0) hx hb dX1_goBeat_29 (by decide) ?_
  refine va_iast (D := (dC, dI)) hx hb hK hP hD hS 5 0 rfl rfl (by unfold vp_in; decide) dX1_goBeat_30 (fun H locs hP hD hS => ?_)
  have hP : va_P (dC, dI) vwCl [(ac, .inr (5, [.ref c1, .ref c2, .ref c3, .ref c4, .ref c5, .int 15])), (c1, .inl (cI, 4, .inl (cn 0))), (c2, .inl (cI, 4, .inl (cn 1))), (c3, .inl (cI, 4, .inl (cn 0))), (c4, .inl (cI, 4, .inl (upd (cn tk) 0 (tk + 1)))), (c5, .inl (cI, 4, .inl (upd (upd (cn fr) 0 1) 1 0)))] H := hP
  have hD : va_D A [(ac, .inr (5, [.ref c1, .ref c2, .ref c3, .ref c4, .ref c5, .int 15])), (c1, .inl (cI, 4, .inl (cn 0))), (c2, .inl (cI, 4, .inl (cn 1))), (c3, .inl (cI, 4, .inl (cn 0))), (c4, .inl (cI, 4, .inl (upd (cn tk) 0 (tk + 1)))), (c5, .inl (cI, 4, .inl (upd (upd (cn fr) 0 1) 1 0)))] := hD
  refine lv_iload_n hx hb dX1_goBeat_31 rfl (lv_at hl 2 rfl) ?_
  refine lv_if_ne (tgt := 111) hx hb dX1_goBeat_32 (by decide) (fun c => (c (by decide)).elim) (fun _ => ?_)
  refine lv_aload_n hx hb dX1_goBeat_35 rfl (lv_at hl 1 rfl) ?_
  refine va_get (D := (dC, dI)) (ci := 5) (v := .int 15) (C := RX1) (T := TX1) (N := 6) hx hb hts hiX1 hown hK hP 0 rfl rfl 5 (by decide) (hw3) (fun _ h9 => h9) rfl dX1_goBeat_36 ?_
  refine lv_iload_n hx hb dX1_goBeat_39 rfl (lv_at hl 0 rfl) ?_
  have hPc := hP.sub (ws' := []) [] rfl
  have hDc := hD.sub (ws' := []) [] (by decide) rfl
  have hKc := hK.sub (tys' := []) [] rfl
  have hFc := va_free (wc := []) hD hS hA [] rfl
  refine va_calli (va_runSN (As := [.int 15, .int 1]) (rest := []) ⟨hx, hb, hml, hown, hts⟩ (c_X8_hasBit_1 l dC dI g 15 1 H.size (by decide)) ⟨va_cnB (host := "Tickstation") 2 hts gX1_goBeat_X8_hasBit_n37 rfl rfl rfl (hN _ (List.mem_of_getElem? (i := 6) rfl)) hw4 (by decide +kernel) ⟨Nat.le_of_ble_eq_true rfl, Nat.le_of_ble_eq_true rfl⟩, hw5, trivial⟩ ⟨wIn_blind, wIn_at hPc hKc hDc hG hS hFc⟩ rfl rfl hl.1 rfl (lv_room (Nat.le_of_ble_eq_true rfl)) dX1_goBeat_40 ⟨Nat.le_of_ble_eq_true rfl, Nat.le_of_ble_eq_true rfl⟩) hS (fun q _ h => hFc q h) hFc (fun r_1 u t H1 locs ht hvm hw hB hz1 hk1 hS => ?_)
  obtain ⟨hP1, hK1, hD1⟩ := hB
  rw [ht] at hP1
  obtain ⟨hP, hD⟩ := va_join (wr := [(ac, .inr (5, [.ref c1, .ref c2, .ref c3, .ref c4, .ref c5, .int 15])), (c1, .inl (cI, 4, .inl (cn 0))), (c2, .inl (cI, 4, .inl (cn 1))), (c3, .inl (cI, 4, .inl (cn 0))), (c4, .inl (cI, 4, .inl (upd (cn tk) 0 (tk + 1)))), (c5, .inl (cI, 4, .inl (upd (upd (cn fr) 0 1) 1 0)))]) (w1 := []) hP hD [] [0, 1, 2, 3, 4, 5] rfl rfl (by decide) (by decide) hk1 hFc hP1 hD1
  generalize H1 = H at hP hS ⊢
  have hP : va_P (dC, dI) vwCl [(ac, .inr (5, [.ref c1, .ref c2, .ref c3, .ref c4, .ref c5, .int 15])), (c1, .inl (cI, 4, .inl (cn 0))), (c2, .inl (cI, 4, .inl (cn 1))), (c3, .inl (cI, 4, .inl (cn 0))), (c4, .inl (cI, 4, .inl (upd (cn tk) 0 (tk + 1)))), (c5, .inl (cI, 4, .inl (upd (upd (cn fr) 0 1) 1 0)))] H := hP
  have hD : va_D A [(ac, .inr (5, [.ref c1, .ref c2, .ref c3, .ref c4, .ref c5, .int 15])), (c1, .inl (cI, 4, .inl (cn 0))), (c2, .inl (cI, 4, .inl (cn 1))), (c3, .inl (cI, 4, .inl (cn 0))), (c4, .inl (cI, 4, .inl (upd (cn tk) 0 (tk + 1)))), (c5, .inl (cI, 4, .inl (upd (upd (cn fr) 0 1) 1 0)))] := hD
  refine lt_ci (y := 1) hw ?_
  refine lv_if_eq (tgt := 111) hx hb dX1_goBeat_43 (by decide) (fun c => absurd c (by decide)) (fun _ => ?_)
  refine lv_aload_n hx hb dX1_goBeat_46 rfl (lv_at hl 1 rfl) ?_
  refine lv_aload_n hx hb dX1_goBeat_47 rfl (lv_at hl 1 rfl) ?_
  refine va_get (D := (dC, dI)) (ci := 5) (v := .ref c1) (C := RX1) (T := TX1) (N := 6) hx hb hts hiX1 hown hK hP 0 rfl rfl 0 (by decide) (hw6) (fun _ h9 => h9) rfl dX1_goBeat_48 ?_
  refine lv_iload_n hx hb dX1_goBeat_51 rfl (lv_at hl 0 rfl) ?_
  refine va_iald (D := (dC, dI)) hx hb hK hP 1 0 rfl rfl (by unfold vp_in; decide) dX1_goBeat_52 ?_
  refine lt_ci (y := 0) rfl ?_
  have hPc := hP.sub (ws' := [(ac, .inr (5, [.ref c1, .ref c2, .ref c3, .ref c4, .ref c5, .int 15])), (c5, .inl (cI, 4, .inl (upd (upd (cn fr) 0 1) 1 0)))]) [0, 5] rfl
  have hDc := hD.sub (ws' := [(ac, .inr (5, [.ref c1, .ref c2, .ref c3, .ref c4, .ref c5, .int 15])), (c5, .inl (cI, 4, .inl (upd (upd (cn fr) 0 1) 1 0)))]) [0, 5] (by decide) rfl
  have hKc := hK.sub (tys' := [(cI, .int)]) [0] rfl
  have hFc := va_free (wc := [(ac, .inr (5, [.ref c1, .ref c2, .ref c3, .ref c4, .ref c5, .int 15])), (c5, .inl (cI, 4, .inl (upd (upd (cn fr) 0 1) 1 0)))]) hD hS hA [0, 5] rfl
  refine va_calli (va_runV (As := [.int 0]) (rest := []) ⟨hx, hb, hml, hown, hts⟩ (c_X1_freshOf_0 l dC dI g ac (.ref c1) (.ref c2) (.ref c3) (.ref c4) c5 15 cI (upd (upd (cn fr) 0 1) 1 0) H.size) (cwV 1 hts gX1_goBeat_X1_freshOf rfl rfl rfl (by decide +kernel) ⟨Nat.le_of_ble_eq_true rfl, Nat.le_of_ble_eq_true rfl⟩) ⟨wIn_blind, va_recv hK hP (ci := 5) (q0 := 0) rfl rfl, wIn_at hPc hKc hDc hG hS hFc⟩ rfl rfl hl.1 rfl (lv_room (Nat.le_of_ble_eq_true rfl)) dX1_goBeat_53 ⟨Nat.le_of_ble_eq_true rfl, Nat.le_of_ble_eq_true rfl⟩) hS (fun q _ h => hFc q h) hFc (fun r_2 u t H1 locs ht hvm hw hB hz1 hk1 hS => ?_)
  obtain ⟨hP1, hK1, hD1⟩ := hB
  rw [ht] at hP1
  obtain ⟨hP, hD⟩ := va_join (wr := [(c1, .inl (cI, 4, .inl (cn 0))), (c2, .inl (cI, 4, .inl (cn 1))), (c3, .inl (cI, 4, .inl (cn 0))), (c4, .inl (cI, 4, .inl (upd (cn tk) 0 (tk + 1))))]) (w1 := [(ac, .inr (5, [.ref c1, .ref c2, .ref c3, .ref c4, .ref c5, .int 15])), (c5, .inl (cI, 4, .inl (upd (upd (cn fr) 0 1) 1 0)))]) hP hD [0, 5] [1, 2, 3, 4] rfl rfl (by decide) (by decide) hk1 hFc hP1 hD1
  generalize H1 = H at hP hS ⊢
  have hP : va_P (dC, dI) vwCl [(c1, .inl (cI, 4, .inl (cn 0))), (c2, .inl (cI, 4, .inl (cn 1))), (c3, .inl (cI, 4, .inl (cn 0))), (c4, .inl (cI, 4, .inl (upd (cn tk) 0 (tk + 1)))), (ac, .inr (5, [.ref c1, .ref c2, .ref c3, .ref c4, .ref c5, .int 15])), (c5, .inl (cI, 4, .inl (upd (upd (cn fr) 0 1) 1 0)))] H := hP
  have hD : va_D A [(c1, .inl (cI, 4, .inl (cn 0))), (c2, .inl (cI, 4, .inl (cn 1))), (c3, .inl (cI, 4, .inl (cn 0))), (c4, .inl (cI, 4, .inl (upd (cn tk) 0 (tk + 1)))), (ac, .inr (5, [.ref c1, .ref c2, .ref c3, .ref c4, .ref c5, .int 15])), (c5, .inl (cI, 4, .inl (upd (upd (cn fr) 0 1) 1 0)))] := hD
  refine lt_ci (y := 1) hw ?_
  refine lv_if_ne (tgt := 62) hx hb dX1_goBeat_56 (by decide) (fun _ => ?_) (fun c => absurd c (by decide))
  refine lv_aload_n hx hb dX1_goBeat_62 rfl (lv_at hl 1 rfl) ?_
  refine va_get (D := (dC, dI)) (ci := 5) (v := .ref c3) (C := RX1) (T := TX1) (N := 6) hx hb hts hiX1 hown hK hP 4 rfl rfl 2 (by decide) (hw7) (fun _ h9 => h9) rfl dX1_goBeat_63 ?_
  refine lv_iload_n hx hb dX1_goBeat_66 rfl (lv_at hl 0 rfl) ?_
  refine lv_dup2_11 hx hb dX1_goBeat_67 rfl rfl ?_
  refine va_iald (D := (dC, dI)) hx hb hK hP 2 0 rfl rfl (by unfold vp_in; decide) dX1_goBeat_68 ?_
  refine lt_ci (y := 0) rfl ?_
  refine lv_iconst (v := 1) hx hb dX1_goBeat_69 (by decide) ?_
  refine lv_iadd hx hb dX1_goBeat_70 ?_
  refine lt_ci (y := 1) (by first | rfl | decide) ?_
  refine va_iast (D := (dC, dI)) hx hb hK hP hD hS 2 0 rfl rfl (by unfold vp_in; decide) dX1_goBeat_71 (fun H locs hP hD hS => ?_)
  have hP : va_P (dC, dI) vwCl [(c1, .inl (cI, 4, .inl (cn 0))), (c2, .inl (cI, 4, .inl (cn 1))), (c3, .inl (cI, 4, .inl (upd (cn 0) 1 1))), (c4, .inl (cI, 4, .inl (upd (cn tk) 0 (tk + 1)))), (ac, .inr (5, [.ref c1, .ref c2, .ref c3, .ref c4, .ref c5, .int 15])), (c5, .inl (cI, 4, .inl (upd (upd (cn fr) 0 1) 1 0)))] H := hP
  have hD : va_D A [(c1, .inl (cI, 4, .inl (cn 0))), (c2, .inl (cI, 4, .inl (cn 1))), (c3, .inl (cI, 4, .inl (upd (cn 0) 1 1))), (c4, .inl (cI, 4, .inl (upd (cn tk) 0 (tk + 1)))), (ac, .inr (5, [.ref c1, .ref c2, .ref c3, .ref c4, .ref c5, .int 15])), (c5, .inl (cI, 4, .inl (upd (upd (cn fr) 0 1) 1 0)))] := hD
  refine lv_aload_n hx hb dX1_goBeat_72 rfl (lv_at hl 1 rfl) ?_
  refine va_get (D := (dC, dI)) (ci := 5) (v := .ref c3) (C := RX1) (T := TX1) (N := 6) hx hb hts hiX1 hown hK hP 4 rfl rfl 2 (by decide) (hw7) (fun _ h9 => h9) rfl dX1_goBeat_73 ?_
  refine lv_iload_n hx hb dX1_goBeat_76 rfl (lv_at hl 0 rfl) ?_
  refine va_iald (D := (dC, dI)) hx hb hK hP 2 0 rfl rfl (by unfold vp_in; decide) dX1_goBeat_77 ?_
  refine lt_ci (y := 1) rfl ?_
  refine lv_aload_n hx hb dX1_goBeat_78 rfl (lv_at hl 1 rfl) ?_
  refine va_get (D := (dC, dI)) (ci := 5) (v := .ref c2) (C := RX1) (T := TX1) (N := 6) hx hb hts hiX1 hown hK hP 4 rfl rfl 1 (by decide) (hw8) (fun _ h9 => h9) rfl dX1_goBeat_79 ?_
  refine lv_iload_n hx hb dX1_goBeat_82 rfl (lv_at hl 0 rfl) ?_
  refine va_iald (D := (dC, dI)) hx hb hK hP 1 0 rfl rfl (by unfold vp_in; decide) dX1_goBeat_83 ?_
  refine lt_ci (y := 1) rfl ?_
  refine lv_icmp_lt (tgt := 111) hx hb dX1_goBeat_84 (by decide) (fun c => absurd c (by decide)) (fun _ => ?_)
  refine lv_aload_n hx hb dX1_goBeat_87 rfl (lv_at hl 1 rfl) ?_
  refine va_get (D := (dC, dI)) (ci := 5) (v := .ref c3) (C := RX1) (T := TX1) (N := 6) hx hb hts hiX1 hown hK hP 4 rfl rfl 2 (by decide) (hw7) (fun _ h9 => h9) rfl dX1_goBeat_88 ?_
  refine lv_iload_n hx hb dX1_goBeat_91 rfl (lv_at hl 0 rfl) ?_
  refine lv_iconst (v := 0) hx hb dX1_goBeat_92 (by decide) ?_
  refine va_iast (D := (dC, dI)) hx hb hK hP hD hS 2 0 rfl rfl (by unfold vp_in; decide) dX1_goBeat_93 (fun H locs hP hD hS => ?_)
  have hP : va_P (dC, dI) vwCl [(c1, .inl (cI, 4, .inl (cn 0))), (c2, .inl (cI, 4, .inl (cn 1))), (c3, .inl (cI, 4, .inl (upd (upd (cn 0) 1 1) 1 0))), (c4, .inl (cI, 4, .inl (upd (cn tk) 0 (tk + 1)))), (ac, .inr (5, [.ref c1, .ref c2, .ref c3, .ref c4, .ref c5, .int 15])), (c5, .inl (cI, 4, .inl (upd (upd (cn fr) 0 1) 1 0)))] H := hP
  have hD : va_D A [(c1, .inl (cI, 4, .inl (cn 0))), (c2, .inl (cI, 4, .inl (cn 1))), (c3, .inl (cI, 4, .inl (upd (upd (cn 0) 1 1) 1 0))), (c4, .inl (cI, 4, .inl (upd (cn tk) 0 (tk + 1)))), (ac, .inr (5, [.ref c1, .ref c2, .ref c3, .ref c4, .ref c5, .int 15])), (c5, .inl (cI, 4, .inl (upd (upd (cn fr) 0 1) 1 0)))] := hD
  refine lv_aload_n hx hb dX1_goBeat_94 rfl (lv_at hl 1 rfl) ?_
  refine va_get (D := (dC, dI)) (ci := 5) (v := .ref c4) (C := RX1) (T := TX1) (N := 6) hx hb hts hiX1 hown hK hP 4 rfl rfl 3 (by decide) (hw2) (fun _ h9 => h9) rfl dX1_goBeat_95 ?_
  refine lv_iload_n hx hb dX1_goBeat_98 rfl (lv_at hl 0 rfl) ?_
  refine lv_dup2_11 hx hb dX1_goBeat_99 rfl rfl ?_
  refine va_iald (D := (dC, dI)) hx hb hK hP 3 0 rfl rfl (by unfold vp_in; decide) dX1_goBeat_100 ?_
  refine lt_ci (y := tk) rfl ?_
  refine lv_iconst (v := 1) hx hb dX1_goBeat_101 (by decide) ?_
  refine lv_iadd hx hb dX1_goBeat_102 ?_
  refine va_iast (D := (dC, dI)) hx hb hK hP hD hS 3 0 rfl rfl (by unfold vp_in; decide) dX1_goBeat_103 (fun H locs hP hD hS => ?_)
  have hP : va_P (dC, dI) vwCl [(c1, .inl (cI, 4, .inl (cn 0))), (c2, .inl (cI, 4, .inl (cn 1))), (c3, .inl (cI, 4, .inl (upd (upd (cn 0) 1 1) 1 0))), (c4, .inl (cI, 4, .inl (upd (upd (cn tk) 0 (tk + 1)) 1 (tk + 1)))), (ac, .inr (5, [.ref c1, .ref c2, .ref c3, .ref c4, .ref c5, .int 15])), (c5, .inl (cI, 4, .inl (upd (upd (cn fr) 0 1) 1 0)))] H := hP
  have hD : va_D A [(c1, .inl (cI, 4, .inl (cn 0))), (c2, .inl (cI, 4, .inl (cn 1))), (c3, .inl (cI, 4, .inl (upd (upd (cn 0) 1 1) 1 0))), (c4, .inl (cI, 4, .inl (upd (upd (cn tk) 0 (tk + 1)) 1 (tk + 1)))), (ac, .inr (5, [.ref c1, .ref c2, .ref c3, .ref c4, .ref c5, .int 15])), (c5, .inl (cI, 4, .inl (upd (upd (cn fr) 0 1) 1 0)))] := hD
  refine lv_aload_n hx hb dX1_goBeat_104 rfl (lv_at hl 1 rfl) ?_
  refine va_get (D := (dC, dI)) (ci := 5) (v := .ref c5) (C := RX1) (T := TX1) (N := 6) hx hb hts hiX1 hown hK hP 4 rfl rfl 4 (by decide) (hw0) (fun _ h9 => h9) rfl dX1_goBeat_105 ?_
  refine lv_iload_n hx hb dX1_goBeat_108 rfl (lv_at hl 0 rfl) ?_
  refine lv_iconst (v := 1) hx hb dX1_goBeat_109 (by decide) ?_
  refine va_iast (D := (dC, dI)) hx hb hK hP hD hS 5 0 rfl rfl (by unfold vp_in; decide) dX1_goBeat_110 (fun H locs hP hD hS => ?_)
  have hP : va_P (dC, dI) vwCl [(c1, .inl (cI, 4, .inl (cn 0))), (c2, .inl (cI, 4, .inl (cn 1))), (c3, .inl (cI, 4, .inl (upd (upd (cn 0) 1 1) 1 0))), (c4, .inl (cI, 4, .inl (upd (upd (cn tk) 0 (tk + 1)) 1 (tk + 1)))), (ac, .inr (5, [.ref c1, .ref c2, .ref c3, .ref c4, .ref c5, .int 15])), (c5, .inl (cI, 4, .inl (upd (upd (upd (cn fr) 0 1) 1 0) 1 1)))] H := hP
  have hD : va_D A [(c1, .inl (cI, 4, .inl (cn 0))), (c2, .inl (cI, 4, .inl (cn 1))), (c3, .inl (cI, 4, .inl (upd (upd (cn 0) 1 1) 1 0))), (c4, .inl (cI, 4, .inl (upd (upd (cn tk) 0 (tk + 1)) 1 (tk + 1)))), (ac, .inr (5, [.ref c1, .ref c2, .ref c3, .ref c4, .ref c5, .int 15])), (c5, .inl (cI, 4, .inl (upd (upd (upd (cn fr) 0 1) 1 0) 1 1)))] := hD
  refine lv_iinc (v := 2) (lv' := [(2, .int 2), (0, .ref ac), (1, .int 0)]) hx hb dX1_goBeat_111 hl (k := 0) rfl (by first | rfl | decide) (by decide) rfl (fun ls hl => ?_)
  refine lv_goto (tgt := 19) hx hb dX1_goBeat_114 (by decide) ?_
  refine lv_iload_n hx hb dX1_goBeat_19 rfl (lv_at hl 0 rfl) ?_
  refine lv_iconst (v := 4) hx hb dX1_goBeat_20 (by decide) ?_
  refine lv_icmp_ge (tgt := 117) hx hb dX1_goBeat_21 (by decide) (fun c => absurd c (by decide)) (fun _ => ?_)
  refine lv_aload_n hx hb dX1_goBeat_24 rfl (lv_at hl 1 rfl) ?_
  refine va_get (D := (dC, dI)) (ci := 5) (v := .ref c5) (C := RX1) (T := TX1) (N := 6) hx hb hts hiX1 hown hK hP 4 rfl rfl 4 (by decide) (hw0) (fun _ h9 => h9) rfl dX1_goBeat_25 ?_
  refine lv_iload_n hx hb dX1_goBeat_28 rfl (lv_at hl 0 rfl) ?_
  refine lv_iconst (v := 0) hx hb dX1_goBeat_29 (by decide) ?_
  refine va_iast (D := (dC, dI)) hx hb hK hP hD hS 5 0 rfl rfl (by unfold vp_in; decide) dX1_goBeat_30 (fun H locs hP hD hS => ?_)
  have hP : va_P (dC, dI) vwCl [(c1, .inl (cI, 4, .inl (cn 0))), (c2, .inl (cI, 4, .inl (cn 1))), (c3, .inl (cI, 4, .inl (upd (upd (cn 0) 1 1) 1 0))), (c4, .inl (cI, 4, .inl (upd (upd (cn tk) 0 (tk + 1)) 1 (tk + 1)))), (ac, .inr (5, [.ref c1, .ref c2, .ref c3, .ref c4, .ref c5, .int 15])), (c5, .inl (cI, 4, .inl (upd (upd (upd (upd (cn fr) 0 1) 1 0) 1 1) 2 0)))] H := hP
  have hD : va_D A [(c1, .inl (cI, 4, .inl (cn 0))), (c2, .inl (cI, 4, .inl (cn 1))), (c3, .inl (cI, 4, .inl (upd (upd (cn 0) 1 1) 1 0))), (c4, .inl (cI, 4, .inl (upd (upd (cn tk) 0 (tk + 1)) 1 (tk + 1)))), (ac, .inr (5, [.ref c1, .ref c2, .ref c3, .ref c4, .ref c5, .int 15])), (c5, .inl (cI, 4, .inl (upd (upd (upd (upd (cn fr) 0 1) 1 0) 1 1) 2 0)))] := hD
  refine lv_iload_n hx hb dX1_goBeat_31 rfl (lv_at hl 2 rfl) ?_
  refine lv_if_ne (tgt := 111) hx hb dX1_goBeat_32 (by decide) (fun c => (c (by decide)).elim) (fun _ => ?_)
  refine lv_aload_n hx hb dX1_goBeat_35 rfl (lv_at hl 1 rfl) ?_
  refine va_get (D := (dC, dI)) (ci := 5) (v := .int 15) (C := RX1) (T := TX1) (N := 6) hx hb hts hiX1 hown hK hP 4 rfl rfl 5 (by decide) (hw3) (fun _ h9 => h9) rfl dX1_goBeat_36 ?_
  refine lv_iload_n hx hb dX1_goBeat_39 rfl (lv_at hl 0 rfl) ?_
  have hPc := hP.sub (ws' := []) [] rfl
  have hDc := hD.sub (ws' := []) [] (by decide) rfl
  have hKc := hK.sub (tys' := []) [] rfl
  have hFc := va_free (wc := []) hD hS hA [] rfl
  refine va_calli (va_runSN (As := [.int 15, .int 2]) (rest := []) ⟨hx, hb, hml, hown, hts⟩ (c_X8_hasBit_1 l dC dI g 15 2 H.size (by decide)) ⟨va_cnB (host := "Tickstation") 2 hts gX1_goBeat_X8_hasBit_n37 rfl rfl rfl (hN _ (List.mem_of_getElem? (i := 6) rfl)) hw4 (by decide +kernel) ⟨Nat.le_of_ble_eq_true rfl, Nat.le_of_ble_eq_true rfl⟩, hw5, trivial⟩ ⟨wIn_blind, wIn_at hPc hKc hDc hG hS hFc⟩ rfl rfl hl.1 rfl (lv_room (Nat.le_of_ble_eq_true rfl)) dX1_goBeat_40 ⟨Nat.le_of_ble_eq_true rfl, Nat.le_of_ble_eq_true rfl⟩) hS (fun q _ h => hFc q h) hFc (fun r_3 u t H1 locs ht hvm hw hB hz1 hk1 hS => ?_)
  obtain ⟨hP1, hK1, hD1⟩ := hB
  rw [ht] at hP1
  obtain ⟨hP, hD⟩ := va_join (wr := [(c1, .inl (cI, 4, .inl (cn 0))), (c2, .inl (cI, 4, .inl (cn 1))), (c3, .inl (cI, 4, .inl (upd (upd (cn 0) 1 1) 1 0))), (c4, .inl (cI, 4, .inl (upd (upd (cn tk) 0 (tk + 1)) 1 (tk + 1)))), (ac, .inr (5, [.ref c1, .ref c2, .ref c3, .ref c4, .ref c5, .int 15])), (c5, .inl (cI, 4, .inl (upd (upd (upd (upd (cn fr) 0 1) 1 0) 1 1) 2 0)))]) (w1 := []) hP hD [] [0, 1, 2, 3, 4, 5] rfl rfl (by decide) (by decide) hk1 hFc hP1 hD1
  generalize H1 = H at hP hS ⊢
  have hP : va_P (dC, dI) vwCl [(c1, .inl (cI, 4, .inl (cn 0))), (c2, .inl (cI, 4, .inl (cn 1))), (c3, .inl (cI, 4, .inl (upd (upd (cn 0) 1 1) 1 0))), (c4, .inl (cI, 4, .inl (upd (upd (cn tk) 0 (tk + 1)) 1 (tk + 1)))), (ac, .inr (5, [.ref c1, .ref c2, .ref c3, .ref c4, .ref c5, .int 15])), (c5, .inl (cI, 4, .inl (upd (upd (upd (upd (cn fr) 0 1) 1 0) 1 1) 2 0)))] H := hP
  have hD : va_D A [(c1, .inl (cI, 4, .inl (cn 0))), (c2, .inl (cI, 4, .inl (cn 1))), (c3, .inl (cI, 4, .inl (upd (upd (cn 0) 1 1) 1 0))), (c4, .inl (cI, 4, .inl (upd (upd (cn tk) 0 (tk + 1)) 1 (tk + 1)))), (ac, .inr (5, [.ref c1, .ref c2, .ref c3, .ref c4, .ref c5, .int 15])), (c5, .inl (cI, 4, .inl (upd (upd (upd (upd (cn fr) 0 1) 1 0) 1 1) 2 0)))] := hD
  refine lt_ci (y := 1) hw ?_
  refine lv_if_eq (tgt := 111) hx hb dX1_goBeat_43 (by decide) (fun c => absurd c (by decide)) (fun _ => ?_)
  refine lv_aload_n hx hb dX1_goBeat_46 rfl (lv_at hl 1 rfl) ?_
  refine lv_aload_n hx hb dX1_goBeat_47 rfl (lv_at hl 1 rfl) ?_
  refine va_get (D := (dC, dI)) (ci := 5) (v := .ref c1) (C := RX1) (T := TX1) (N := 6) hx hb hts hiX1 hown hK hP 4 rfl rfl 0 (by decide) (hw6) (fun _ h9 => h9) rfl dX1_goBeat_48 ?_
  refine lv_iload_n hx hb dX1_goBeat_51 rfl (lv_at hl 0 rfl) ?_
  refine va_iald (D := (dC, dI)) hx hb hK hP 0 0 rfl rfl (by unfold vp_in; decide) dX1_goBeat_52 ?_
  refine lt_ci (y := 0) rfl ?_
  have hPc := hP.sub (ws' := [(ac, .inr (5, [.ref c1, .ref c2, .ref c3, .ref c4, .ref c5, .int 15])), (c5, .inl (cI, 4, .inl (upd (upd (upd (upd (cn fr) 0 1) 1 0) 1 1) 2 0)))]) [4, 5] rfl
  have hDc := hD.sub (ws' := [(ac, .inr (5, [.ref c1, .ref c2, .ref c3, .ref c4, .ref c5, .int 15])), (c5, .inl (cI, 4, .inl (upd (upd (upd (upd (cn fr) 0 1) 1 0) 1 1) 2 0)))]) [4, 5] (by decide) rfl
  have hKc := hK.sub (tys' := [(cI, .int)]) [0] rfl
  have hFc := va_free (wc := [(ac, .inr (5, [.ref c1, .ref c2, .ref c3, .ref c4, .ref c5, .int 15])), (c5, .inl (cI, 4, .inl (upd (upd (upd (upd (cn fr) 0 1) 1 0) 1 1) 2 0)))]) hD hS hA [4, 5] rfl
  refine va_calli (va_runV (As := [.int 0]) (rest := []) ⟨hx, hb, hml, hown, hts⟩ (c_X1_freshOf_0 l dC dI g ac (.ref c1) (.ref c2) (.ref c3) (.ref c4) c5 15 cI (upd (upd (upd (upd (cn fr) 0 1) 1 0) 1 1) 2 0) H.size) (cwV 1 hts gX1_goBeat_X1_freshOf rfl rfl rfl (by decide +kernel) ⟨Nat.le_of_ble_eq_true rfl, Nat.le_of_ble_eq_true rfl⟩) ⟨wIn_blind, va_recv hK hP (ci := 5) (q0 := 4) rfl rfl, wIn_at hPc hKc hDc hG hS hFc⟩ rfl rfl hl.1 rfl (lv_room (Nat.le_of_ble_eq_true rfl)) dX1_goBeat_53 ⟨Nat.le_of_ble_eq_true rfl, Nat.le_of_ble_eq_true rfl⟩) hS (fun q _ h => hFc q h) hFc (fun r_4 u t H1 locs ht hvm hw hB hz1 hk1 hS => ?_)
  obtain ⟨hP1, hK1, hD1⟩ := hB
  rw [ht] at hP1
  obtain ⟨hP, hD⟩ := va_join (wr := [(c1, .inl (cI, 4, .inl (cn 0))), (c2, .inl (cI, 4, .inl (cn 1))), (c3, .inl (cI, 4, .inl (upd (upd (cn 0) 1 1) 1 0))), (c4, .inl (cI, 4, .inl (upd (upd (cn tk) 0 (tk + 1)) 1 (tk + 1))))]) (w1 := [(ac, .inr (5, [.ref c1, .ref c2, .ref c3, .ref c4, .ref c5, .int 15])), (c5, .inl (cI, 4, .inl (upd (upd (upd (upd (cn fr) 0 1) 1 0) 1 1) 2 0)))]) hP hD [4, 5] [0, 1, 2, 3] rfl rfl (by decide) (by decide) hk1 hFc hP1 hD1
  generalize H1 = H at hP hS ⊢
  have hP : va_P (dC, dI) vwCl [(c1, .inl (cI, 4, .inl (cn 0))), (c2, .inl (cI, 4, .inl (cn 1))), (c3, .inl (cI, 4, .inl (upd (upd (cn 0) 1 1) 1 0))), (c4, .inl (cI, 4, .inl (upd (upd (cn tk) 0 (tk + 1)) 1 (tk + 1)))), (ac, .inr (5, [.ref c1, .ref c2, .ref c3, .ref c4, .ref c5, .int 15])), (c5, .inl (cI, 4, .inl (upd (upd (upd (upd (cn fr) 0 1) 1 0) 1 1) 2 0)))] H := hP
  have hD : va_D A [(c1, .inl (cI, 4, .inl (cn 0))), (c2, .inl (cI, 4, .inl (cn 1))), (c3, .inl (cI, 4, .inl (upd (upd (cn 0) 1 1) 1 0))), (c4, .inl (cI, 4, .inl (upd (upd (cn tk) 0 (tk + 1)) 1 (tk + 1)))), (ac, .inr (5, [.ref c1, .ref c2, .ref c3, .ref c4, .ref c5, .int 15])), (c5, .inl (cI, 4, .inl (upd (upd (upd (upd (cn fr) 0 1) 1 0) 1 1) 2 0)))] := hD
  refine lt_ci (y := 1) hw ?_
  refine lv_if_ne (tgt := 62) hx hb dX1_goBeat_56 (by decide) (fun _ => ?_) (fun c => absurd c (by decide))
  refine lv_aload_n hx hb dX1_goBeat_62 rfl (lv_at hl 1 rfl) ?_
  refine va_get (D := (dC, dI)) (ci := 5) (v := .ref c3) (C := RX1) (T := TX1) (N := 6) hx hb hts hiX1 hown hK hP 4 rfl rfl 2 (by decide) (hw7) (fun _ h9 => h9) rfl dX1_goBeat_63 ?_
  refine lv_iload_n hx hb dX1_goBeat_66 rfl (lv_at hl 0 rfl) ?_
  refine lv_dup2_11 hx hb dX1_goBeat_67 rfl rfl ?_
  refine va_iald (D := (dC, dI)) hx hb hK hP 2 0 rfl rfl (by unfold vp_in; decide) dX1_goBeat_68 ?_
  refine lt_ci (y := 0) rfl ?_
  refine lv_iconst (v := 1) hx hb dX1_goBeat_69 (by decide) ?_
  refine lv_iadd hx hb dX1_goBeat_70 ?_
  refine lt_ci (y := 1) (by first | rfl | decide) ?_
  refine va_iast (D := (dC, dI)) hx hb hK hP hD hS 2 0 rfl rfl (by unfold vp_in; decide) dX1_goBeat_71 (fun H locs hP hD hS => ?_)
  have hP : va_P (dC, dI) vwCl [(c1, .inl (cI, 4, .inl (cn 0))), (c2, .inl (cI, 4, .inl (cn 1))), (c3, .inl (cI, 4, .inl (upd (upd (upd (cn 0) 1 1) 1 0) 2 1))), (c4, .inl (cI, 4, .inl (upd (upd (cn tk) 0 (tk + 1)) 1 (tk + 1)))), (ac, .inr (5, [.ref c1, .ref c2, .ref c3, .ref c4, .ref c5, .int 15])), (c5, .inl (cI, 4, .inl (upd (upd (upd (upd (cn fr) 0 1) 1 0) 1 1) 2 0)))] H := hP
  have hD : va_D A [(c1, .inl (cI, 4, .inl (cn 0))), (c2, .inl (cI, 4, .inl (cn 1))), (c3, .inl (cI, 4, .inl (upd (upd (upd (cn 0) 1 1) 1 0) 2 1))), (c4, .inl (cI, 4, .inl (upd (upd (cn tk) 0 (tk + 1)) 1 (tk + 1)))), (ac, .inr (5, [.ref c1, .ref c2, .ref c3, .ref c4, .ref c5, .int 15])), (c5, .inl (cI, 4, .inl (upd (upd (upd (upd (cn fr) 0 1) 1 0) 1 1) 2 0)))] := hD
  refine lv_aload_n hx hb dX1_goBeat_72 rfl (lv_at hl 1 rfl) ?_
  refine va_get (D := (dC, dI)) (ci := 5) (v := .ref c3) (C := RX1) (T := TX1) (N := 6) hx hb hts hiX1 hown hK hP 4 rfl rfl 2 (by decide) (hw7) (fun _ h9 => h9) rfl dX1_goBeat_73 ?_
  refine lv_iload_n hx hb dX1_goBeat_76 rfl (lv_at hl 0 rfl) ?_
  refine va_iald (D := (dC, dI)) hx hb hK hP 2 0 rfl rfl (by unfold vp_in; decide) dX1_goBeat_77 ?_
  refine lt_ci (y := 1) rfl ?_
  refine lv_aload_n hx hb dX1_goBeat_78 rfl (lv_at hl 1 rfl) ?_
  refine va_get (D := (dC, dI)) (ci := 5) (v := .ref c2) (C := RX1) (T := TX1) (N := 6) hx hb hts hiX1 hown hK hP 4 rfl rfl 1 (by decide) (hw8) (fun _ h9 => h9) rfl dX1_goBeat_79 ?_
  refine lv_iload_n hx hb dX1_goBeat_82 rfl (lv_at hl 0 rfl) ?_
  refine va_iald (D := (dC, dI)) hx hb hK hP 1 0 rfl rfl (by unfold vp_in; decide) dX1_goBeat_83 ?_
  refine lt_ci (y := 1) rfl ?_
  refine lv_icmp_lt (tgt := 111) hx hb dX1_goBeat_84 (by decide) (fun c => absurd c (by decide)) (fun _ => ?_)
  refine lv_aload_n hx hb dX1_goBeat_87 rfl (lv_at hl 1 rfl) ?_
  refine va_get (D := (dC, dI)) (ci := 5) (v := .ref c3) (C := RX1) (T := TX1) (N := 6) hx hb hts hiX1 hown hK hP 4 rfl rfl 2 (by decide) (hw7) (fun _ h9 => h9) rfl dX1_goBeat_88 ?_
  refine lv_iload_n hx hb dX1_goBeat_91 rfl (lv_at hl 0 rfl) ?_
  refine lv_iconst (v := 0) hx hb dX1_goBeat_92 (by decide) ?_
  refine va_iast (D := (dC, dI)) hx hb hK hP hD hS 2 0 rfl rfl (by unfold vp_in; decide) dX1_goBeat_93 (fun H locs hP hD hS => ?_)
  have hP : va_P (dC, dI) vwCl [(c1, .inl (cI, 4, .inl (cn 0))), (c2, .inl (cI, 4, .inl (cn 1))), (c3, .inl (cI, 4, .inl (upd (upd (upd (upd (cn 0) 1 1) 1 0) 2 1) 2 0))), (c4, .inl (cI, 4, .inl (upd (upd (cn tk) 0 (tk + 1)) 1 (tk + 1)))), (ac, .inr (5, [.ref c1, .ref c2, .ref c3, .ref c4, .ref c5, .int 15])), (c5, .inl (cI, 4, .inl (upd (upd (upd (upd (cn fr) 0 1) 1 0) 1 1) 2 0)))] H := hP
  have hD : va_D A [(c1, .inl (cI, 4, .inl (cn 0))), (c2, .inl (cI, 4, .inl (cn 1))), (c3, .inl (cI, 4, .inl (upd (upd (upd (upd (cn 0) 1 1) 1 0) 2 1) 2 0))), (c4, .inl (cI, 4, .inl (upd (upd (cn tk) 0 (tk + 1)) 1 (tk + 1)))), (ac, .inr (5, [.ref c1, .ref c2, .ref c3, .ref c4, .ref c5, .int 15])), (c5, .inl (cI, 4, .inl (upd (upd (upd (upd (cn fr) 0 1) 1 0) 1 1) 2 0)))] := hD
  refine lv_aload_n hx hb dX1_goBeat_94 rfl (lv_at hl 1 rfl) ?_
  refine va_get (D := (dC, dI)) (ci := 5) (v := .ref c4) (C := RX1) (T := TX1) (N := 6) hx hb hts hiX1 hown hK hP 4 rfl rfl 3 (by decide) (hw2) (fun _ h9 => h9) rfl dX1_goBeat_95 ?_
  refine lv_iload_n hx hb dX1_goBeat_98 rfl (lv_at hl 0 rfl) ?_
  refine lv_dup2_11 hx hb dX1_goBeat_99 rfl rfl ?_
  refine va_iald (D := (dC, dI)) hx hb hK hP 3 0 rfl rfl (by unfold vp_in; decide) dX1_goBeat_100 ?_
  refine lt_ci (y := tk) rfl ?_
  refine lv_iconst (v := 1) hx hb dX1_goBeat_101 (by decide) ?_
  refine lv_iadd hx hb dX1_goBeat_102 ?_
  refine va_iast (D := (dC, dI)) hx hb hK hP hD hS 3 0 rfl rfl (by unfold vp_in; decide) dX1_goBeat_103 (fun H locs hP hD hS => ?_)
  have hP : va_P (dC, dI) vwCl [(c1, .inl (cI, 4, .inl (cn 0))), (c2, .inl (cI, 4, .inl (cn 1))), (c3, .inl (cI, 4, .inl (upd (upd (upd (upd (cn 0) 1 1) 1 0) 2 1) 2 0))), (c4, .inl (cI, 4, .inl (upd (upd (upd (cn tk) 0 (tk + 1)) 1 (tk + 1)) 2 (tk + 1)))), (ac, .inr (5, [.ref c1, .ref c2, .ref c3, .ref c4, .ref c5, .int 15])), (c5, .inl (cI, 4, .inl (upd (upd (upd (upd (cn fr) 0 1) 1 0) 1 1) 2 0)))] H := hP
  have hD : va_D A [(c1, .inl (cI, 4, .inl (cn 0))), (c2, .inl (cI, 4, .inl (cn 1))), (c3, .inl (cI, 4, .inl (upd (upd (upd (upd (cn 0) 1 1) 1 0) 2 1) 2 0))), (c4, .inl (cI, 4, .inl (upd (upd (upd (cn tk) 0 (tk + 1)) 1 (tk + 1)) 2 (tk + 1)))), (ac, .inr (5, [.ref c1, .ref c2, .ref c3, .ref c4, .ref c5, .int 15])), (c5, .inl (cI, 4, .inl (upd (upd (upd (upd (cn fr) 0 1) 1 0) 1 1) 2 0)))] := hD
  refine lv_aload_n hx hb dX1_goBeat_104 rfl (lv_at hl 1 rfl) ?_
  refine va_get (D := (dC, dI)) (ci := 5) (v := .ref c5) (C := RX1) (T := TX1) (N := 6) hx hb hts hiX1 hown hK hP 4 rfl rfl 4 (by decide) (hw0) (fun _ h9 => h9) rfl dX1_goBeat_105 ?_
  refine lv_iload_n hx hb dX1_goBeat_108 rfl (lv_at hl 0 rfl) ?_
  refine lv_iconst (v := 1) hx hb dX1_goBeat_109 (by decide) ?_
  refine va_iast (D := (dC, dI)) hx hb hK hP hD hS 5 0 rfl rfl (by unfold vp_in; decide) dX1_goBeat_110 (fun H locs hP hD hS => ?_)
  have hP : va_P (dC, dI) vwCl [(c1, .inl (cI, 4, .inl (cn 0))), (c2, .inl (cI, 4, .inl (cn 1))), (c3, .inl (cI, 4, .inl (upd (upd (upd (upd (cn 0) 1 1) 1 0) 2 1) 2 0))), (c4, .inl (cI, 4, .inl (upd (upd (upd (cn tk) 0 (tk + 1)) 1 (tk + 1)) 2 (tk + 1)))), (ac, .inr (5, [.ref c1, .ref c2, .ref c3, .ref c4, .ref c5, .int 15])), (c5, .inl (cI, 4, .inl (upd (upd (upd (upd (upd (cn fr) 0 1) 1 0) 1 1) 2 0) 2 1)))] H := hP
  have hD : va_D A [(c1, .inl (cI, 4, .inl (cn 0))), (c2, .inl (cI, 4, .inl (cn 1))), (c3, .inl (cI, 4, .inl (upd (upd (upd (upd (cn 0) 1 1) 1 0) 2 1) 2 0))), (c4, .inl (cI, 4, .inl (upd (upd (upd (cn tk) 0 (tk + 1)) 1 (tk + 1)) 2 (tk + 1)))), (ac, .inr (5, [.ref c1, .ref c2, .ref c3, .ref c4, .ref c5, .int 15])), (c5, .inl (cI, 4, .inl (upd (upd (upd (upd (upd (cn fr) 0 1) 1 0) 1 1) 2 0) 2 1)))] := hD
  refine lv_iinc (v := 3) (lv' := [(2, .int 3), (0, .ref ac), (1, .int 0)]) hx hb dX1_goBeat_111 hl (k := 0) rfl (by first | rfl | decide) (by decide) rfl (fun ls hl => ?_)
  refine lv_goto (tgt := 19) hx hb dX1_goBeat_114 (by decide) ?_
  refine lv_iload_n hx hb dX1_goBeat_19 rfl (lv_at hl 0 rfl) ?_
  refine lv_iconst (v := 4) hx hb dX1_goBeat_20 (by decide) ?_
  refine lv_icmp_ge (tgt := 117) hx hb dX1_goBeat_21 (by decide) (fun c => absurd c (by decide)) (fun _ => ?_)
  refine lv_aload_n hx hb dX1_goBeat_24 rfl (lv_at hl 1 rfl) ?_
  refine va_get (D := (dC, dI)) (ci := 5) (v := .ref c5) (C := RX1) (T := TX1) (N := 6) hx hb hts hiX1 hown hK hP 4 rfl rfl 4 (by decide) (hw0) (fun _ h9 => h9) rfl dX1_goBeat_25 ?_
  refine lv_iload_n hx hb dX1_goBeat_28 rfl (lv_at hl 0 rfl) ?_
  refine lv_iconst (v := 0) hx hb dX1_goBeat_29 (by decide) ?_
  refine va_iast (D := (dC, dI)) hx hb hK hP hD hS 5 0 rfl rfl (by unfold vp_in; decide) dX1_goBeat_30 (fun H locs hP hD hS => ?_)
  have hP : va_P (dC, dI) vwCl [(c1, .inl (cI, 4, .inl (cn 0))), (c2, .inl (cI, 4, .inl (cn 1))), (c3, .inl (cI, 4, .inl (upd (upd (upd (upd (cn 0) 1 1) 1 0) 2 1) 2 0))), (c4, .inl (cI, 4, .inl (upd (upd (upd (cn tk) 0 (tk + 1)) 1 (tk + 1)) 2 (tk + 1)))), (ac, .inr (5, [.ref c1, .ref c2, .ref c3, .ref c4, .ref c5, .int 15])), (c5, .inl (cI, 4, .inl (upd (upd (upd (upd (upd (upd (cn fr) 0 1) 1 0) 1 1) 2 0) 2 1) 3 0)))] H := hP
  have hD : va_D A [(c1, .inl (cI, 4, .inl (cn 0))), (c2, .inl (cI, 4, .inl (cn 1))), (c3, .inl (cI, 4, .inl (upd (upd (upd (upd (cn 0) 1 1) 1 0) 2 1) 2 0))), (c4, .inl (cI, 4, .inl (upd (upd (upd (cn tk) 0 (tk + 1)) 1 (tk + 1)) 2 (tk + 1)))), (ac, .inr (5, [.ref c1, .ref c2, .ref c3, .ref c4, .ref c5, .int 15])), (c5, .inl (cI, 4, .inl (upd (upd (upd (upd (upd (upd (cn fr) 0 1) 1 0) 1 1) 2 0) 2 1) 3 0)))] := hD
  refine lv_iload_n hx hb dX1_goBeat_31 rfl (lv_at hl 2 rfl) ?_
  refine lv_if_ne (tgt := 111) hx hb dX1_goBeat_32 (by decide) (fun c => (c (by decide)).elim) (fun _ => ?_)
  refine lv_aload_n hx hb dX1_goBeat_35 rfl (lv_at hl 1 rfl) ?_
  refine va_get (D := (dC, dI)) (ci := 5) (v := .int 15) (C := RX1) (T := TX1) (N := 6) hx hb hts hiX1 hown hK hP 4 rfl rfl 5 (by decide) (hw3) (fun _ h9 => h9) rfl dX1_goBeat_36 ?_
  refine lv_iload_n hx hb dX1_goBeat_39 rfl (lv_at hl 0 rfl) ?_
  have hPc := hP.sub (ws' := []) [] rfl
  have hDc := hD.sub (ws' := []) [] (by decide) rfl
  have hKc := hK.sub (tys' := []) [] rfl
  have hFc := va_free (wc := []) hD hS hA [] rfl
  refine va_calli (va_runSN (As := [.int 15, .int 3]) (rest := []) ⟨hx, hb, hml, hown, hts⟩ (c_X8_hasBit_1 l dC dI g 15 3 H.size (by decide)) ⟨va_cnB (host := "Tickstation") 2 hts gX1_goBeat_X8_hasBit_n37 rfl rfl rfl (hN _ (List.mem_of_getElem? (i := 6) rfl)) hw4 (by decide +kernel) ⟨Nat.le_of_ble_eq_true rfl, Nat.le_of_ble_eq_true rfl⟩, hw5, trivial⟩ ⟨wIn_blind, wIn_at hPc hKc hDc hG hS hFc⟩ rfl rfl hl.1 rfl (lv_room (Nat.le_of_ble_eq_true rfl)) dX1_goBeat_40 ⟨Nat.le_of_ble_eq_true rfl, Nat.le_of_ble_eq_true rfl⟩) hS (fun q _ h => hFc q h) hFc (fun r_5 u t H1 locs ht hvm hw hB hz1 hk1 hS => ?_)
  obtain ⟨hP1, hK1, hD1⟩ := hB
  rw [ht] at hP1
  obtain ⟨hP, hD⟩ := va_join (wr := [(c1, .inl (cI, 4, .inl (cn 0))), (c2, .inl (cI, 4, .inl (cn 1))), (c3, .inl (cI, 4, .inl (upd (upd (upd (upd (cn 0) 1 1) 1 0) 2 1) 2 0))), (c4, .inl (cI, 4, .inl (upd (upd (upd (cn tk) 0 (tk + 1)) 1 (tk + 1)) 2 (tk + 1)))), (ac, .inr (5, [.ref c1, .ref c2, .ref c3, .ref c4, .ref c5, .int 15])), (c5, .inl (cI, 4, .inl (upd (upd (upd (upd (upd (upd (cn fr) 0 1) 1 0) 1 1) 2 0) 2 1) 3 0)))]) (w1 := []) hP hD [] [0, 1, 2, 3, 4, 5] rfl rfl (by decide) (by decide) hk1 hFc hP1 hD1
  generalize H1 = H at hP hS ⊢
  have hP : va_P (dC, dI) vwCl [(c1, .inl (cI, 4, .inl (cn 0))), (c2, .inl (cI, 4, .inl (cn 1))), (c3, .inl (cI, 4, .inl (upd (upd (upd (upd (cn 0) 1 1) 1 0) 2 1) 2 0))), (c4, .inl (cI, 4, .inl (upd (upd (upd (cn tk) 0 (tk + 1)) 1 (tk + 1)) 2 (tk + 1)))), (ac, .inr (5, [.ref c1, .ref c2, .ref c3, .ref c4, .ref c5, .int 15])), (c5, .inl (cI, 4, .inl (upd (upd (upd (upd (upd (upd (cn fr) 0 1) 1 0) 1 1) 2 0) 2 1) 3 0)))] H := hP
  have hD : va_D A [(c1, .inl (cI, 4, .inl (cn 0))), (c2, .inl (cI, 4, .inl (cn 1))), (c3, .inl (cI, 4, .inl (upd (upd (upd (upd (cn 0) 1 1) 1 0) 2 1) 2 0))), (c4, .inl (cI, 4, .inl (upd (upd (upd (cn tk) 0 (tk + 1)) 1 (tk + 1)) 2 (tk + 1)))), (ac, .inr (5, [.ref c1, .ref c2, .ref c3, .ref c4, .ref c5, .int 15])), (c5, .inl (cI, 4, .inl (upd (upd (upd (upd (upd (upd (cn fr) 0 1) 1 0) 1 1) 2 0) 2 1) 3 0)))] := hD
  refine lt_ci (y := 1) hw ?_
  refine lv_if_eq (tgt := 111) hx hb dX1_goBeat_43 (by decide) (fun c => absurd c (by decide)) (fun _ => ?_)
  refine lv_aload_n hx hb dX1_goBeat_46 rfl (lv_at hl 1 rfl) ?_
  refine lv_aload_n hx hb dX1_goBeat_47 rfl (lv_at hl 1 rfl) ?_
  refine va_get (D := (dC, dI)) (ci := 5) (v := .ref c1) (C := RX1) (T := TX1) (N := 6) hx hb hts hiX1 hown hK hP 4 rfl rfl 0 (by decide) (hw6) (fun _ h9 => h9) rfl dX1_goBeat_48 ?_
  refine lv_iload_n hx hb dX1_goBeat_51 rfl (lv_at hl 0 rfl) ?_
  refine va_iald (D := (dC, dI)) hx hb hK hP 0 0 rfl rfl (by unfold vp_in; decide) dX1_goBeat_52 ?_
  refine lt_ci (y := 0) rfl ?_
  have hPc := hP.sub (ws' := [(ac, .inr (5, [.ref c1, .ref c2, .ref c3, .ref c4, .ref c5, .int 15])), (c5, .inl (cI, 4, .inl (upd (upd (upd (upd (upd (upd (cn fr) 0 1) 1 0) 1 1) 2 0) 2 1) 3 0)))]) [4, 5] rfl
  have hDc := hD.sub (ws' := [(ac, .inr (5, [.ref c1, .ref c2, .ref c3, .ref c4, .ref c5, .int 15])), (c5, .inl (cI, 4, .inl (upd (upd (upd (upd (upd (upd (cn fr) 0 1) 1 0) 1 1) 2 0) 2 1) 3 0)))]) [4, 5] (by decide) rfl
  have hKc := hK.sub (tys' := [(cI, .int)]) [0] rfl
  have hFc := va_free (wc := [(ac, .inr (5, [.ref c1, .ref c2, .ref c3, .ref c4, .ref c5, .int 15])), (c5, .inl (cI, 4, .inl (upd (upd (upd (upd (upd (upd (cn fr) 0 1) 1 0) 1 1) 2 0) 2 1) 3 0)))]) hD hS hA [4, 5] rfl
  refine va_calli (va_runV (As := [.int 0]) (rest := []) ⟨hx, hb, hml, hown, hts⟩ (c_X1_freshOf_0 l dC dI g ac (.ref c1) (.ref c2) (.ref c3) (.ref c4) c5 15 cI (upd (upd (upd (upd (upd (upd (cn fr) 0 1) 1 0) 1 1) 2 0) 2 1) 3 0) H.size) (cwV 1 hts gX1_goBeat_X1_freshOf rfl rfl rfl (by decide +kernel) ⟨Nat.le_of_ble_eq_true rfl, Nat.le_of_ble_eq_true rfl⟩) ⟨wIn_blind, va_recv hK hP (ci := 5) (q0 := 4) rfl rfl, wIn_at hPc hKc hDc hG hS hFc⟩ rfl rfl hl.1 rfl (lv_room (Nat.le_of_ble_eq_true rfl)) dX1_goBeat_53 ⟨Nat.le_of_ble_eq_true rfl, Nat.le_of_ble_eq_true rfl⟩) hS (fun q _ h => hFc q h) hFc (fun r_6 u t H1 locs ht hvm hw hB hz1 hk1 hS => ?_)
  obtain ⟨hP1, hK1, hD1⟩ := hB
  rw [ht] at hP1
  obtain ⟨hP, hD⟩ := va_join (wr := [(c1, .inl (cI, 4, .inl (cn 0))), (c2, .inl (cI, 4, .inl (cn 1))), (c3, .inl (cI, 4, .inl (upd (upd (upd (upd (cn 0) 1 1) 1 0) 2 1) 2 0))), (c4, .inl (cI, 4, .inl (upd (upd (upd (cn tk) 0 (tk + 1)) 1 (tk + 1)) 2 (tk + 1))))]) (w1 := [(ac, .inr (5, [.ref c1, .ref c2, .ref c3, .ref c4, .ref c5, .int 15])), (c5, .inl (cI, 4, .inl (upd (upd (upd (upd (upd (upd (cn fr) 0 1) 1 0) 1 1) 2 0) 2 1) 3 0)))]) hP hD [4, 5] [0, 1, 2, 3] rfl rfl (by decide) (by decide) hk1 hFc hP1 hD1
  generalize H1 = H at hP hS ⊢
  have hP : va_P (dC, dI) vwCl [(c1, .inl (cI, 4, .inl (cn 0))), (c2, .inl (cI, 4, .inl (cn 1))), (c3, .inl (cI, 4, .inl (upd (upd (upd (upd (cn 0) 1 1) 1 0) 2 1) 2 0))), (c4, .inl (cI, 4, .inl (upd (upd (upd (cn tk) 0 (tk + 1)) 1 (tk + 1)) 2 (tk + 1)))), (ac, .inr (5, [.ref c1, .ref c2, .ref c3, .ref c4, .ref c5, .int 15])), (c5, .inl (cI, 4, .inl (upd (upd (upd (upd (upd (upd (cn fr) 0 1) 1 0) 1 1) 2 0) 2 1) 3 0)))] H := hP
  have hD : va_D A [(c1, .inl (cI, 4, .inl (cn 0))), (c2, .inl (cI, 4, .inl (cn 1))), (c3, .inl (cI, 4, .inl (upd (upd (upd (upd (cn 0) 1 1) 1 0) 2 1) 2 0))), (c4, .inl (cI, 4, .inl (upd (upd (upd (cn tk) 0 (tk + 1)) 1 (tk + 1)) 2 (tk + 1)))), (ac, .inr (5, [.ref c1, .ref c2, .ref c3, .ref c4, .ref c5, .int 15])), (c5, .inl (cI, 4, .inl (upd (upd (upd (upd (upd (upd (cn fr) 0 1) 1 0) 1 1) 2 0) 2 1) 3 0)))] := hD
  refine lt_ci (y := 1) hw ?_
  refine lv_if_ne (tgt := 62) hx hb dX1_goBeat_56 (by decide) (fun _ => ?_) (fun c => absurd c (by decide))
  refine lv_aload_n hx hb dX1_goBeat_62 rfl (lv_at hl 1 rfl) ?_
  refine va_get (D := (dC, dI)) (ci := 5) (v := .ref c3) (C := RX1) (T := TX1) (N := 6) hx hb hts hiX1 hown hK hP 4 rfl rfl 2 (by decide) (hw7) (fun _ h9 => h9) rfl dX1_goBeat_63 ?_
  refine lv_iload_n hx hb dX1_goBeat_66 rfl (lv_at hl 0 rfl) ?_
  refine lv_dup2_11 hx hb dX1_goBeat_67 rfl rfl ?_
  refine va_iald (D := (dC, dI)) hx hb hK hP 2 0 rfl rfl (by unfold vp_in; decide) dX1_goBeat_68 ?_
  refine lt_ci (y := 0) rfl ?_
  refine lv_iconst (v := 1) hx hb dX1_goBeat_69 (by decide) ?_
  refine lv_iadd hx hb dX1_goBeat_70 ?_
  refine lt_ci (y := 1) (by first | rfl | decide) ?_
  refine va_iast (D := (dC, dI)) hx hb hK hP hD hS 2 0 rfl rfl (by unfold vp_in; decide) dX1_goBeat_71 (fun H locs hP hD hS => ?_)
  have hP : va_P (dC, dI) vwCl [(c1, .inl (cI, 4, .inl (cn 0))), (c2, .inl (cI, 4, .inl (cn 1))), (c3, .inl (cI, 4, .inl (upd (upd (upd (upd (upd (cn 0) 1 1) 1 0) 2 1) 2 0) 3 1))), (c4, .inl (cI, 4, .inl (upd (upd (upd (cn tk) 0 (tk + 1)) 1 (tk + 1)) 2 (tk + 1)))), (ac, .inr (5, [.ref c1, .ref c2, .ref c3, .ref c4, .ref c5, .int 15])), (c5, .inl (cI, 4, .inl (upd (upd (upd (upd (upd (upd (cn fr) 0 1) 1 0) 1 1) 2 0) 2 1) 3 0)))] H := hP
  have hD : va_D A [(c1, .inl (cI, 4, .inl (cn 0))), (c2, .inl (cI, 4, .inl (cn 1))), (c3, .inl (cI, 4, .inl (upd (upd (upd (upd (upd (cn 0) 1 1) 1 0) 2 1) 2 0) 3 1))), (c4, .inl (cI, 4, .inl (upd (upd (upd (cn tk) 0 (tk + 1)) 1 (tk + 1)) 2 (tk + 1)))), (ac, .inr (5, [.ref c1, .ref c2, .ref c3, .ref c4, .ref c5, .int 15])), (c5, .inl (cI, 4, .inl (upd (upd (upd (upd (upd (upd (cn fr) 0 1) 1 0) 1 1) 2 0) 2 1) 3 0)))] := hD
  refine lv_aload_n hx hb dX1_goBeat_72 rfl (lv_at hl 1 rfl) ?_
  refine va_get (D := (dC, dI)) (ci := 5) (v := .ref c3) (C := RX1) (T := TX1) (N := 6) hx hb hts hiX1 hown hK hP 4 rfl rfl 2 (by decide) (hw7) (fun _ h9 => h9) rfl dX1_goBeat_73 ?_
  refine lv_iload_n hx hb dX1_goBeat_76 rfl (lv_at hl 0 rfl) ?_
  refine va_iald (D := (dC, dI)) hx hb hK hP 2 0 rfl rfl (by unfold vp_in; decide) dX1_goBeat_77 ?_
  refine lt_ci (y := 1) rfl ?_
  refine lv_aload_n hx hb dX1_goBeat_78 rfl (lv_at hl 1 rfl) ?_
  refine va_get (D := (dC, dI)) (ci := 5) (v := .ref c2) (C := RX1) (T := TX1) (N := 6) hx hb hts hiX1 hown hK hP 4 rfl rfl 1 (by decide) (hw8) (fun _ h9 => h9) rfl dX1_goBeat_79 ?_
  refine lv_iload_n hx hb dX1_goBeat_82 rfl (lv_at hl 0 rfl) ?_
  refine va_iald (D := (dC, dI)) hx hb hK hP 1 0 rfl rfl (by unfold vp_in; decide) dX1_goBeat_83 ?_
  refine lt_ci (y := 1) rfl ?_
  refine lv_icmp_lt (tgt := 111) hx hb dX1_goBeat_84 (by decide) (fun c => absurd c (by decide)) (fun _ => ?_)
  refine lv_aload_n hx hb dX1_goBeat_87 rfl (lv_at hl 1 rfl) ?_
  refine va_get (D := (dC, dI)) (ci := 5) (v := .ref c3) (C := RX1) (T := TX1) (N := 6) hx hb hts hiX1 hown hK hP 4 rfl rfl 2 (by decide) (hw7) (fun _ h9 => h9) rfl dX1_goBeat_88 ?_
  refine lv_iload_n hx hb dX1_goBeat_91 rfl (lv_at hl 0 rfl) ?_
  refine lv_iconst (v := 0) hx hb dX1_goBeat_92 (by decide) ?_
  refine va_iast (D := (dC, dI)) hx hb hK hP hD hS 2 0 rfl rfl (by unfold vp_in; decide) dX1_goBeat_93 (fun H locs hP hD hS => ?_)
  have hP : va_P (dC, dI) vwCl [(c1, .inl (cI, 4, .inl (cn 0))), (c2, .inl (cI, 4, .inl (cn 1))), (c3, .inl (cI, 4, .inl (upd (upd (upd (upd (upd (upd (cn 0) 1 1) 1 0) 2 1) 2 0) 3 1) 3 0))), (c4, .inl (cI, 4, .inl (upd (upd (upd (cn tk) 0 (tk + 1)) 1 (tk + 1)) 2 (tk + 1)))), (ac, .inr (5, [.ref c1, .ref c2, .ref c3, .ref c4, .ref c5, .int 15])), (c5, .inl (cI, 4, .inl (upd (upd (upd (upd (upd (upd (cn fr) 0 1) 1 0) 1 1) 2 0) 2 1) 3 0)))] H := hP
  have hD : va_D A [(c1, .inl (cI, 4, .inl (cn 0))), (c2, .inl (cI, 4, .inl (cn 1))), (c3, .inl (cI, 4, .inl (upd (upd (upd (upd (upd (upd (cn 0) 1 1) 1 0) 2 1) 2 0) 3 1) 3 0))), (c4, .inl (cI, 4, .inl (upd (upd (upd (cn tk) 0 (tk + 1)) 1 (tk + 1)) 2 (tk + 1)))), (ac, .inr (5, [.ref c1, .ref c2, .ref c3, .ref c4, .ref c5, .int 15])), (c5, .inl (cI, 4, .inl (upd (upd (upd (upd (upd (upd (cn fr) 0 1) 1 0) 1 1) 2 0) 2 1) 3 0)))] := hD
  refine lv_aload_n hx hb dX1_goBeat_94 rfl (lv_at hl 1 rfl) ?_
  refine va_get (D := (dC, dI)) (ci := 5) (v := .ref c4) (C := RX1) (T := TX1) (N := 6) hx hb hts hiX1 hown hK hP 4 rfl rfl 3 (by decide) (hw2) (fun _ h9 => h9) rfl dX1_goBeat_95 ?_
  refine lv_iload_n hx hb dX1_goBeat_98 rfl (lv_at hl 0 rfl) ?_
  refine lv_dup2_11 hx hb dX1_goBeat_99 rfl rfl ?_
  refine va_iald (D := (dC, dI)) hx hb hK hP 3 0 rfl rfl (by unfold vp_in; decide) dX1_goBeat_100 ?_
  refine lt_ci (y := tk) rfl ?_
  refine lv_iconst (v := 1) hx hb dX1_goBeat_101 (by decide) ?_
  refine lv_iadd hx hb dX1_goBeat_102 ?_
  refine va_iast (D := (dC, dI)) hx hb hK hP hD hS 3 0 rfl rfl (by unfold vp_in; decide) dX1_goBeat_103 (fun H locs hP hD hS => ?_)
  have hP : va_P (dC, dI) vwCl [(c1, .inl (cI, 4, .inl (cn 0))), (c2, .inl (cI, 4, .inl (cn 1))), (c3, .inl (cI, 4, .inl (upd (upd (upd (upd (upd (upd (cn 0) 1 1) 1 0) 2 1) 2 0) 3 1) 3 0))), (c4, .inl (cI, 4, .inl (upd (upd (upd (upd (cn tk) 0 (tk + 1)) 1 (tk + 1)) 2 (tk + 1)) 3 (tk + 1)))), (ac, .inr (5, [.ref c1, .ref c2, .ref c3, .ref c4, .ref c5, .int 15])), (c5, .inl (cI, 4, .inl (upd (upd (upd (upd (upd (upd (cn fr) 0 1) 1 0) 1 1) 2 0) 2 1) 3 0)))] H := hP
  have hD : va_D A [(c1, .inl (cI, 4, .inl (cn 0))), (c2, .inl (cI, 4, .inl (cn 1))), (c3, .inl (cI, 4, .inl (upd (upd (upd (upd (upd (upd (cn 0) 1 1) 1 0) 2 1) 2 0) 3 1) 3 0))), (c4, .inl (cI, 4, .inl (upd (upd (upd (upd (cn tk) 0 (tk + 1)) 1 (tk + 1)) 2 (tk + 1)) 3 (tk + 1)))), (ac, .inr (5, [.ref c1, .ref c2, .ref c3, .ref c4, .ref c5, .int 15])), (c5, .inl (cI, 4, .inl (upd (upd (upd (upd (upd (upd (cn fr) 0 1) 1 0) 1 1) 2 0) 2 1) 3 0)))] := hD
  refine lv_aload_n hx hb dX1_goBeat_104 rfl (lv_at hl 1 rfl) ?_
  refine va_get (D := (dC, dI)) (ci := 5) (v := .ref c5) (C := RX1) (T := TX1) (N := 6) hx hb hts hiX1 hown hK hP 4 rfl rfl 4 (by decide) (hw0) (fun _ h9 => h9) rfl dX1_goBeat_105 ?_
  refine lv_iload_n hx hb dX1_goBeat_108 rfl (lv_at hl 0 rfl) ?_
  refine lv_iconst (v := 1) hx hb dX1_goBeat_109 (by decide) ?_
  refine va_iast (D := (dC, dI)) hx hb hK hP hD hS 5 0 rfl rfl (by unfold vp_in; decide) dX1_goBeat_110 (fun H locs hP hD hS => ?_)
  have hP : va_P (dC, dI) vwCl [(c1, .inl (cI, 4, .inl (cn 0))), (c2, .inl (cI, 4, .inl (cn 1))), (c3, .inl (cI, 4, .inl (upd (upd (upd (upd (upd (upd (cn 0) 1 1) 1 0) 2 1) 2 0) 3 1) 3 0))), (c4, .inl (cI, 4, .inl (upd (upd (upd (upd (cn tk) 0 (tk + 1)) 1 (tk + 1)) 2 (tk + 1)) 3 (tk + 1)))), (ac, .inr (5, [.ref c1, .ref c2, .ref c3, .ref c4, .ref c5, .int 15])), (c5, .inl (cI, 4, .inl (upd (upd (upd (upd (upd (upd (upd (cn fr) 0 1) 1 0) 1 1) 2 0) 2 1) 3 0) 3 1)))] H := hP
  have hD : va_D A [(c1, .inl (cI, 4, .inl (cn 0))), (c2, .inl (cI, 4, .inl (cn 1))), (c3, .inl (cI, 4, .inl (upd (upd (upd (upd (upd (upd (cn 0) 1 1) 1 0) 2 1) 2 0) 3 1) 3 0))), (c4, .inl (cI, 4, .inl (upd (upd (upd (upd (cn tk) 0 (tk + 1)) 1 (tk + 1)) 2 (tk + 1)) 3 (tk + 1)))), (ac, .inr (5, [.ref c1, .ref c2, .ref c3, .ref c4, .ref c5, .int 15])), (c5, .inl (cI, 4, .inl (upd (upd (upd (upd (upd (upd (upd (cn fr) 0 1) 1 0) 1 1) 2 0) 2 1) 3 0) 3 1)))] := hD
  refine lv_iinc (v := 4) (lv' := [(2, .int 4), (0, .ref ac), (1, .int 0)]) hx hb dX1_goBeat_111 hl (k := 0) rfl (by first | rfl | decide) (by decide) rfl (fun ls hl => ?_)
  refine lv_goto (tgt := 19) hx hb dX1_goBeat_114 (by decide) ?_
  refine lv_iload_n hx hb dX1_goBeat_19 rfl (lv_at hl 0 rfl) ?_
  refine lv_iconst (v := 4) hx hb dX1_goBeat_20 (by decide) ?_
  refine lv_icmp_ge (tgt := 117) hx hb dX1_goBeat_21 (by decide) (fun _ => ?_) (fun c => absurd (by decide) c)
  obtain ⟨hP, hD⟩ := arr_to (cn 0) 2 hP hD rfl (lt_s (lt_s (lt_s (lt_s lt_0 rfl) rfl) rfl) rfl)
  have hP : va_P (dC, dI) vwCl [(c1, .inl (cI, 4, .inl (cn 0))), (c2, .inl (cI, 4, .inl (cn 1))), (c3, .inl (cI, 4, .inl (cn 0))), (c4, .inl (cI, 4, .inl (upd (upd (upd (upd (cn tk) 0 (tk + 1)) 1 (tk + 1)) 2 (tk + 1)) 3 (tk + 1)))), (ac, .inr (5, [.ref c1, .ref c2, .ref c3, .ref c4, .ref c5, .int 15])), (c5, .inl (cI, 4, .inl (upd (upd (upd (upd (upd (upd (upd (cn fr) 0 1) 1 0) 1 1) 2 0) 2 1) 3 0) 3 1)))] H := hP
  have hD : va_D A [(c1, .inl (cI, 4, .inl (cn 0))), (c2, .inl (cI, 4, .inl (cn 1))), (c3, .inl (cI, 4, .inl (cn 0))), (c4, .inl (cI, 4, .inl (upd (upd (upd (upd (cn tk) 0 (tk + 1)) 1 (tk + 1)) 2 (tk + 1)) 3 (tk + 1)))), (ac, .inr (5, [.ref c1, .ref c2, .ref c3, .ref c4, .ref c5, .int 15])), (c5, .inl (cI, 4, .inl (upd (upd (upd (upd (upd (upd (upd (cn fr) 0 1) 1 0) 1 1) 2 0) 2 1) 3 0) 3 1)))] := hD
  obtain ⟨hP, hD⟩ := arr_to (cn (tk + 1)) 3 hP hD rfl (lt_s (lt_s (lt_s (lt_s lt_0 rfl) rfl) rfl) rfl)
  have hP : va_P (dC, dI) vwCl [(c1, .inl (cI, 4, .inl (cn 0))), (c2, .inl (cI, 4, .inl (cn 1))), (c3, .inl (cI, 4, .inl (cn 0))), (c4, .inl (cI, 4, .inl (cn (tk + 1)))), (ac, .inr (5, [.ref c1, .ref c2, .ref c3, .ref c4, .ref c5, .int 15])), (c5, .inl (cI, 4, .inl (upd (upd (upd (upd (upd (upd (upd (cn fr) 0 1) 1 0) 1 1) 2 0) 2 1) 3 0) 3 1)))] H := hP
  have hD : va_D A [(c1, .inl (cI, 4, .inl (cn 0))), (c2, .inl (cI, 4, .inl (cn 1))), (c3, .inl (cI, 4, .inl (cn 0))), (c4, .inl (cI, 4, .inl (cn (tk + 1)))), (ac, .inr (5, [.ref c1, .ref c2, .ref c3, .ref c4, .ref c5, .int 15])), (c5, .inl (cI, 4, .inl (upd (upd (upd (upd (upd (upd (upd (cn fr) 0 1) 1 0) 1 1) 2 0) 2 1) 3 0) 3 1)))] := hD
  obtain ⟨hP, hD⟩ := arr_to (cn 1) 5 hP hD rfl (lt_s (lt_s (lt_s (lt_s lt_0 rfl) rfl) rfl) rfl)
  have hP : va_P (dC, dI) vwCl [(c1, .inl (cI, 4, .inl (cn 0))), (c2, .inl (cI, 4, .inl (cn 1))), (c3, .inl (cI, 4, .inl (cn 0))), (c4, .inl (cI, 4, .inl (cn (tk + 1)))), (ac, .inr (5, [.ref c1, .ref c2, .ref c3, .ref c4, .ref c5, .int 15])), (c5, .inl (cI, 4, .inl (cn 1)))] H := hP
  have hD : va_D A [(c1, .inl (cI, 4, .inl (cn 0))), (c2, .inl (cI, 4, .inl (cn 1))), (c3, .inl (cI, 4, .inl (cn 0))), (c4, .inl (cI, 4, .inl (cn (tk + 1)))), (ac, .inr (5, [.ref c1, .ref c2, .ref c3, .ref c4, .ref c5, .int 15])), (c5, .inl (cI, 4, .inl (cn 1)))] := hD
  have hP9 := hP.sub (ws' := [(ac, .inr (5, [.ref c1, .ref c2, .ref c3, .ref c4, .ref c5, .int 15])), (c1, .inl (cI, 4, .inl (cn 0))), (c2, .inl (cI, 4, .inl (cn 1))), (c3, .inl (cI, 4, .inl (cn 0))), (c4, .inl (cI, 4, .inl (cn (tk + 1)))), (c5, .inl (cI, 4, .inl (cn 1)))]) [4, 0, 1, 2, 3, 5] rfl
  have hD9 := hD.sub (ws' := [(ac, .inr (5, [.ref c1, .ref c2, .ref c3, .ref c4, .ref c5, .int 15])), (c1, .inl (cI, 4, .inl (cn 0))), (c2, .inl (cI, 4, .inl (cn 1))), (c3, .inl (cI, 4, .inl (cn 0))), (c4, .inl (cI, 4, .inl (cn (tk + 1)))), (c5, .inl (cI, 4, .inl (cn 1)))]) [4, 0, 1, 2, 3, 5] (by decide) rfl
  have hK9 := hK.sub (tys' := [(cI, .int)]) [0] rfl
  exact W.vret hx hb hr (fun t ht hW => ⟨⟨(), rfl, trivial, wOut_at ht hW hP9 hK9 hD9⟩, hS.F ht⟩) hS.2.2 dX1_goBeat_117

set_option maxHeartbeats 4000000 in
set_option maxRecDepth 100000 in
theorem c_X6_goBeat (l : Launch) (dC : Nat → ClassId) (dI : Nat → Nat → Nat) (g : Nat × Nat × Nat) (au : Nat) (t1 : Nat) (t2 : Nat) (t3 : Nat) (t4 : Nat) (t5 : Nat) (t6 : Nat) (t7 : Nat) (ac : Nat) (c1 : Nat) (c2 : Nat) (c3 : Nat) (c4 : Nat) (c5 : Nat) (cI : ClassId) (tk : Int32) (sz : Nat) : Met l yX6_goBeat wsX6_goBeat ({ frames := 1, cells := 0, slots := 0, locals := 21 } : Room) (va_Pc [.ref au, .ref ac] (wIn dC dI g [(au, .inr (10, [.ref t1, .ref t2, .ref t3, .ref t4, .ref t5, .ref t6, .ref t7, .int 0, .int 0])), (t1, .inl (cI, 4, .inl (cn 0))), (t2, .inl (cI, 4, .inl (cn 10))), (t3, .inl (cI, 4, .inl (cn 10))), (t4, .inl (cI, 4, .inl (cn (-1)))), (t5, .inl (cI, 4, .inl (cn 0))), (t6, .inl (cI, 4, .inl (cn 0))), (t7, .inl (cI, 4, .inl (cn 110))), (ac, .inr (5, [.ref c1, .ref c2, .ref c3, .ref c4, .ref c5, .int 15])), (c1, .inl (cI, 4, .inl (cn 0))), (c2, .inl (cI, 4, .inl (cn 1))), (c3, .inl (cI, 4, .inl (cn 0))), (c4, .inl (cI, 4, .inl (cn tk))), (c5, .inl (cI, 4, .inl (cn 1)))] [(cI, .int)] sz)) (va_Qi (fun (r : Int32) (u : Unit) => r = 0) (fun (u : Unit) (t : State) => wOut dC dI [(au, .inr (10, [.ref t1, .ref t2, .ref t3, .ref t4, .ref t5, .ref t6, .ref t7, .int 0, .int 0])), (t1, .inl (cI, 4, .inl (cn 0))), (t2, .inl (cI, 4, .inl (cn 10))), (t3, .inl (cI, 4, .inl (cn 10))), (t4, .inl (cI, 4, .inl (cn (-1)))), (t5, .inl (cI, 4, .inl (cn 0))), (t6, .inl (cI, 4, .inl (cn 0))), (t7, .inl (cI, 4, .inl (cn 110))), (ac, .inr (5, [.ref c1, .ref c2, .ref c3, .ref c4, .ref c5, .int 15])), (c1, .inl (cI, 4, .inl (cn 0))), (c2, .inl (cI, 4, .inl (cn 1))), (c3, .inl (cI, 4, .inl (cn 0))), (c4, .inl (cI, 4, .inl (cn tk))), (c5, .inl (cI, 4, .inl (cn 1)))] [(cI, .int)] (va_A [(au, .inr (10, [.ref t1, .ref t2, .ref t3, .ref t4, .ref t5, .ref t6, .ref t7, .int 0, .int 0])), (t1, .inl (cI, 4, .inl (cn 0))), (t2, .inl (cI, 4, .inl (cn 10))), (t3, .inl (cI, 4, .inl (cn 10))), (t4, .inl (cI, 4, .inl (cn (-1)))), (t5, .inl (cI, 4, .inl (cn 0))), (t6, .inl (cI, 4, .inl (cn 0))), (t7, .inl (cI, 4, .inl (cn 110))), (ac, .inr (5, [.ref c1, .ref c2, .ref c3, .ref c4, .ref c5, .int 15])), (c1, .inl (cI, 4, .inl (cn 0))), (c2, .inl (cI, 4, .inl (cn 1))), (c3, .inl (cI, 4, .inl (cn 0))), (c4, .inl (cI, 4, .inl (cn tk))), (c5, .inl (cI, 4, .inl (cn 1)))] sz) t) (va_A [(au, .inr (10, [.ref t1, .ref t2, .ref t3, .ref t4, .ref t5, .ref t6, .ref t7, .int 0, .int 0])), (t1, .inl (cI, 4, .inl (cn 0))), (t2, .inl (cI, 4, .inl (cn 10))), (t3, .inl (cI, 4, .inl (cn 10))), (t4, .inl (cI, 4, .inl (cn (-1)))), (t5, .inl (cI, 4, .inl (cn 0))), (t6, .inl (cI, 4, .inl (cn 0))), (t7, .inl (cI, 4, .inl (cn 110))), (ac, .inr (5, [.ref c1, .ref c2, .ref c3, .ref c4, .ref c5, .int 15])), (c1, .inl (cI, 4, .inl (cn 0))), (c2, .inl (cI, 4, .inl (cn 1))), (c3, .inl (cI, 4, .inl (cn 0))), (c4, .inl (cI, 4, .inl (cn tk))), (c5, .inl (cI, 4, .inl (cn 1)))] sz)) 0 0 (va_A [(au, .inr (10, [.ref t1, .ref t2, .ref t3, .ref t4, .ref t5, .ref t6, .ref t7, .int 0, .int 0])), (t1, .inl (cI, 4, .inl (cn 0))), (t2, .inl (cI, 4, .inl (cn 10))), (t3, .inl (cI, 4, .inl (cn 10))), (t4, .inl (cI, 4, .inl (cn (-1)))), (t5, .inl (cI, 4, .inl (cn 0))), (t6, .inl (cI, 4, .inl (cn 0))), (t7, .inl (cI, 4, .inl (cn 110))), (ac, .inr (5, [.ref c1, .ref c2, .ref c3, .ref c4, .ref c5, .int 15])), (c1, .inl (cI, 4, .inl (cn 0))), (c2, .inl (cI, 4, .inl (cn 1))), (c3, .inl (cI, 4, .inl (cn 0))), (c4, .inl (cI, 4, .inl (cn tk))), (c5, .inl (cI, 4, .inl (cn 1)))] sz) := by
  refine Met.ofW (cc := cX6_goBeat) (maxL := 5) (ret := (some .int)) (by decide) rfl ?_
  intro p e s m args below meth c s₁ B hml hv
  obtain ⟨rfl, hsz, hP, hK, hD0, hG⟩ := hv
  have hx := B.exec
  have hb := B.bytes
  have hr := B.returns
  have hts := atoms_spec (ws := wsX6_goBeat) B.pre
  have hown : s.vm.findClass RX6 = some m.cls := findClass_of_methodNamed B.named
  have hlocks := B.notSynchronized
  subst hsz
  have hD := hD0.self (sz := s.heap.size)
  generalize hAe : va_A [(au, .inr (10, [.ref t1, .ref t2, .ref t3, .ref t4, .ref t5, .ref t6, .ref t7, .int 0, .int 0])), (t1, .inl (cI, 4, .inl (cn 0))), (t2, .inl (cI, 4, .inl (cn 10))), (t3, .inl (cI, 4, .inl (cn 10))), (t4, .inl (cI, 4, .inl (cn (-1)))), (t5, .inl (cI, 4, .inl (cn 0))), (t6, .inl (cI, 4, .inl (cn 0))), (t7, .inl (cI, 4, .inl (cn 110))), (ac, .inr (5, [.ref c1, .ref c2, .ref c3, .ref c4, .ref c5, .int 15])), (c1, .inl (cI, 4, .inl (cn 0))), (c2, .inl (cI, 4, .inl (cn 1))), (c3, .inl (cI, 4, .inl (cn 0))), (c4, .inl (cI, 4, .inl (cn tk))), (c5, .inl (cI, 4, .inl (cn 1)))] s.heap.size = A at hD hG ⊢
  have hN := hG.1
  have hA : ∀ q : Nat, s.heap.size ≤ q → A q := fun q h => by rw [← hAe]; exact Or.inr h
  have hS : va_S A s.heap s.heap [] := va_S.rf
  have hP : va_P (dC, dI) vwCl [(au, .inr (10, [.ref t1, .ref t2, .ref t3, .ref t4, .ref t5, .ref t6, .ref t7, .int 0, .int 0])), (t1, .inl (cI, 4, .inl (cn 0))), (t2, .inl (cI, 4, .inl (cn 10))), (t3, .inl (cI, 4, .inl (cn 10))), (t4, .inl (cI, 4, .inl (cn (-1)))), (t5, .inl (cI, 4, .inl (cn 0))), (t6, .inl (cI, 4, .inl (cn 0))), (t7, .inl (cI, 4, .inl (cn 110))), (ac, .inr (5, [.ref c1, .ref c2, .ref c3, .ref c4, .ref c5, .int 15])), (c1, .inl (cI, 4, .inl (cn 0))), (c2, .inl (cI, 4, .inl (cn 1))), (c3, .inl (cI, 4, .inl (cn 0))), (c4, .inl (cI, 4, .inl (cn tk))), (c5, .inl (cI, 4, .inl (cn 1)))] s.heap := hP
  have hw0 : (Cond.fieldLink RX6 21 "Tickstation$Timers" "linkedTo" "[I").before _ s = true := hts _ (List.mem_cons_of_mem _ (List.mem_append_left _ (List.mem_append_left _ (List.mem_append_left _ (List.mem_of_getElem? (i := 0) rfl)))))
  have hiX6 : ∀ w ∈ u_ws RX6 TX6 9, w ∈ wsX6_goBeat := fun _ h => List.mem_cons_of_mem _ (List.mem_append_left _ (List.mem_append_left _ (List.mem_append_right _ (h))))
  have hw2 : (Cond.fieldLink RX6 9 "Tickstation$Timers" "clock" "[I").before _ s = true := hts _ (List.mem_cons_of_mem _ (List.mem_append_left _ (List.mem_append_left _ (List.mem_append_left _ (List.mem_of_getElem? (i := 1) rfl)))))
  have hw3 : (Cond.fieldLink RX6 49 "Tickstation$Timers" "running" "I").before _ s = true := hts _ (List.mem_cons_of_mem _ (List.mem_append_left _ (List.mem_append_left _ (List.mem_append_left _ (List.mem_of_getElem? (i := 2) rfl)))))
  have hw4 : (Cond.initialized RX8).before _ s = true := hts _ (List.mem_cons_of_mem _ (List.mem_append_left _ (List.mem_append_left _ (List.mem_append_left _ (List.mem_of_getElem? (i := 14) rfl)))))
  have hw5 : (Cond.static yX8_hasBit).before _ s = true := hts _ (List.mem_cons_of_mem _ (List.mem_append_left _ (List.mem_append_left _ (List.mem_append_left _ (List.mem_of_getElem? (i := 13) rfl)))))
  have hl := lv_entry ([.ref au, .ref ac]) (n := 5) (Nat.le_of_ble_eq_true rfl)
  rw [lg_entry_eq]
  generalize (lg_sl ([.ref au, .ref ac]) ++ List.replicate (5 - (lg_sl ([.ref au, .ref ac])).length) Slot.unset).toArray = ls at hl ⊢
  have hl : lv_has ls 5 [(0, .ref au), (1, .ref ac)] := hl
  refine lv_iconst (v := 0) hx hb dX6_goBeat_0 (by decide) ?_
  refine lv_istore_n (lv' := [(2, .int 0), (0, .ref au), (1, .ref ac)]) hx hb dX6_goBeat_1 rfl hl (by decide) rfl (fun ls hl => ?_)
  refine lv_iconst (v := 0) hx hb dX6_goBeat_2 (by decide) ?_
  refine lv_istore_n (lv' := [(3, .int 0), (2, .int 0), (0, .ref au), (1, .ref ac)]) hx hb dX6_goBeat_3 rfl hl (by decide) rfl (fun ls hl => ?_)
  refine lv_iload_n hx hb dX6_goBeat_4 rfl (lv_at hl 0 rfl) ?_
  refine lv_iconst (v := 4) hx hb dX6_goBeat_5 (by decide) ?_
  refine lv_icmp_ge (tgt := 170) hx hb dX6_goBeat_6 (by decide) (fun c => absurd c (by decide)) (fun _ => ?_)
  refine lv_aload_n hx hb dX6_goBeat_9 rfl (lv_at hl 2 rfl) ?_
  refine va_get (D := (dC, dI)) (ci := 10) (v := .ref t4) (C := RX6) (T := TX6) (N := 9) hx hb hts hiX6 hown hK hP 0 rfl rfl 3 (by decide) (hw0) (fun _ h9 => h9) rfl dX6_goBeat_10 ?_
  refine lv_iload_n hx hb dX6_goBeat_13 rfl (lv_at hl 0 rfl) ?_
  refine va_iald (D := (dC, dI)) hx hb hK hP 4 0 rfl rfl (by unfold vp_in; decide) dX6_goBeat_14 ?_
  refine lt_ci (y := (-1)) rfl ?_
  refine lv_iconst (v := (-1)) hx hb dX6_goBeat_15 (by decide) ?_
  refine lv_icmp_ne (tgt := 40) hx hb dX6_goBeat_16 (by decide) (fun c => (c (by decide)).elim) (fun _ => ?_)
  refine lv_aload_n hx hb dX6_goBeat_19 rfl (lv_at hl 3 rfl) ?_
  refine lv_aload_n hx hb dX6_goBeat_20 rfl (lv_at hl 2 rfl) ?_
  refine va_get (D := (dC, dI)) (ci := 10) (v := .ref t1) (C := RX6) (T := TX6) (N := 9) hx hb hts hiX6 hown hK hP 0 rfl rfl 0 (by decide) (hw2) (fun _ h9 => h9) rfl dX6_goBeat_21 ?_
  refine lv_iload_n hx hb dX6_goBeat_24 rfl (lv_at hl 0 rfl) ?_
  refine va_iald (D := (dC, dI)) hx hb hK hP 1 0 rfl rfl (by unfold vp_in; decide) dX6_goBeat_25 ?_
  refine lt_ci (y := 0) rfl ?_
  have hPc := hP.sub (ws' := [(ac, .inr (5, [.ref c1, .ref c2, .ref c3, .ref c4, .ref c5, .int 15])), (c5, .inl (cI, 4, .inl (cn 1)))]) [8, 13] rfl
  have hDc := hD.sub (ws' := [(ac, .inr (5, [.ref c1, .ref c2, .ref c3, .ref c4, .ref c5, .int 15])), (c5, .inl (cI, 4, .inl (cn 1)))]) [8, 13] (by decide) rfl
  have hKc := hK.sub (tys' := [(cI, .int)]) [0] rfl
  have hFc := va_free (wc := [(ac, .inr (5, [.ref c1, .ref c2, .ref c3, .ref c4, .ref c5, .int 15])), (c5, .inl (cI, 4, .inl (cn 1)))]) hD hS hA [8, 13] rfl
  refine va_calli (va_runV (As := [.int 0]) (rest := []) ⟨hx, hb, hml, hown, hts⟩ (c_X1_freshOf_0 l dC dI g ac (.ref c1) (.ref c2) (.ref c3) (.ref c4) c5 15 cI (cn 1) s.heap.size) (cwV 1 hts gX6_goBeat_X1_freshOf rfl rfl rfl (by decide +kernel) ⟨Nat.le_of_ble_eq_true rfl, Nat.le_of_ble_eq_true rfl⟩) ⟨wIn_blind, va_recv hK hP (ci := 5) (q0 := 8) rfl rfl, wIn_at hPc hKc hDc hG hS hFc⟩ rfl rfl hl.1 rfl (lv_room (Nat.le_of_ble_eq_true rfl)) dX6_goBeat_26 ⟨Nat.le_of_ble_eq_true rfl, Nat.le_of_ble_eq_true rfl⟩) hS (fun q _ h => hFc q h) hFc (fun r_1 u t H1 locs ht hvm hw hB hz1 hk1 hS => ?_)
  obtain ⟨hP1, hK1, hD1⟩ := hB
  rw [ht] at hP1
  obtain ⟨hP, hD⟩ := va_join (wr := [(au, .inr (10, [.ref t1, .ref t2, .ref t3, .ref t4, .ref t5, .ref t6, .ref t7, .int 0, .int 0])), (t1, .inl (cI, 4, .inl (cn 0))), (t2, .inl (cI, 4, .inl (cn 10))), (t3, .inl (cI, 4, .inl (cn 10))), (t4, .inl (cI, 4, .inl (cn (-1)))), (t5, .inl (cI, 4, .inl (cn 0))), (t6, .inl (cI, 4, .inl (cn 0))), (t7, .inl (cI, 4, .inl (cn 110))), (c1, .inl (cI, 4, .inl (cn 0))), (c2, .inl (cI, 4, .inl (cn 1))), (c3, .inl (cI, 4, .inl (cn 0))), (c4, .inl (cI, 4, .inl (cn tk)))]) (w1 := [(ac, .inr (5, [.ref c1, .ref c2, .ref c3, .ref c4, .ref c5, .int 15])), (c5, .inl (cI, 4, .inl (cn 1)))]) hP hD [8, 13] [0, 1, 2, 3, 4, 5, 6, 7, 9, 10, 11, 12] rfl rfl (by decide) (by decide) hk1 hFc hP1 hD1
  generalize H1 = H at hP hS ⊢
  have hP : va_P (dC, dI) vwCl [(au, .inr (10, [.ref t1, .ref t2, .ref t3, .ref t4, .ref t5, .ref t6, .ref t7, .int 0, .int 0])), (t1, .inl (cI, 4, .inl (cn 0))), (t2, .inl (cI, 4, .inl (cn 10))), (t3, .inl (cI, 4, .inl (cn 10))), (t4, .inl (cI, 4, .inl (cn (-1)))), (t5, .inl (cI, 4, .inl (cn 0))), (t6, .inl (cI, 4, .inl (cn 0))), (t7, .inl (cI, 4, .inl (cn 110))), (c1, .inl (cI, 4, .inl (cn 0))), (c2, .inl (cI, 4, .inl (cn 1))), (c3, .inl (cI, 4, .inl (cn 0))), (c4, .inl (cI, 4, .inl (cn tk))), (ac, .inr (5, [.ref c1, .ref c2, .ref c3, .ref c4, .ref c5, .int 15])), (c5, .inl (cI, 4, .inl (cn 1)))] H := hP
  have hD : va_D A [(au, .inr (10, [.ref t1, .ref t2, .ref t3, .ref t4, .ref t5, .ref t6, .ref t7, .int 0, .int 0])), (t1, .inl (cI, 4, .inl (cn 0))), (t2, .inl (cI, 4, .inl (cn 10))), (t3, .inl (cI, 4, .inl (cn 10))), (t4, .inl (cI, 4, .inl (cn (-1)))), (t5, .inl (cI, 4, .inl (cn 0))), (t6, .inl (cI, 4, .inl (cn 0))), (t7, .inl (cI, 4, .inl (cn 110))), (c1, .inl (cI, 4, .inl (cn 0))), (c2, .inl (cI, 4, .inl (cn 1))), (c3, .inl (cI, 4, .inl (cn 0))), (c4, .inl (cI, 4, .inl (cn tk))), (ac, .inr (5, [.ref c1, .ref c2, .ref c3, .ref c4, .ref c5, .int 15])), (c5, .inl (cI, 4, .inl (cn 1)))] := hD
  refine lt_ci (y := 1) hw ?_
  refine lv_if_le (tgt := 36) hx hb dX6_goBeat_29 (by decide) (fun c => absurd c (by decide)) (fun _ => ?_)
  refine lv_iconst (v := 1) hx hb dX6_goBeat_32 (by decide) ?_
  refine lv_goto (tgt := 52) hx hb dX6_goBeat_33 (by decide) ?_
  refine lv_istore (lv' := [(4, .int 1), (3, .int 0), (2, .int 0), (0, .ref au), (1, .ref ac)]) hx hb dX6_goBeat_52 hl (by decide) rfl (fun ls hl => ?_)
  refine lv_iload hx hb dX6_goBeat_54 (lv_at hl 0 rfl) ?_
  refine lv_if_eq (tgt := 164) hx hb dX6_goBeat_56 (by decide) (fun c => absurd c (by decide)) (fun _ => ?_)
  refine lv_aload_n hx hb dX6_goBeat_59 rfl (lv_at hl 3 rfl) ?_
  refine va_get (D := (dC, dI)) (ci := 10) (v := .int 0) (C := RX6) (T := TX6) (N := 9) hx hb hts hiX6 hown hK hP 0 rfl rfl 8 (by decide) (hw3) (fun _ h9 => h9) rfl dX6_goBeat_60 ?_
  refine lv_iload_n hx hb dX6_goBeat_63 rfl (lv_at hl 1 rfl) ?_
  have hPc := hP.sub (ws' := []) [] rfl
  have hDc := hD.sub (ws' := []) [] (by decide) rfl
  have hKc := hK.sub (tys' := []) [] rfl
  have hFc := va_free (wc := []) hD hS hA [] rfl
  refine va_calli (va_runSN (As := [.int 0, .int 0]) (rest := []) ⟨hx, hb, hml, hown, hts⟩ (c_X8_hasBit_0 l dC dI g 0 0 H.size (by decide)) ⟨va_cnB (host := "Tickstation") 2 hts gX6_goBeat_X8_hasBit_n45 rfl rfl rfl (hN _ (List.mem_of_getElem? (i := 20) rfl)) hw4 (by decide +kernel) ⟨Nat.le_of_ble_eq_true rfl, Nat.le_of_ble_eq_true rfl⟩, hw5, trivial⟩ ⟨wIn_blind, wIn_at hPc hKc hDc hG hS hFc⟩ rfl rfl hl.1 rfl (lv_room (Nat.le_of_ble_eq_true rfl)) dX6_goBeat_64 ⟨Nat.le_of_ble_eq_true rfl, Nat.le_of_ble_eq_true rfl⟩) hS (fun q _ h => hFc q h) hFc (fun r_2 u t H1 locs ht hvm hw hB hz1 hk1 hS => ?_)
  obtain ⟨hP1, hK1, hD1⟩ := hB
  rw [ht] at hP1
  obtain ⟨hP, hD⟩ := va_join (wr := [(au, .inr (10, [.ref t1, .ref t2, .ref t3, .ref t4, .ref t5, .ref t6, .ref t7, .int 0, .int 0])), (t1, .inl (cI, 4, .inl (cn 0))), (t2, .inl (cI, 4, .inl (cn 10))), (t3, .inl (cI, 4, .inl (cn 10))), (t4, .inl (cI, 4, .inl (cn (-1)))), (t5, .inl (cI, 4, .inl (cn 0))), (t6, .inl (cI, 4, .inl (cn 0))), (t7, .inl (cI, 4, .inl (cn 110))), (c1, .inl (cI, 4, .inl (cn 0))), (c2, .inl (cI, 4, .inl (cn 1))), (c3, .inl (cI, 4, .inl (cn 0))), (c4, .inl (cI, 4, .inl (cn tk))), (ac, .inr (5, [.ref c1, .ref c2, .ref c3, .ref c4, .ref c5, .int 15])), (c5, .inl (cI, 4, .inl (cn 1)))]) (w1 := []) hP hD [] [0, 1, 2, 3, 4, 5, 6, 7, 8, 9, 10, 11, 12, 13] rfl rfl (by decide) (by decide) hk1 hFc hP1 hD1
  generalize H1 = H at hP hS ⊢
  have hP : va_P (dC, dI) vwCl [(au, .inr (10, [.ref t1, .ref t2, .ref t3, .ref t4, .ref t5, .ref t6, .ref t7, .int 0, .int 0])), (t1, .inl (cI, 4, .inl (cn 0))), (t2, .inl (cI, 4, .inl (cn 10))), (t3, .inl (cI, 4, .inl (cn 10))), (t4, .inl (cI, 4, .inl (cn (-1)))), (t5, .inl (cI, 4, .inl (cn 0))), (t6, .inl (cI, 4, .inl (cn 0))), (t7, .inl (cI, 4, .inl (cn 110))), (c1, .inl (cI, 4, .inl (cn 0))), (c2, .inl (cI, 4, .inl (cn 1))), (c3, .inl (cI, 4, .inl (cn 0))), (c4, .inl (cI, 4, .inl (cn tk))), (ac, .inr (5, [.ref c1, .ref c2, .ref c3, .ref c4, .ref c5, .int 15])), (c5, .inl (cI, 4, .inl (cn 1)))] H := hP
  have hD : va_D A [(au, .inr (10, [.ref t1, .ref t2, .ref t3, .ref t4, .ref t5, .ref t6, .ref t7, .int 0, .int 0])), (t1, .inl (cI, 4, .inl (cn 0))), (t2, .inl (cI, 4, .inl (cn 10))), (t3, .inl (cI, 4, .inl (cn 10))), (t4, .inl (cI, 4, .inl (cn (-1)))), (t5, .inl (cI, 4, .inl (cn 0))), (t6, .inl (cI, 4, .inl (cn 0))), (t7, .inl (cI, 4, .inl (cn 110))), (c1, .inl (cI, 4, .inl (cn 0))), (c2, .inl (cI, 4, .inl (cn 1))), (c3, .inl (cI, 4, .inl (cn 0))), (c4, .inl (cI, 4, .inl (cn tk))), (ac, .inr (5, [.ref c1, .ref c2, .ref c3, .ref c4, .ref c5, .int 15])), (c5, .inl (cI, 4, .inl (cn 1)))] := hD
  refine lt_ci (y := 0) hw ?_
  refine lv_if_ne (tgt := 73) hx hb dX6_goBeat_67 (by decide) (fun c => (c (by decide)).elim) (fun _ => ?_)
  refine lv_goto (tgt := 164) hx hb dX6_goBeat_70 (by decide) ?_
  refine lv_iinc (v := 1) (lv' := [(3, .int 1), (4, .int 1), (2, .int 0), (0, .ref au), (1, .ref ac)]) hx hb dX6_goBeat_164 hl (k := 1) rfl (by first | rfl | decide) (by decide) rfl (fun ls hl => ?_)
  refine lv_goto (tgt := 4) hx hb dX6_goBeat_167 (by decide) ?_
  refine lv_iload_n hx hb dX6_goBeat_4 rfl (lv_at hl 0 rfl) ?_
  refine lv_iconst (v := 4) hx hb dX6_goBeat_5 (by decide) ?_
  refine lv_icmp_ge (tgt := 170) hx hb dX6_goBeat_6 (by decide) (fun c => absurd c (by decide)) (fun _ => ?_)
  refine lv_aload_n hx hb dX6_goBeat_9 rfl (lv_at hl 3 rfl) ?_
  refine va_get (D := (dC, dI)) (ci := 10) (v := .ref t4) (C := RX6) (T := TX6) (N := 9) hx hb hts hiX6 hown hK hP 0 rfl rfl 3 (by decide) (hw0) (fun _ h9 => h9) rfl dX6_goBeat_10 ?_
  refine lv_iload_n hx hb dX6_goBeat_13 rfl (lv_at hl 0 rfl) ?_
  refine va_iald (D := (dC, dI)) hx hb hK hP 4 0 rfl rfl (by unfold vp_in; decide) dX6_goBeat_14 ?_
  refine lt_ci (y := (-1)) rfl ?_
  refine lv_iconst (v := (-1)) hx hb dX6_goBeat_15 (by decide) ?_
  refine lv_icmp_ne (tgt := 40) hx hb dX6_goBeat_16 (by decide) (fun c => (c (by decide)).elim) (fun _ => ?_)
  refine lv_aload_n hx hb dX6_goBeat_19 rfl (lv_at hl 4 rfl) ?_
  refine lv_aload_n hx hb dX6_goBeat_20 rfl (lv_at hl 3 rfl) ?_
  refine va_get (D := (dC, dI)) (ci := 10) (v := .ref t1) (C := RX6) (T := TX6) (N := 9) hx hb hts hiX6 hown hK hP 0 rfl rfl 0 (by decide) (hw2) (fun _ h9 => h9) rfl dX6_goBeat_21 ?_
  refine lv_iload_n hx hb dX6_goBeat_24 rfl (lv_at hl 0 rfl) ?_
  refine va_iald (D := (dC, dI)) hx hb hK hP 1 0 rfl rfl (by unfold vp_in; decide) dX6_goBeat_25 ?_
  refine lt_ci (y := 0) rfl ?_
  have hPc := hP.sub (ws' := [(ac, .inr (5, [.ref c1, .ref c2, .ref c3, .ref c4, .ref c5, .int 15])), (c5, .inl (cI, 4, .inl (cn 1)))]) [12, 13] rfl
  have hDc := hD.sub (ws' := [(ac, .inr (5, [.ref c1, .ref c2, .ref c3, .ref c4, .ref c5, .int 15])), (c5, .inl (cI, 4, .inl (cn 1)))]) [12, 13] (by decide) rfl
  have hKc := hK.sub (tys' := [(cI, .int)]) [0] rfl
  have hFc := va_free (wc := [(ac, .inr (5, [.ref c1, .ref c2, .ref c3, .ref c4, .ref c5, .int 15])), (c5, .inl (cI, 4, .inl (cn 1)))]) hD hS hA [12, 13] rfl
  refine va_calli (va_runV (As := [.int 0]) (rest := []) ⟨hx, hb, hml, hown, hts⟩ (c_X1_freshOf_0 l dC dI g ac (.ref c1) (.ref c2) (.ref c3) (.ref c4) c5 15 cI (cn 1) H.size) (cwV 1 hts gX6_goBeat_X1_freshOf rfl rfl rfl (by decide +kernel) ⟨Nat.le_of_ble_eq_true rfl, Nat.le_of_ble_eq_true rfl⟩) ⟨wIn_blind, va_recv hK hP (ci := 5) (q0 := 12) rfl rfl, wIn_at hPc hKc hDc hG hS hFc⟩ rfl rfl hl.1 rfl (lv_room (Nat.le_of_ble_eq_true rfl)) dX6_goBeat_26 ⟨Nat.le_of_ble_eq_true rfl, Nat.le_of_ble_eq_true rfl⟩) hS (fun q _ h => hFc q h) hFc (fun r_3 u t H1 locs ht hvm hw hB hz1 hk1 hS => ?_)
  obtain ⟨hP1, hK1, hD1⟩ := hB
  rw [ht] at hP1
  obtain ⟨hP, hD⟩ := va_join (wr := [(au, .inr (10, [.ref t1, .ref t2, .ref t3, .ref t4, .ref t5, .ref t6, .ref t7, .int 0, .int 0])), (t1, .inl (cI, 4, .inl (cn 0))), (t2, .inl (cI, 4, .inl (cn 10))), (t3, .inl (cI, 4, .inl (cn 10))), (t4, .inl (cI, 4, .inl (cn (-1)))), (t5, .inl (cI, 4, .inl (cn 0))), (t6, .inl (cI, 4, .inl (cn 0))), (t7, .inl (cI, 4, .inl (cn 110))), (c1, .inl (cI, 4, .inl (cn 0))), (c2, .inl (cI, 4, .inl (cn 1))), (c3, .inl (cI, 4, .inl (cn 0))), (c4, .inl (cI, 4, .inl (cn tk)))]) (w1 := [(ac, .inr (5, [.ref c1, .ref c2, .ref c3, .ref c4, .ref c5, .int 15])), (c5, .inl (cI, 4, .inl (cn 1)))]) hP hD [12, 13] [0, 1, 2, 3, 4, 5, 6, 7, 8, 9, 10, 11] rfl rfl (by decide) (by decide) hk1 hFc hP1 hD1
  generalize H1 = H at hP hS ⊢
  have hP : va_P (dC, dI) vwCl [(au, .inr (10, [.ref t1, .ref t2, .ref t3, .ref t4, .ref t5, .ref t6, .ref t7, .int 0, .int 0])), (t1, .inl (cI, 4, .inl (cn 0))), (t2, .inl (cI, 4, .inl (cn 10))), (t3, .inl (cI, 4, .inl (cn 10))), (t4, .inl (cI, 4, .inl (cn (-1)))), (t5, .inl (cI, 4, .inl (cn 0))), (t6, .inl (cI, 4, .inl (cn 0))), (t7, .inl (cI, 4, .inl (cn 110))), (c1, .inl (cI, 4, .inl (cn 0))), (c2, .inl (cI, 4, .inl (cn 1))), (c3, .inl (cI, 4, .inl (cn 0))), (c4, .inl (cI, 4, .inl (cn tk))), (ac, .inr (5, [.ref c1, .ref c2, .ref c3, .ref c4, .ref c5, .int 15])), (c5, .inl (cI, 4, .inl (cn 1)))] H := hP
  have hD : va_D A [(au, .inr (10, [.ref t1, .ref t2, .ref t3, .ref t4, .ref t5, .ref t6, .ref t7, .int 0, .int 0])), (t1, .inl (cI, 4, .inl (cn 0))), (t2, .inl (cI, 4, .inl (cn 10))), (t3, .inl (cI, 4, .inl (cn 10))), (t4, .inl (cI, 4, .inl (cn (-1)))), (t5, .inl (cI, 4, .inl (cn 0))), (t6, .inl (cI, 4, .inl (cn 0))), (t7, .inl (cI, 4, .inl (cn 110))), (c1, .inl (cI, 4, .inl (cn 0))), (c2, .inl (cI, 4, .inl (cn 1))), (c3, .inl (cI, 4, .inl (cn 0))), (c4, .inl (cI, 4, .inl (cn tk))), (ac, .inr (5, [.ref c1, .ref c2, .ref c3, .ref c4, .ref c5, .int 15])), (c5, .inl (cI, 4, .inl (cn 1)))] := hD
  refine lt_ci (y := 1) hw ?_
  refine lv_if_le (tgt := 36) hx hb dX6_goBeat_29 (by decide) (fun c => absurd c (by decide)) (fun _ => ?_)
  refine lv_iconst (v := 1) hx hb dX6_goBeat_32 (by decide) ?_
  refine lv_goto (tgt := 52) hx hb dX6_goBeat_33 (by decide) ?_
  refine lv_istore (lv' := [(4, .int 1), (3, .int 1), (2, .int 0), (0, .ref au), (1, .ref ac)]) hx hb dX6_goBeat_52 hl (by decide) rfl (fun ls hl => ?_)
  refine lv_iload hx hb dX6_goBeat_54 (lv_at hl 0 rfl) ?_
  refine lv_if_eq (tgt := 164) hx hb dX6_goBeat_56 (by decide) (fun c => absurd c (by decide)) (fun _ => ?_)
  refine lv_aload_n hx hb dX6_goBeat_59 rfl (lv_at hl 3 rfl) ?_
  refine va_get (D := (dC, dI)) (ci := 10) (v := .int 0) (C := RX6) (T := TX6) (N := 9) hx hb hts hiX6 hown hK hP 0 rfl rfl 8 (by decide) (hw3) (fun _ h9 => h9) rfl dX6_goBeat_60 ?_
  refine lv_iload_n hx hb dX6_goBeat_63 rfl (lv_at hl 1 rfl) ?_
  have hPc := hP.sub (ws' := []) [] rfl
  have hDc := hD.sub (ws' := []) [] (by decide) rfl
  have hKc := hK.sub (tys' := []) [] rfl
  have hFc := va_free (wc := []) hD hS hA [] rfl
  refine va_calli (va_runSN (As := [.int 0, .int 1]) (rest := []) ⟨hx, hb, hml, hown, hts⟩ (c_X8_hasBit_0 l dC dI g 0 1 H.size (by decide)) ⟨va_cnB (host := "Tickstation") 2 hts gX6_goBeat_X8_hasBit_n45 rfl rfl rfl (hN _ (List.mem_of_getElem? (i := 20) rfl)) hw4 (by decide +kernel) ⟨Nat.le_of_ble_eq_true rfl, Nat.le_of_ble_eq_true rfl⟩, hw5, trivial⟩ ⟨wIn_blind, wIn_at hPc hKc hDc hG hS hFc⟩ rfl rfl hl.1 rfl (lv_room (Nat.le_of_ble_eq_true rfl)) dX6_goBeat_64 ⟨Nat.le_of_ble_eq_true rfl, Nat.le_of_ble_eq_true rfl⟩) hS (fun q _ h => hFc q h) hFc (fun r_4 u t H1 locs ht hvm hw hB hz1 hk1 hS => ?_)
  obtain ⟨hP1, hK1, hD1⟩ := hB
  rw [ht] at hP1
  obtain ⟨hP, hD⟩ := va_join (wr := [(au, .inr (10, [.ref t1, .ref t2, .ref t3, .ref t4, .ref t5, .ref t6, .ref t7, .int 0, .int 0])), (t1, .inl (cI, 4, .inl (cn 0))), (t2, .inl (cI, 4, .inl (cn 10))), (t3, .inl (cI, 4, .inl (cn 10))), (t4, .inl (cI, 4, .inl (cn (-1)))), (t5, .inl (cI, 4, .inl (cn 0))), (t6, .inl (cI, 4, .inl (cn 0))), (t7, .inl (cI, 4, .inl (cn 110))), (c1, .inl (cI, 4, .inl (cn 0))), (c2, .inl (cI, 4, .inl (cn 1))), (c3, .inl (cI, 4, .inl (cn 0))), (c4, .inl (cI, 4, .inl (cn tk))), (ac, .inr (5, [.ref c1, .ref c2, .ref c3, .ref c4, .ref c5, .int 15])), (c5, .inl (cI, 4, .inl (cn 1)))]) (w1 := []) hP hD [] [0, 1, 2, 3, 4, 5, 6, 7, 8, 9, 10, 11, 12, 13] rfl rfl (by decide) (by decide) hk1 hFc hP1 hD1
  generalize H1 = H at hP hS ⊢
  have hP : va_P (dC, dI) vwCl [(au, .inr (10, [.ref t1, .ref t2, .ref t3, .ref t4, .ref t5, .ref t6, .ref t7, .int 0, .int 0])), (t1, .inl (cI, 4, .inl (cn 0))), (t2, .inl (cI, 4, .inl (cn 10))), (t3, .inl (cI, 4, .inl (cn 10))), (t4, .inl (cI, 4, .inl (cn (-1)))), (t5, .inl (cI, 4, .inl (cn 0))), (t6, .inl (cI, 4, .inl (cn 0))), (t7, .inl (cI, 4, .inl (cn 110))), (c1, .inl (cI, 4, .inl (cn 0))), (c2, .inl (cI, 4, .inl (cn 1))), (c3, .inl (cI, 4, .inl (cn 0))), (c4, .inl (cI, 4, .inl (cn tk))), (ac, .inr (5, [.ref c1, .ref c2, .ref c3, .ref c4, .ref c5, .int 15])), (c5, .inl (cI, 4, .inl (cn 1)))] H := hP
  have hD : va_D A [(au, .inr (10, [.ref t1, .ref t2, .ref t3, .ref t4, .ref t5, .ref t6, .ref t7, .int 0, .int 0])), (t1, .inl (cI, 4, .inl (cn 0))), (t2, .inl (cI, 4, .inl (cn 10))), (t3, .inl (cI, 4, .inl (cn 10))), (t4, .inl (cI, 4, .inl (cn (-1)))), (t5, .inl (cI, 4, .inl (cn 0))), (t6, .inl (cI, 4, .inl (cn 0))), (t7, .inl (cI, 4, .inl (cn 110))), (c1, .inl (cI, 4, .inl (cn 0))), (c2, .inl (cI, 4, .inl (cn 1))), (c3, .inl (cI, 4, .inl (cn 0))), (c4, .inl (cI, 4, .inl (cn tk))), (ac, .inr (5, [.ref c1, .ref c2, .ref c3, .ref c4, .ref c5, .int 15])), (c5, .inl (cI, 4, .inl (cn 1)))] := hD
  refine lt_ci (y := 0) hw ?_
  refine lv_if_ne (tgt := 73) hx hb dX6_goBeat_67 (by decide) (fun c => (c (by decide)).elim) (fun _ => ?_)
  refine lv_goto (tgt := 164) hx hb dX6_goBeat_70 (by decide) ?_
  refine lv_iinc (v := 2) (lv' := [(3, .int 2), (4, .int 1), (2, .int 0), (0, .ref au), (1, .ref ac)]) hx hb dX6_goBeat_164 hl (k := 1) rfl (by first | rfl | decide) (by decide) rfl (fun ls hl => ?_)
  refine lv_goto (tgt := 4) hx hb dX6_goBeat_167 (by decide) ?_
  refine lv_iload_n hx hb dX6_goBeat_4 rfl (lv_at hl 0 rfl) ?_
  refine lv_iconst (v := 4) hx hb dX6_goBeat_5 (by decide) ?_
  refine lv_icmp_ge (tgt := 170) hx hb dX6_goBeat_6 (by decide) (fun c => absurd c (by decide)) (fun _ => ?_)
  refine lv_aload_n hx hb dX6_goBeat_9 rfl (lv_at hl 3 rfl) ?_
  refine va_get (D := (dC, dI)) (ci := 10) (v := .ref t4) (C := RX6) (T := TX6) (N := 9) hx hb hts hiX6 hown hK hP 0 rfl rfl 3 (by decide) (hw0) (fun _ h9 => h9) rfl dX6_goBeat_10 ?_
  refine lv_iload_n hx hb dX6_goBeat_13 rfl (lv_at hl 0 rfl) ?_
  refine va_iald (D := (dC, dI)) hx hb hK hP 4 0 rfl rfl (by unfold vp_in; decide) dX6_goBeat_14 ?_
  refine lt_ci (y := (-1)) rfl ?_
  refine lv_iconst (v := (-1)) hx hb dX6_goBeat_15 (by decide) ?_
  refine lv_icmp_ne (tgt := 40) hx hb dX6_goBeat_16 (by decide) (fun c => (c (by decide)).elim) (fun _ => ?_)
  refine lv_aload_n hx hb dX6_goBeat_19 rfl (lv_at hl 4 rfl) ?_
  refine lv_aload_n hx hb dX6_goBeat_20 rfl (lv_at hl 3 rfl) ?_
  refine va_get (D := (dC, dI)) (ci := 10) (v := .ref t1) (C := RX6) (T := TX6) (N := 9) hx hb hts hiX6 hown hK hP 0 rfl rfl 0 (by decide) (hw2) (fun _ h9 => h9) rfl dX6_goBeat_21 ?_
  refine lv_iload_n hx hb dX6_goBeat_24 rfl (lv_at hl 0 rfl) ?_
  refine va_iald (D := (dC, dI)) hx hb hK hP 1 0 rfl rfl (by unfold vp_in; decide) dX6_goBeat_25 ?_
  refine lt_ci (y := 0) rfl ?_
  have hPc := hP.sub (ws' := [(ac, .inr (5, [.ref c1, .ref c2, .ref c3, .ref c4, .ref c5, .int 15])), (c5, .inl (cI, 4, .inl (cn 1)))]) [12, 13] rfl
  have hDc := hD.sub (ws' := [(ac, .inr (5, [.ref c1, .ref c2, .ref c3, .ref c4, .ref c5, .int 15])), (c5, .inl (cI, 4, .inl (cn 1)))]) [12, 13] (by decide) rfl
  have hKc := hK.sub (tys' := [(cI, .int)]) [0] rfl
  have hFc := va_free (wc := [(ac, .inr (5, [.ref c1, .ref c2, .ref c3, .ref c4, .ref c5, .int 15])), (c5, .inl (cI, 4, .inl (cn 1)))]) hD hS hA [12, 13] rfl
  refine va_calli (va_runV (As := [.int 0]) (rest := []) ⟨hx, hb, hml, hown, hts⟩ (c_X1_freshOf_0 l dC dI g ac (.ref c1) (.ref c2) (.ref c3) (.ref c4) c5 15 cI (cn 1) H.size) (cwV 1 hts gX6_goBeat_X1_freshOf rfl rfl rfl (by decide +kernel) ⟨Nat.le_of_ble_eq_true rfl, Nat.le_of_ble_eq_true rfl⟩) ⟨wIn_blind, va_recv hK hP (ci := 5) (q0 := 12) rfl rfl, wIn_at hPc hKc hDc hG hS hFc⟩ rfl rfl hl.1 rfl (lv_room (Nat.le_of_ble_eq_true rfl)) dX6_goBeat_26 ⟨Nat.le_of_ble_eq_true rfl, Nat.le_of_ble_eq_true rfl⟩) hS (fun q _ h => hFc q h) hFc (fun r_5 u t H1 locs ht hvm hw hB hz1 hk1 hS => ?_)
  obtain ⟨hP1, hK1, hD1⟩ := hB
  rw [ht] at hP1
  obtain ⟨hP, hD⟩ := va_join (wr := [(au, .inr (10, [.ref t1, .ref t2, .ref t3, .ref t4, .ref t5, .ref t6, .ref t7, .int 0, .int 0])), (t1, .inl (cI, 4, .inl (cn 0))), (t2, .inl (cI, 4, .inl (cn 10))), (t3, .inl (cI, 4, .inl (cn 10))), (t4, .inl (cI, 4, .inl (cn (-1)))), (t5, .inl (cI, 4, .inl (cn 0))), (t6, .inl (cI, 4, .inl (cn 0))), (t7, .inl (cI, 4, .inl (cn 110))), (c1, .inl (cI, 4, .inl (cn 0))), (c2, .inl (cI, 4, .inl (cn 1))), (c3, .inl (cI, 4, .inl (cn 0))), (c4, .inl (cI, 4, .inl (cn tk)))]) (w1 := [(ac, .inr (5, [.ref c1, .ref c2, .ref c3, .ref c4, .ref c5, .int 15])), (c5, .inl (cI, 4, .inl (cn 1)))]) hP hD [12, 13] [0, 1, 2, 3, 4, 5, 6, 7, 8, 9, 10, 11] rfl rfl (by decide) (by decide) hk1 hFc hP1 hD1
  generalize H1 = H at hP hS ⊢
  have hP : va_P (dC, dI) vwCl [(au, .inr (10, [.ref t1, .ref t2, .ref t3, .ref t4, .ref t5, .ref t6, .ref t7, .int 0, .int 0])), (t1, .inl (cI, 4, .inl (cn 0))), (t2, .inl (cI, 4, .inl (cn 10))), (t3, .inl (cI, 4, .inl (cn 10))), (t4, .inl (cI, 4, .inl (cn (-1)))), (t5, .inl (cI, 4, .inl (cn 0))), (t6, .inl (cI, 4, .inl (cn 0))), (t7, .inl (cI, 4, .inl (cn 110))), (c1, .inl (cI, 4, .inl (cn 0))), (c2, .inl (cI, 4, .inl (cn 1))), (c3, .inl (cI, 4, .inl (cn 0))), (c4, .inl (cI, 4, .inl (cn tk))), (ac, .inr (5, [.ref c1, .ref c2, .ref c3, .ref c4, .ref c5, .int 15])), (c5, .inl (cI, 4, .inl (cn 1)))] H := hP
  have hD : va_D A [(au, .inr (10, [.ref t1, .ref t2, .ref t3, .ref t4, .ref t5, .ref t6, .ref t7, .int 0, .int 0])), (t1, .inl (cI, 4, .inl (cn 0))), (t2, .inl (cI, 4, .inl (cn 10))), (t3, .inl (cI, 4, .inl (cn 10))), (t4, .inl (cI, 4, .inl (cn (-1)))), (t5, .inl (cI, 4, .inl (cn 0))), (t6, .inl (cI, 4, .inl (cn 0))), (t7, .inl (cI, 4, .inl (cn 110))), (c1, .inl (cI, 4, .inl (cn 0))), (c2, .inl (cI, 4, .inl (cn 1))), (c3, .inl (cI, 4, .inl (cn 0))), (c4, .inl (cI, 4, .inl (cn tk))), (ac, .inr (5, [.ref c1, .ref c2, .ref c3, .ref c4, .ref c5, .int 15])), (c5, .inl (cI, 4, .inl (cn 1)))] := hD
  refine lt_ci (y := 1) hw ?_
  refine lv_if_le (tgt := 36) hx hb dX6_goBeat_29 (by decide) (fun c => absurd c (by decide)) (fun _ => ?_)
  refine lv_iconst (v := 1) hx hb dX6_goBeat_32 (by decide) ?_
  refine lv_goto (tgt := 52) hx hb dX6_goBeat_33 (by decide) ?_
  refine lv_istore (lv' := [(4, .int 1), (3, .int 2), (2, .int 0), (0, .ref au), (1, .ref ac)]) hx hb dX6_goBeat_52 hl (by decide) rfl (fun ls hl => ?_)
  refine lv_iload hx hb dX6_goBeat_54 (lv_at hl 0 rfl) ?_
  refine lv_if_eq (tgt := 164) hx hb dX6_goBeat_56 (by decide) (fun c => absurd c (by decide)) (fun _ => ?_)
  refine lv_aload_n hx hb dX6_goBeat_59 rfl (lv_at hl 3 rfl) ?_
  refine va_get (D := (dC, dI)) (ci := 10) (v := .int 0) (C := RX6) (T := TX6) (N := 9) hx hb hts hiX6 hown hK hP 0 rfl rfl 8 (by decide) (hw3) (fun _ h9 => h9) rfl dX6_goBeat_60 ?_
  refine lv_iload_n hx hb dX6_goBeat_63 rfl (lv_at hl 1 rfl) ?_
  have hPc := hP.sub (ws' := []) [] rfl
  have hDc := hD.sub (ws' := []) [] (by decide) rfl
  have hKc := hK.sub (tys' := []) [] rfl
  have hFc := va_free (wc := []) hD hS hA [] rfl
  refine va_calli (va_runSN (As := [.int 0, .int 2]) (rest := []) ⟨hx, hb, hml, hown, hts⟩ (c_X8_hasBit_0 l dC dI g 0 2 H.size (by decide)) ⟨va_cnB (host := "Tickstation") 2 hts gX6_goBeat_X8_hasBit_n45 rfl rfl rfl (hN _ (List.mem_of_getElem? (i := 20) rfl)) hw4 (by decide +kernel) ⟨Nat.le_of_ble_eq_true rfl, Nat.le_of_ble_eq_true rfl⟩, hw5, trivial⟩ ⟨wIn_blind, wIn_at hPc hKc hDc hG hS hFc⟩ rfl rfl hl.1 rfl (lv_room (Nat.le_of_ble_eq_true rfl)) dX6_goBeat_64 ⟨Nat.le_of_ble_eq_true rfl, Nat.le_of_ble_eq_true rfl⟩) hS (fun q _ h => hFc q h) hFc (fun r_6 u t H1 locs ht hvm hw hB hz1 hk1 hS => ?_)
  obtain ⟨hP1, hK1, hD1⟩ := hB
  rw [ht] at hP1
  obtain ⟨hP, hD⟩ := va_join (wr := [(au, .inr (10, [.ref t1, .ref t2, .ref t3, .ref t4, .ref t5, .ref t6, .ref t7, .int 0, .int 0])), (t1, .inl (cI, 4, .inl (cn 0))), (t2, .inl (cI, 4, .inl (cn 10))), (t3, .inl (cI, 4, .inl (cn 10))), (t4, .inl (cI, 4, .inl (cn (-1)))), (t5, .inl (cI, 4, .inl (cn 0))), (t6, .inl (cI, 4, .inl (cn 0))), (t7, .inl (cI, 4, .inl (cn 110))), (c1, .inl (cI, 4, .inl (cn 0))), (c2, .inl (cI, 4, .inl (cn 1))), (c3, .inl (cI, 4, .inl (cn 0))), (c4, .inl (cI, 4, .inl (cn tk))), (ac, .inr (5, [.ref c1, .ref c2, .ref c3, .ref c4, .ref c5, .int 15])), (c5, .inl (cI, 4, .inl (cn 1)))]) (w1 := []) hP hD [] [0, 1, 2, 3, 4, 5, 6, 7, 8, 9, 10, 11, 12, 13] rfl rfl (by decide) (by decide) hk1 hFc hP1 hD1
  generalize H1 = H at hP hS ⊢
  have hP : va_P (dC, dI) vwCl [(au, .inr (10, [.ref t1, .ref t2, .ref t3, .ref t4, .ref t5, .ref t6, .ref t7, .int 0, .int 0])), (t1, .inl (cI, 4, .inl (cn 0))), (t2, .inl (cI, 4, .inl (cn 10))), (t3, .inl (cI, 4, .inl (cn 10))), (t4, .inl (cI, 4, .inl (cn (-1)))), (t5, .inl (cI, 4, .inl (cn 0))), (t6, .inl (cI, 4, .inl (cn 0))), (t7, .inl (cI, 4, .inl (cn 110))), (c1, .inl (cI, 4, .inl (cn 0))), (c2, .inl (cI, 4, .inl (cn 1))), (c3, .inl (cI, 4, .inl (cn 0))), (c4, .inl (cI, 4, .inl (cn tk))), (ac, .inr (5, [.ref c1, .ref c2, .ref c3, .ref c4, .ref c5, .int 15])), (c5, .inl (cI, 4, .inl (cn 1)))] H := hP
  have hD : va_D A [(au, .inr (10, [.ref t1, .ref t2, .ref t3, .ref t4, .ref t5, .ref t6, .ref t7, .int 0, .int 0])), (t1, .inl (cI, 4, .inl (cn 0))), (t2, .inl (cI, 4, .inl (cn 10))), (t3, .inl (cI, 4, .inl (cn 10))), (t4, .inl (cI, 4, .inl (cn (-1)))), (t5, .inl (cI, 4, .inl (cn 0))), (t6, .inl (cI, 4, .inl (cn 0))), (t7, .inl (cI, 4, .inl (cn 110))), (c1, .inl (cI, 4, .inl (cn 0))), (c2, .inl (cI, 4, .inl (cn 1))), (c3, .inl (cI, 4, .inl (cn 0))), (c4, .inl (cI, 4, .inl (cn tk))), (ac, .inr (5, [.ref c1, .ref c2, .ref c3, .ref c4, .ref c5, .int 15])), (c5, .inl (cI, 4, .inl (cn 1)))] := hD
  refine lt_ci (y := 0) hw ?_
  refine lv_if_ne (tgt := 73) hx hb dX6_goBeat_67 (by decide) (fun c => (c (by decide)).elim) (fun _ => ?_)
  refine lv_goto (tgt := 164) hx hb dX6_goBeat_70 (by decide) ?_
  refine lv_iinc (v := 3) (lv' := [(3, .int 3), (4, .int 1), (2, .int 0), (0, .ref au), (1, .ref ac)]) hx hb dX6_goBeat_164 hl (k := 1) rfl (by first | rfl | decide) (by decide) rfl (fun ls hl => ?_)
  refine lv_goto (tgt := 4) hx hb dX6_goBeat_167 (by decide) ?_
  refine lv_iload_n hx hb dX6_goBeat_4 rfl (lv_at hl 0 rfl) ?_
  refine lv_iconst (v := 4) hx hb dX6_goBeat_5 (by decide) ?_
  refine lv_icmp_ge (tgt := 170) hx hb dX6_goBeat_6 (by decide) (fun c => absurd c (by decide)) (fun _ => ?_)
  refine lv_aload_n hx hb dX6_goBeat_9 rfl (lv_at hl 3 rfl) ?_
  refine va_get (D := (dC, dI)) (ci := 10) (v := .ref t4) (C := RX6) (T := TX6) (N := 9) hx hb hts hiX6 hown hK hP 0 rfl rfl 3 (by decide) (hw0) (fun _ h9 => h9) rfl dX6_goBeat_10 ?_
  refine lv_iload_n hx hb dX6_goBeat_13 rfl (lv_at hl 0 rfl) ?_
  refine va_iald (D := (dC, dI)) hx hb hK hP 4 0 rfl rfl (by unfold vp_in; decide) dX6_goBeat_14 ?_
  refine lt_ci (y := (-1)) rfl ?_
  refine lv_iconst (v := (-1)) hx hb dX6_goBeat_15 (by decide) ?_
  refine lv_icmp_ne (tgt := 40) hx hb dX6_goBeat_16 (by decide) (fun c => (c (by decide)).elim) (fun _ => ?_)
  refine lv_aload_n hx hb dX6_goBeat_19 rfl (lv_at hl 4 rfl) ?_
  refine lv_aload_n hx hb dX6_goBeat_20 rfl (lv_at hl 3 rfl) ?_
  refine va_get (D := (dC, dI)) (ci := 10) (v := .ref t1) (C := RX6) (T := TX6) (N := 9) hx hb hts hiX6 hown hK hP 0 rfl rfl 0 (by decide) (hw2) (fun _ h9 => h9) rfl dX6_goBeat_21 ?_
  refine lv_iload_n hx hb dX6_goBeat_24 rfl (lv_at hl 0 rfl) ?_
  refine va_iald (D := (dC, dI)) hx hb hK hP 1 0 rfl rfl (by unfold vp_in; decide) dX6_goBeat_25 ?_
  refine lt_ci (y := 0) rfl ?_
  have hPc := hP.sub (ws' := [(ac, .inr (5, [.ref c1, .ref c2, .ref c3, .ref c4, .ref c5, .int 15])), (c5, .inl (cI, 4, .inl (cn 1)))]) [12, 13] rfl
  have hDc := hD.sub (ws' := [(ac, .inr (5, [.ref c1, .ref c2, .ref c3, .ref c4, .ref c5, .int 15])), (c5, .inl (cI, 4, .inl (cn 1)))]) [12, 13] (by decide) rfl
  have hKc := hK.sub (tys' := [(cI, .int)]) [0] rfl
  have hFc := va_free (wc := [(ac, .inr (5, [.ref c1, .ref c2, .ref c3, .ref c4, .ref c5, .int 15])), (c5, .inl (cI, 4, .inl (cn 1)))]) hD hS hA [12, 13] rfl
  refine va_calli (va_runV (As := [.int 0]) (rest := []) ⟨hx, hb, hml, hown, hts⟩ (c_X1_freshOf_0 l dC dI g ac (.ref c1) (.ref c2) (.ref c3) (.ref c4) c5 15 cI (cn 1) H.size) (cwV 1 hts gX6_goBeat_X1_freshOf rfl rfl rfl (by decide +kernel) ⟨Nat.le_of_ble_eq_true rfl, Nat.le_of_ble_eq_true rfl⟩) ⟨wIn_blind, va_recv hK hP (ci := 5) (q0 := 12) rfl rfl, wIn_at hPc hKc hDc hG hS hFc⟩ rfl rfl hl.1 rfl (lv_room (Nat.le_of_ble_eq_true rfl)) dX6_goBeat_26 ⟨Nat.le_of_ble_eq_true rfl, Nat.le_of_ble_eq_true rfl⟩) hS (fun q _ h => hFc q h) hFc (fun r_7 u t H1 locs ht hvm hw hB hz1 hk1 hS => ?_)
  obtain ⟨hP1, hK1, hD1⟩ := hB
  rw [ht] at hP1
  obtain ⟨hP, hD⟩ := va_join (wr := [(au, .inr (10, [.ref t1, .ref t2, .ref t3, .ref t4, .ref t5, .ref t6, .ref t7, .int 0, .int 0])), (t1, .inl (cI, 4, .inl (cn 0))), (t2, .inl (cI, 4, .inl (cn 10))), (t3, .inl (cI, 4, .inl (cn 10))), (t4, .inl (cI, 4, .inl (cn (-1)))), (t5, .inl (cI, 4, .inl (cn 0))), (t6, .inl (cI, 4, .inl (cn 0))), (t7, .inl (cI, 4, .inl (cn 110))), (c1, .inl (cI, 4, .inl (cn 0))), (c2, .inl (cI, 4, .inl (cn 1))), (c3, .inl (cI, 4, .inl (cn 0))), (c4, .inl (cI, 4, .inl (cn tk)))]) (w1 := [(ac, .inr (5, [.ref c1, .ref c2, .ref c3, .ref c4, .ref c5, .int 15])), (c5, .inl (cI, 4, .inl (cn 1)))]) hP hD [12, 13] [0, 1, 2, 3, 4, 5, 6, 7, 8, 9, 10, 11] rfl rfl (by decide) (by decide) hk1 hFc hP1 hD1
  generalize H1 = H at hP hS ⊢
  have hP : va_P (dC, dI) vwCl [(au, .inr (10, [.ref t1, .ref t2, .ref t3, .ref t4, .ref t5, .ref t6, .ref t7, .int 0, .int 0])), (t1, .inl (cI, 4, .inl (cn 0))), (t2, .inl (cI, 4, .inl (cn 10))), (t3, .inl (cI, 4, .inl (cn 10))), (t4, .inl (cI, 4, .inl (cn (-1)))), (t5, .inl (cI, 4, .inl (cn 0))), (t6, .inl (cI, 4, .inl (cn 0))), (t7, .inl (cI, 4, .inl (cn 110))), (c1, .inl (cI, 4, .inl (cn 0))), (c2, .inl (cI, 4, .inl (cn 1))), (c3, .inl (cI, 4, .inl (cn 0))), (c4, .inl (cI, 4, .inl (cn tk))), (ac, .inr (5, [.ref c1, .ref c2, .ref c3, .ref c4, .ref c5, .int 15])), (c5, .inl (cI, 4, .inl (cn 1)))] H := hP
  have hD : va_D A [(au, .inr (10, [.ref t1, .ref t2, .ref t3, .ref t4, .ref t5, .ref t6, .ref t7, .int 0, .int 0])), (t1, .inl (cI, 4, .inl (cn 0))), (t2, .inl (cI, 4, .inl (cn 10))), (t3, .inl (cI, 4, .inl (cn 10))), (t4, .inl (cI, 4, .inl (cn (-1)))), (t5, .inl (cI, 4, .inl (cn 0))), (t6, .inl (cI, 4, .inl (cn 0))), (t7, .inl (cI, 4, .inl (cn 110))), (c1, .inl (cI, 4, .inl (cn 0))), (c2, .inl (cI, 4, .inl (cn 1))), (c3, .inl (cI, 4, .inl (cn 0))), (c4, .inl (cI, 4, .inl (cn tk))), (ac, .inr (5, [.ref c1, .ref c2, .ref c3, .ref c4, .ref c5, .int 15])), (c5, .inl (cI, 4, .inl (cn 1)))] := hD
  refine lt_ci (y := 1) hw ?_
  refine lv_if_le (tgt := 36) hx hb dX6_goBeat_29 (by decide) (fun c => absurd c (by decide)) (fun _ => ?_)
  refine lv_iconst (v := 1) hx hb dX6_goBeat_32 (by decide) ?_
  refine lv_goto (tgt := 52) hx hb dX6_goBeat_33 (by decide) ?_
  refine lv_istore (lv' := [(4, .int 1), (3, .int 3), (2, .int 0), (0, .ref au), (1, .ref ac)]) hx hb dX6_goBeat_52 hl (by decide) rfl (fun ls hl => ?_)
  refine lv_iload hx hb dX6_goBeat_54 (lv_at hl 0 rfl) ?_
  refine lv_if_eq (tgt := 164) hx hb dX6_goBeat_56 (by decide) (fun c => absurd c (by decide)) (fun _ => ?_)
  refine lv_aload_n hx hb dX6_goBeat_59 rfl (lv_at hl 3 rfl) ?_
  refine va_get (D := (dC, dI)) (ci := 10) (v := .int 0) (C := RX6) (T := TX6) (N := 9) hx hb hts hiX6 hown hK hP 0 rfl rfl 8 (by decide) (hw3) (fun _ h9 => h9) rfl dX6_goBeat_60 ?_
  refine lv_iload_n hx hb dX6_goBeat_63 rfl (lv_at hl 1 rfl) ?_
  have hPc := hP.sub (ws' := []) [] rfl
  have hDc := hD.sub (ws' := []) [] (by decide) rfl
  have hKc := hK.sub (tys' := []) [] rfl
  have hFc := va_free (wc := []) hD hS hA [] rfl
  refine va_calli (va_runSN (As := [.int 0, .int 3]) (rest := []) ⟨hx, hb, hml, hown, hts⟩ (c_X8_hasBit_0 l dC dI g 0 3 H.size (by decide)) ⟨va_cnB (host := "Tickstation") 2 hts gX6_goBeat_X8_hasBit_n45 rfl rfl rfl (hN _ (List.mem_of_getElem? (i := 20) rfl)) hw4 (by decide +kernel) ⟨Nat.le_of_ble_eq_true rfl, Nat.le_of_ble_eq_true rfl⟩, hw5, trivial⟩ ⟨wIn_blind, wIn_at hPc hKc hDc hG hS hFc⟩ rfl rfl hl.1 rfl (lv_room (Nat.le_of_ble_eq_true rfl)) dX6_goBeat_64 ⟨Nat.le_of_ble_eq_true rfl, Nat.le_of_ble_eq_true rfl⟩) hS (fun q _ h => hFc q h) hFc (fun r_8 u t H1 locs ht hvm hw hB hz1 hk1 hS => ?_)
  obtain ⟨hP1, hK1, hD1⟩ := hB
  rw [ht] at hP1
  obtain ⟨hP, hD⟩ := va_join (wr := [(au, .inr (10, [.ref t1, .ref t2, .ref t3, .ref t4, .ref t5, .ref t6, .ref t7, .int 0, .int 0])), (t1, .inl (cI, 4, .inl (cn 0))), (t2, .inl (cI, 4, .inl (cn 10))), (t3, .inl (cI, 4, .inl (cn 10))), (t4, .inl (cI, 4, .inl (cn (-1)))), (t5, .inl (cI, 4, .inl (cn 0))), (t6, .inl (cI, 4, .inl (cn 0))), (t7, .inl (cI, 4, .inl (cn 110))), (c1, .inl (cI, 4, .inl (cn 0))), (c2, .inl (cI, 4, .inl (cn 1))), (c3, .inl (cI, 4, .inl (cn 0))), (c4, .inl (cI, 4, .inl (cn tk))), (ac, .inr (5, [.ref c1, .ref c2, .ref c3, .ref c4, .ref c5, .int 15])), (c5, .inl (cI, 4, .inl (cn 1)))]) (w1 := []) hP hD [] [0, 1, 2, 3, 4, 5, 6, 7, 8, 9, 10, 11, 12, 13] rfl rfl (by decide) (by decide) hk1 hFc hP1 hD1
  generalize H1 = H at hP hS ⊢
  have hP : va_P (dC, dI) vwCl [(au, .inr (10, [.ref t1, .ref t2, .ref t3, .ref t4, .ref t5, .ref t6, .ref t7, .int 0, .int 0])), (t1, .inl (cI, 4, .inl (cn 0))), (t2, .inl (cI, 4, .inl (cn 10))), (t3, .inl (cI, 4, .inl (cn 10))), (t4, .inl (cI, 4, .inl (cn (-1)))), (t5, .inl (cI, 4, .inl (cn 0))), (t6, .inl (cI, 4, .inl (cn 0))), (t7, .inl (cI, 4, .inl (cn 110))), (c1, .inl (cI, 4, .inl (cn 0))), (c2, .inl (cI, 4, .inl (cn 1))), (c3, .inl (cI, 4, .inl (cn 0))), (c4, .inl (cI, 4, .inl (cn tk))), (ac, .inr (5, [.ref c1, .ref c2, .ref c3, .ref c4, .ref c5, .int 15])), (c5, .inl (cI, 4, .inl (cn 1)))] H := hP
  have hD : va_D A [(au, .inr (10, [.ref t1, .ref t2, .ref t3, .ref t4, .ref t5, .ref t6, .ref t7, .int 0, .int 0])), (t1, .inl (cI, 4, .inl (cn 0))), (t2, .inl (cI, 4, .inl (cn 10))), (t3, .inl (cI, 4, .inl (cn 10))), (t4, .inl (cI, 4, .inl (cn (-1)))), (t5, .inl (cI, 4, .inl (cn 0))), (t6, .inl (cI, 4, .inl (cn 0))), (t7, .inl (cI, 4, .inl (cn 110))), (c1, .inl (cI, 4, .inl (cn 0))), (c2, .inl (cI, 4, .inl (cn 1))), (c3, .inl (cI, 4, .inl (cn 0))), (c4, .inl (cI, 4, .inl (cn tk))), (ac, .inr (5, [.ref c1, .ref c2, .ref c3, .ref c4, .ref c5, .int 15])), (c5, .inl (cI, 4, .inl (cn 1)))] := hD
  refine lt_ci (y := 0) hw ?_
  refine lv_if_ne (tgt := 73) hx hb dX6_goBeat_67 (by decide) (fun c => (c (by decide)).elim) (fun _ => ?_)
  refine lv_goto (tgt := 164) hx hb dX6_goBeat_70 (by decide) ?_
  refine lv_iinc (v := 4) (lv' := [(3, .int 4), (4, .int 1), (2, .int 0), (0, .ref au), (1, .ref ac)]) hx hb dX6_goBeat_164 hl (k := 1) rfl (by first | rfl | decide) (by decide) rfl (fun ls hl => ?_)
  refine lv_goto (tgt := 4) hx hb dX6_goBeat_167 (by decide) ?_
  refine lv_iload_n hx hb dX6_goBeat_4 rfl (lv_at hl 0 rfl) ?_
  refine lv_iconst (v := 4) hx hb dX6_goBeat_5 (by decide) ?_
  refine lv_icmp_ge (tgt := 170) hx hb dX6_goBeat_6 (by decide) (fun _ => ?_) (fun c => absurd (by decide) c)
  refine lv_iload_n hx hb dX6_goBeat_170 rfl (lv_at hl 2 rfl) ?_
  have hP9 := hP.sub (ws' := [(au, .inr (10, [.ref t1, .ref t2, .ref t3, .ref t4, .ref t5, .ref t6, .ref t7, .int 0, .int 0])), (t1, .inl (cI, 4, .inl (cn 0))), (t2, .inl (cI, 4, .inl (cn 10))), (t3, .inl (cI, 4, .inl (cn 10))), (t4, .inl (cI, 4, .inl (cn (-1)))), (t5, .inl (cI, 4, .inl (cn 0))), (t6, .inl (cI, 4, .inl (cn 0))), (t7, .inl (cI, 4, .inl (cn 110))), (ac, .inr (5, [.ref c1, .ref c2, .ref c3, .ref c4, .ref c5, .int 15])), (c1, .inl (cI, 4, .inl (cn 0))), (c2, .inl (cI, 4, .inl (cn 1))), (c3, .inl (cI, 4, .inl (cn 0))), (c4, .inl (cI, 4, .inl (cn tk))), (c5, .inl (cI, 4, .inl (cn 1)))]) [0, 1, 2, 3, 4, 5, 6, 7, 12, 8, 9, 10, 11, 13] rfl
  have hD9 := hD.sub (ws' := [(au, .inr (10, [.ref t1, .ref t2, .ref t3, .ref t4, .ref t5, .ref t6, .ref t7, .int 0, .int 0])), (t1, .inl (cI, 4, .inl (cn 0))), (t2, .inl (cI, 4, .inl (cn 10))), (t3, .inl (cI, 4, .inl (cn 10))), (t4, .inl (cI, 4, .inl (cn (-1)))), (t5, .inl (cI, 4, .inl (cn 0))), (t6, .inl (cI, 4, .inl (cn 0))), (t7, .inl (cI, 4, .inl (cn 110))), (ac, .inr (5, [.ref c1, .ref c2, .ref c3, .ref c4, .ref c5, .int 15])), (c1, .inl (cI, 4, .inl (cn 0))), (c2, .inl (cI, 4, .inl (cn 1))), (c3, .inl (cI, 4, .inl (cn 0))), (c4, .inl (cI, 4, .inl (cn tk))), (c5, .inl (cI, 4, .inl (cn 1)))]) [0, 1, 2, 3, 4, 5, 6, 7, 12, 8, 9, 10, 11, 13] (by decide) rfl
  have hK9 := hK.sub (tys' := [(cI, .int)]) [0] rfl
  exact W.iret (v := 0) hx hb hr (fun t ht hW => ⟨⟨0, (), rfl, rfl, wOut_at ht hW hP9 hK9 hD9⟩, hS.F ht⟩) hS.2.2 dX6_goBeat_171

set_option maxHeartbeats 4000000 in
set_option maxRecDepth 100000 in
theorem c_X0_changePins (l : Launch) (dC : Nat → ClassId) (dI : Nat → Nat → Nat) (g : Nat × Nat × Nat) (ah : Nat) (ac : Nat) (au : Nat) (ab : Nat) (an : Nat) (ak : Nat) (ad : Nat) (cI : ClassId) (tm : Int32) (sl : Int32) (en : Int64) (sz : Nat) : Met l yX0_changePins wsX0_changePins ({ frames := 1, cells := 0, slots := 0, locals := 21 } : Room) (va_Pc [.ref ah, .int 0] (wIn dC dI g [(ah, .inr (4, [.ref ac, .ref au, .ref ab, .ref an, .ref ak, .ref ad, .int tm, .int sl, .long en]))] [(cI, .int)] sz)) (va_Qv (fun (u : Unit) => True) (fun (u : Unit) (t : State) => wOut dC dI [(ah, .inr (4, [.ref ac, .ref au, .ref ab, .ref an, .ref ak, .ref ad, .int tm, .int sl, .long en]))] [(cI, .int)] (va_A [(ah, .inr (4, [.ref ac, .ref au, .ref ab, .ref an, .ref ak, .ref ad, .int tm, .int sl, .long en]))] sz) t) (va_A [(ah, .inr (4, [.ref ac, .ref au, .ref ab, .ref an, .ref ak, .ref ad, .int tm, .int sl, .long en]))] sz)) 0 0 (va_A [(ah, .inr (4, [.ref ac, .ref au, .ref ab, .ref an, .ref ak, .ref ad, .int tm, .int sl, .long en]))] sz) := by
  refine Met.ofW (cc := cX0_changePins) (maxL := 3) (ret := none) (by decide) rfl ?_
  intro p e s m args below meth c s₁ B hml hv
  obtain ⟨rfl, hsz, hP, hK, hD0, hG⟩ := hv
  have hx := B.exec
  have hb := B.bytes
  have hr := B.returns
  have hts := atoms_spec (ws := wsX0_changePins) B.pre
  have hown : s.vm.findClass RX0 = some m.cls := findClass_of_methodNamed B.named
  have hlocks := B.notSynchronized
  subst hsz
  have hD := hD0.self (sz := s.heap.size)
  generalize hAe : va_A [(ah, .inr (4, [.ref ac, .ref au, .ref ab, .ref an, .ref ak, .ref ad, .int tm, .int sl, .long en]))] s.heap.size = A at hD hG ⊢
  have hN := hG.1
  have hA : ∀ q : Nat, s.heap.size ≤ q → A q := fun q h => by rw [← hAe]; exact Or.inr h
  have hS : va_S A s.heap s.heap [] := va_S.rf
  have hP : va_P (dC, dI) vwCl [(ah, .inr (4, [.ref ac, .ref au, .ref ab, .ref an, .ref ak, .ref ad, .int tm, .int sl, .long en]))] s.heap := hP
  have hw0 : (Cond.initialized RX8).before _ s = true := hts _ (List.mem_cons_of_mem _ (List.mem_append_left _ (List.mem_append_left _ (List.mem_append_left _ (List.mem_append_left _ (List.mem_of_getElem? (i := 6) rfl))))))
  have hw1 : (Cond.static yX8_hasBit).before _ s = true := hts _ (List.mem_cons_of_mem _ (List.mem_append_left _ (List.mem_append_left _ (List.mem_append_left _ (List.mem_append_left _ (List.mem_of_getElem? (i := 5) rfl))))))
  have hl := lv_entry ([.ref ah, .int 0]) (n := 3) (Nat.le_of_ble_eq_true rfl)
  rw [lg_entry_eq]
  generalize (lg_sl ([.ref ah, .int 0]) ++ List.replicate (3 - (lg_sl ([.ref ah, .int 0])).length) Slot.unset).toArray = ls at hl ⊢
  have hl : lv_has ls 3 [(0, .ref ah), (1, .int 0)] := hl
  refine lv_iconst (v := 0) hx hb dX0_changePins_0 (by decide) ?_
  refine lv_istore_n (lv' := [(2, .int 0), (0, .ref ah), (1, .int 0)]) hx hb dX0_changePins_1 rfl hl (by decide) rfl (fun ls hl => ?_)
  refine lv_iload_n hx hb dX0_changePins_2 rfl (lv_at hl 0 rfl) ?_
  refine lv_iconst (v := 4) hx hb dX0_changePins_3 (by decide) ?_
  refine lv_icmp_ge (tgt := 50) hx hb dX0_changePins_4 (by decide) (fun c => absurd c (by decide)) (fun _ => ?_)
  refine lv_iload_n hx hb dX0_changePins_7 rfl (lv_at hl 2 rfl) ?_
  refine lv_iload_n hx hb dX0_changePins_8 rfl (lv_at hl 0 rfl) ?_
  have hPc := hP.sub (ws' := []) [] rfl
  have hDc := hD.sub (ws' := []) [] (by decide) rfl
  have hKc := hK.sub (tys' := []) [] rfl
  have hFc := va_free (wc := []) hD hS hA [] rfl
  refine va_calli (va_runSN (As := [.int 0, .int 0]) (rest := []) ⟨hx, hb, hml, hown, hts⟩ (c_X8_hasBit_0 l dC dI g 0 0 s.heap.size (by decide)) ⟨va_cnB (host := "Tickstation") 2 hts gX0_changePins_X8_hasBit_n122 rfl rfl rfl (hN _ (List.mem_of_getElem? (i := 1) rfl)) hw0 (by decide +kernel) ⟨Nat.le_of_ble_eq_true rfl, Nat.le_of_ble_eq_true rfl⟩, hw1, trivial⟩ ⟨wIn_blind, wIn_at hPc hKc hDc hG hS hFc⟩ rfl rfl hl.1 rfl (lv_room (Nat.le_of_ble_eq_true rfl)) dX0_changePins_9 ⟨Nat.le_of_ble_eq_true rfl, Nat.le_of_ble_eq_true rfl⟩) hS (fun q _ h => hFc q h) hFc (fun r_1 u t H1 locs ht hvm hw hB hz1 hk1 hS => ?_)
  obtain ⟨hP1, hK1, hD1⟩ := hB
  rw [ht] at hP1
  obtain ⟨hP, hD⟩ := va_join (wr := [(ah, .inr (4, [.ref ac, .ref au, .ref ab, .ref an, .ref ak, .ref ad, .int tm, .int sl, .long en]))]) (w1 := []) hP hD [] [0] rfl rfl (by decide) (by decide) hk1 hFc hP1 hD1
  generalize H1 = H at hP hS ⊢
  have hP : va_P (dC, dI) vwCl [(ah, .inr (4, [.ref ac, .ref au, .ref ab, .ref an, .ref ak, .ref ad, .int tm, .int sl, .long en]))] H := hP
  have hD : va_D A [(ah, .inr (4, [.ref ac, .ref au, .ref ab, .ref an, .ref ak, .ref ad, .int tm, .int sl, .long en]))] := hD
  refine lt_ci (y := 0) hw ?_
  refine lv_if_eq (tgt := 44) hx hb dX0_changePins_12 (by decide) (fun _ => ?_) (fun c => absurd (by decide) c)
  refine lv_iinc (v := 1) (lv' := [(2, .int 1), (0, .ref ah), (1, .int 0)]) hx hb dX0_changePins_44 hl (k := 0) rfl (by first | rfl | decide) (by decide) rfl (fun ls hl => ?_)
  refine lv_goto (tgt := 2) hx hb dX0_changePins_47 (by decide) ?_
  refine lv_iload_n hx hb dX0_changePins_2 rfl (lv_at hl 0 rfl) ?_
  refine lv_iconst (v := 4) hx hb dX0_changePins_3 (by decide) ?_
  refine lv_icmp_ge (tgt := 50) hx hb dX0_changePins_4 (by decide) (fun c => absurd c (by decide)) (fun _ => ?_)
  refine lv_iload_n hx hb dX0_changePins_7 rfl (lv_at hl 2 rfl) ?_
  refine lv_iload_n hx hb dX0_changePins_8 rfl (lv_at hl 0 rfl) ?_
  have hPc := hP.sub (ws' := []) [] rfl
  have hDc := hD.sub (ws' := []) [] (by decide) rfl
  have hKc := hK.sub (tys' := []) [] rfl
  have hFc := va_free (wc := []) hD hS hA [] rfl
  refine va_calli (va_runSN (As := [.int 0, .int 1]) (rest := []) ⟨hx, hb, hml, hown, hts⟩ (c_X8_hasBit_0 l dC dI g 0 1 H.size (by decide)) ⟨va_cnB (host := "Tickstation") 2 hts gX0_changePins_X8_hasBit_n122 rfl rfl rfl (hN _ (List.mem_of_getElem? (i := 1) rfl)) hw0 (by decide +kernel) ⟨Nat.le_of_ble_eq_true rfl, Nat.le_of_ble_eq_true rfl⟩, hw1, trivial⟩ ⟨wIn_blind, wIn_at hPc hKc hDc hG hS hFc⟩ rfl rfl hl.1 rfl (lv_room (Nat.le_of_ble_eq_true rfl)) dX0_changePins_9 ⟨Nat.le_of_ble_eq_true rfl, Nat.le_of_ble_eq_true rfl⟩) hS (fun q _ h => hFc q h) hFc (fun r_2 u t H1 locs ht hvm hw hB hz1 hk1 hS => ?_)
  obtain ⟨hP1, hK1, hD1⟩ := hB
  rw [ht] at hP1
  obtain ⟨hP, hD⟩ := va_join (wr := [(ah, .inr (4, [.ref ac, .ref au, .ref ab, .ref an, .ref ak, .ref ad, .int tm, .int sl, .long en]))]) (w1 := []) hP hD [] [0] rfl rfl (by decide) (by decide) hk1 hFc hP1 hD1
  generalize H1 = H at hP hS ⊢
  have hP : va_P (dC, dI) vwCl [(ah, .inr (4, [.ref ac, .ref au, .ref ab, .ref an, .ref ak, .ref ad, .int tm, .int sl, .long en]))] H := hP
  have hD : va_D A [(ah, .inr (4, [.ref ac, .ref au, .ref ab, .ref an, .ref ak, .ref ad, .int tm, .int sl, .long en]))] := hD
  refine lt_ci (y := 0) hw ?_
  refine lv_if_eq (tgt := 44) hx hb dX0_changePins_12 (by decide) (fun _ => ?_) (fun c => absurd (by decide) c)
  refine lv_iinc (v := 2) (lv' := [(2, .int 2), (0, .ref ah), (1, .int 0)]) hx hb dX0_changePins_44 hl (k := 0) rfl (by first | rfl | decide) (by decide) rfl (fun ls hl => ?_)
  refine lv_goto (tgt := 2) hx hb dX0_changePins_47 (by decide) ?_
  refine lv_iload_n hx hb dX0_changePins_2 rfl (lv_at hl 0 rfl) ?_
  refine lv_iconst (v := 4) hx hb dX0_changePins_3 (by decide) ?_
  refine lv_icmp_ge (tgt := 50) hx hb dX0_changePins_4 (by decide) (fun c => absurd c (by decide)) (fun _ => ?_)
  refine lv_iload_n hx hb dX0_changePins_7 rfl (lv_at hl 2 rfl) ?_
  refine lv_iload_n hx hb dX0_changePins_8 rfl (lv_at hl 0 rfl) ?_
  have hPc := hP.sub (ws' := []) [] rfl
  have hDc := hD.sub (ws' := []) [] (by decide) rfl
  have hKc := hK.sub (tys' := []) [] rfl
  have hFc := va_free (wc := []) hD hS hA [] rfl
  refine va_calli (va_runSN (As := [.int 0, .int 2]) (rest := []) ⟨hx, hb, hml, hown, hts⟩ (c_X8_hasBit_0 l dC dI g 0 2 H.size (by decide)) ⟨va_cnB (host := "Tickstation") 2 hts gX0_changePins_X8_hasBit_n122 rfl rfl rfl (hN _ (List.mem_of_getElem? (i := 1) rfl)) hw0 (by decide +kernel) ⟨Nat.le_of_ble_eq_true rfl, Nat.le_of_ble_eq_true rfl⟩, hw1, trivial⟩ ⟨wIn_blind, wIn_at hPc hKc hDc hG hS hFc⟩ rfl rfl hl.1 rfl (lv_room (Nat.le_of_ble_eq_true rfl)) dX0_changePins_9 ⟨Nat.le_of_ble_eq_true rfl, Nat.le_of_ble_eq_true rfl⟩) hS (fun q _ h => hFc q h) hFc (fun r_3 u t H1 locs ht hvm hw hB hz1 hk1 hS => ?_)
  obtain ⟨hP1, hK1, hD1⟩ := hB
  rw [ht] at hP1
  obtain ⟨hP, hD⟩ := va_join (wr := [(ah, .inr (4, [.ref ac, .ref au, .ref ab, .ref an, .ref ak, .ref ad, .int tm, .int sl, .long en]))]) (w1 := []) hP hD [] [0] rfl rfl (by decide) (by decide) hk1 hFc hP1 hD1
  generalize H1 = H at hP hS ⊢
  have hP : va_P (dC, dI) vwCl [(ah, .inr (4, [.ref ac, .ref au, .ref ab, .ref an, .ref ak, .ref ad, .int tm, .int sl, .long en]))] H := hP
  have hD : va_D A [(ah, .inr (4, [.ref ac, .ref au, .ref ab, .ref an, .ref ak, .ref ad, .int tm, .int sl, .long en]))] := hD
  refine lt_ci (y := 0) hw ?_
  refine lv_if_eq (tgt := 44) hx hb dX0_changePins_12 (by decide) (fun _ => ?_) (fun c => absurd (by decide) c)
  refine lv_iinc (v := 3) (lv' := [(2, .int 3), (0, .ref ah), (1, .int 0)]) hx hb dX0_changePins_44 hl (k := 0) rfl (by first | rfl | decide) (by decide) rfl (fun ls hl => ?_)
  refine lv_goto (tgt := 2) hx hb dX0_changePins_47 (by decide) ?_
  refine lv_iload_n hx hb dX0_changePins_2 rfl (lv_at hl 0 rfl) ?_
  refine lv_iconst (v := 4) hx hb dX0_changePins_3 (by decide) ?_
  refine lv_icmp_ge (tgt := 50) hx hb dX0_changePins_4 (by decide) (fun c => absurd c (by decide)) (fun _ => ?_)
  refine lv_iload_n hx hb dX0_changePins_7 rfl (lv_at hl 2 rfl) ?_
  refine lv_iload_n hx hb dX0_changePins_8 rfl (lv_at hl 0 rfl) ?_
  have hPc := hP.sub (ws' := []) [] rfl
  have hDc := hD.sub (ws' := []) [] (by decide) rfl
  have hKc := hK.sub (tys' := []) [] rfl
  have hFc := va_free (wc := []) hD hS hA [] rfl
  refine va_calli (va_runSN (As := [.int 0, .int 3]) (rest := []) ⟨hx, hb, hml, hown, hts⟩ (c_X8_hasBit_0 l dC dI g 0 3 H.size (by decide)) ⟨va_cnB (host := "Tickstation") 2 hts gX0_changePins_X8_hasBit_n122 rfl rfl rfl (hN _ (List.mem_of_getElem? (i := 1) rfl)) hw0 (by decide +kernel) ⟨Nat.le_of_ble_eq_true rfl, Nat.le_of_ble_eq_true rfl⟩, hw1, trivial⟩ ⟨wIn_blind, wIn_at hPc hKc hDc hG hS hFc⟩ rfl rfl hl.1 rfl (lv_room (Nat.le_of_ble_eq_true rfl)) dX0_changePins_9 ⟨Nat.le_of_ble_eq_true rfl, Nat.le_of_ble_eq_true rfl⟩) hS (fun q _ h => hFc q h) hFc (fun r_4 u t H1 locs ht hvm hw hB hz1 hk1 hS => ?_)
  obtain ⟨hP1, hK1, hD1⟩ := hB
  rw [ht] at hP1
  obtain ⟨hP, hD⟩ := va_join (wr := [(ah, .inr (4, [.ref ac, .ref au, .ref ab, .ref an, .ref ak, .ref ad, .int tm, .int sl, .long en]))]) (w1 := []) hP hD [] [0] rfl rfl (by decide) (by decide) hk1 hFc hP1 hD1
  generalize H1 = H at hP hS ⊢
  have hP : va_P (dC, dI) vwCl [(ah, .inr (4, [.ref ac, .ref au, .ref ab, .ref an, .ref ak, .ref ad, .int tm, .int sl, .long en]))] H := hP
  have hD : va_D A [(ah, .inr (4, [.ref ac, .ref au, .ref ab, .ref an, .ref ak, .ref ad, .int tm, .int sl, .long en]))] := hD
  refine lt_ci (y := 0) hw ?_
  refine lv_if_eq (tgt := 44) hx hb dX0_changePins_12 (by decide) (fun _ => ?_) (fun c => absurd (by decide) c)
  refine lv_iinc (v := 4) (lv' := [(2, .int 4), (0, .ref ah), (1, .int 0)]) hx hb dX0_changePins_44 hl (k := 0) rfl (by first | rfl | decide) (by decide) rfl (fun ls hl => ?_)
  refine lv_goto (tgt := 2) hx hb dX0_changePins_47 (by decide) ?_
  refine lv_iload_n hx hb dX0_changePins_2 rfl (lv_at hl 0 rfl) ?_
  refine lv_iconst (v := 4) hx hb dX0_changePins_3 (by decide) ?_
  refine lv_icmp_ge (tgt := 50) hx hb dX0_changePins_4 (by decide) (fun _ => ?_) (fun c => absurd (by decide) c)
  have hP9 := hP.sub (ws' := [(ah, .inr (4, [.ref ac, .ref au, .ref ab, .ref an, .ref ak, .ref ad, .int tm, .int sl, .long en]))]) [0] rfl
  have hD9 := hD.sub (ws' := [(ah, .inr (4, [.ref ac, .ref au, .ref ab, .ref an, .ref ak, .ref ad, .int tm, .int sl, .long en]))]) [0] (by decide) rfl
  have hK9 := hK.sub (tys' := [(cI, .int)]) [0] rfl
  exact W.vret hx hb hr (fun t ht hW => ⟨⟨(), rfl, trivial, wOut_at ht hW hP9 hK9 hD9⟩, hS.F ht⟩) hS.2.2 dX0_changePins_50

set_option maxHeartbeats 4000000 in
set_option maxRecDepth 100000 in
theorem c_X7_goBeat (l : Launch) (dC : Nat → ClassId) (dI : Nat → Nat → Nat) (g : Nat × Nat × Nat) (ad : Nat) (ac : Nat) (cI : ClassId) (sz : Nat) : Met l yX7_goBeat wsX7_goBeat ({ frames := 0, cells := 0, slots := 0, locals := 0 } : Room) (va_Pc [.ref ad, .ref ac] (wIn dC dI g [(ad, .inr (11, [.int (-1), .int 0, .int 0, .int 0, .int 0, .int 0]))] [(cI, .int)] sz)) (va_Qi (fun (r : Int32) (u : Unit) => r = 0) (fun (u : Unit) (t : State) => wOut dC dI [(ad, .inr (11, [.int (-1), .int 0, .int 0, .int 0, .int 0, .int 0]))] [(cI, .int)] (va_A [(ad, .inr (11, [.int (-1), .int 0, .int 0, .int 0, .int 0, .int 0]))] sz) t) (va_A [(ad, .inr (11, [.int (-1), .int 0, .int 0, .int 0, .int 0, .int 0]))] sz)) 0 0 (va_A [(ad, .inr (11, [.int (-1), .int 0, .int 0, .int 0, .int 0, .int 0]))] sz) := by
  refine Met.ofW (cc := cX7_goBeat) (maxL := 2) (ret := (some .boolean)) (by decide) rfl ?_
  intro p e s m args below meth c s₁ B hml hv
  obtain ⟨rfl, hsz, hP, hK, hD0, hG⟩ := hv
  have hx := B.exec
  have hb := B.bytes
  have hr := B.returns
  have hts := atoms_spec (ws := wsX7_goBeat) B.pre
  have hown : s.vm.findClass RX7 = some m.cls := findClass_of_methodNamed B.named
  have hlocks := B.notSynchronized
  subst hsz
  have hD := hD0.self (sz := s.heap.size)
  generalize hAe : va_A [(ad, .inr (11, [.int (-1), .int 0, .int 0, .int 0, .int 0, .int 0]))] s.heap.size = A at hD hG ⊢
  have hN := hG.1
  have hA : ∀ q : Nat, s.heap.size ≤ q → A q := fun q h => by rw [← hAe]; exact Or.inr h
  have hS : va_S A s.heap s.heap [] := va_S.rf
  have hP : va_P (dC, dI) vwCl [(ad, .inr (11, [.int (-1), .int 0, .int 0, .int 0, .int 0, .int 0]))] s.heap := hP
  have hw0 : (Cond.fieldLink RX7 9 "Tickstation$Watchdog" "clock" "I").before _ s = true := hts _ (List.mem_cons_of_mem _ (List.mem_append_left _ (List.mem_append_left _ (List.mem_append_left _ (List.mem_of_getElem? (i := 0) rfl)))))
  have hiX7 : ∀ w ∈ u_ws RX7 TX7 6, w ∈ wsX7_goBeat := fun _ h => List.mem_cons_of_mem _ (List.mem_append_left _ (List.mem_append_left _ (List.mem_append_right _ (h))))
  have hl := lv_entry ([.ref ad, .ref ac]) (n := 2) (Nat.le_of_ble_eq_true rfl)
  rw [lg_entry_eq]
  generalize (lg_sl ([.ref ad, .ref ac]) ++ List.replicate (2 - (lg_sl ([.ref ad, .ref ac])).length) Slot.unset).toArray = ls at hl ⊢
  have hl : lv_has ls 2 [(0, .ref ad), (1, .ref ac)] := hl
  refine lv_aload_n hx hb dX7_goBeat_0 rfl (lv_at hl 0 rfl) ?_
  refine va_get (D := (dC, dI)) (ci := 11) (v := .int (-1)) (C := RX7) (T := TX7) (N := 6) hx hb hts hiX7 hown hK hP 0 rfl rfl 0 (by decide) (hw0) (fun _ h9 => h9) rfl dX7_goBeat_1 ?_
  refine lv_iconst (v := (-1)) hx hb dX7_goBeat_4 (by decide) ?_
  refine lv_icmp_eq (tgt := 19) hx hb dX7_goBeat_5 (by decide) (fun _ => ?_) (fun c => absurd (by decide) c)
  refine lv_iconst (v := 0) hx hb dX7_goBeat_19 (by decide) ?_
  have hP9 := hP.sub (ws' := [(ad, .inr (11, [.int (-1), .int 0, .int 0, .int 0, .int 0, .int 0]))]) [0] rfl
  have hD9 := hD.sub (ws' := [(ad, .inr (11, [.int (-1), .int 0, .int 0, .int 0, .int 0, .int 0]))]) [0] (by decide) rfl
  have hK9 := hK.sub (tys' := [(cI, .int)]) [0] rfl
  exact W.zret (v := 0) hx hb hr (by first | rfl | decide) (fun t ht hW => ⟨⟨0, (), rfl, rfl, wOut_at ht hW hP9 hK9 hD9⟩, hS.F ht⟩) hS.2.2 dX7_goBeat_20

set_option maxHeartbeats 4000000 in
set_option maxRecDepth 100000 in
theorem c_X2_first (l : Launch) (dC : Nat → ClassId) (dI : Nat → Nat → Nat) (g : Nat × Nat × Nat) (an : Nat) (n1 : Nat) (n2 : Nat) (n3 : Nat) (n4 : Nat) (n5 : Nat) (cI : ClassId) (sz : Nat) : Met l yX2_first wsX2_first ({ frames := 0, cells := 0, slots := 0, locals := 0 } : Room) (va_Pc [.ref an] (wIn dC dI g [(an, .inr (6, [.ref n1, .ref n2, .ref n3, .ref n4, .ref n5, .int 0, .int 0]))] [(cI, .int)] sz)) (va_Qi (fun (r : Int32) (u : Unit) => r = (-1)) (fun (u : Unit) (t : State) => wOut dC dI [(an, .inr (6, [.ref n1, .ref n2, .ref n3, .ref n4, .ref n5, .int 0, .int 0]))] [(cI, .int)] (va_A [(an, .inr (6, [.ref n1, .ref n2, .ref n3, .ref n4, .ref n5, .int 0, .int 0]))] sz) t) (va_A [(an, .inr (6, [.ref n1, .ref n2, .ref n3, .ref n4, .ref n5, .int 0, .int 0]))] sz)) 0 0 (va_A [(an, .inr (6, [.ref n1, .ref n2, .ref n3, .ref n4, .ref n5, .int 0, .int 0]))] sz) := by
  refine Met.ofW (cc := cX2_first) (maxL := 5) (ret := (some .int)) (by decide) rfl ?_
  intro p e s m args below meth c s₁ B hml hv
  obtain ⟨rfl, hsz, hP, hK, hD0, hG⟩ := hv
  have hx := B.exec
  have hb := B.bytes
  have hr := B.returns
  have hts := atoms_spec (ws := wsX2_first) B.pre
  have hown : s.vm.findClass RX2 = some m.cls := findClass_of_methodNamed B.named
  have hlocks := B.notSynchronized
  subst hsz
  have hD := hD0.self (sz := s.heap.size)
  generalize hAe : va_A [(an, .inr (6, [.ref n1, .ref n2, .ref n3, .ref n4, .ref n5, .int 0, .int 0]))] s.heap.size = A at hD hG ⊢
  have hN := hG.1
  have hA : ∀ q : Nat, s.heap.size ≤ q → A q := fun q h => by rw [← hAe]; exact Or.inr h
  have hS : va_S A s.heap s.heap [] := va_S.rf
  have hP : va_P (dC, dI) vwCl [(an, .inr (6, [.ref n1, .ref n2, .ref n3, .ref n4, .ref n5, .int 0, .int 0]))] s.heap := hP
  have hw0 : (Cond.fieldLink RX2 33 "Tickstation$Lines" "enabled" "I").before _ s = true := hts _ (List.mem_cons_of_mem _ (List.mem_append_left _ (List.mem_append_left _ (List.mem_of_getElem? (i := 0) rfl))))
  have hiX2 : ∀ w ∈ u_ws RX2 TX2 7, w ∈ wsX2_first := fun _ h => List.mem_cons_of_mem _ (List.mem_append_left _ (List.mem_append_right _ (h)))
  have hw2 : (Cond.fieldLink RX2 37 "Tickstation$Lines" "requested" "I").before _ s = true := hts _ (List.mem_cons_of_mem _ (List.mem_append_left _ (List.mem_append_left _ (List.mem_of_getElem? (i := 1) rfl))))
  have hl := lv_entry ([.ref an]) (n := 5) (Nat.le_of_ble_eq_true rfl)
  rw [lg_entry_eq]
  generalize (lg_sl ([.ref an]) ++ List.replicate (5 - (lg_sl ([.ref an])).length) Slot.unset).toArray = ls at hl ⊢
  have hl : lv_has ls 5 [(0, .ref an)] := hl
  refine lv_aload_n hx hb dX2_first_0 rfl (lv_at hl 0 rfl) ?_
  refine va_get (D := (dC, dI)) (ci := 6) (v := .int 0) (C := RX2) (T := TX2) (N := 7) hx hb hts hiX2 hown hK hP 0 rfl rfl 5 (by decide) (hw0) (fun _ h9 => h9) rfl dX2_first_1 ?_
  refine lv_aload_n hx hb dX2_first_4 rfl (lv_at hl 0 rfl) ?_
  refine va_get (D := (dC, dI)) (ci := 6) (v := .int 0) (C := RX2) (T := TX2) (N := 7) hx hb hts hiX2 hown hK hP 0 rfl rfl 6 (by decide) (hw2) (fun _ h9 => h9) rfl dX2_first_5 ?_
  refine lv_iand hx hb dX2_first_8 ?_
  refine lt_ci (y := 0) (by first | rfl | decide) ?_
  refine lv_istore_n (lv' := [(1, .int 0), (0, .ref an)]) hx hb dX2_first_9 rfl hl (by decide) rfl (fun ls hl => ?_)
  refine lv_iconst (v := (-1)) hx hb dX2_first_10 (by decide) ?_
  refine lv_istore_n (lv' := [(2, .int (-1)), (1, .int 0), (0, .ref an)]) hx hb dX2_first_11 rfl hl (by decide) rfl (fun ls hl => ?_)
  refine lv_bipush (v := 8) hx hb dX2_first_12 (by decide) ?_
  refine lv_istore_n (lv' := [(3, .int 8), (2, .int (-1)), (1, .int 0), (0, .ref an)]) hx hb dX2_first_14 rfl hl (by decide) rfl (fun ls hl => ?_)
  refine lv_iconst (v := 0) hx hb dX2_first_15 (by decide) ?_
  refine lv_istore (lv' := [(4, .int 0), (3, .int 8), (2, .int (-1)), (1, .int 0), (0, .ref an)]) hx hb dX2_first_16 hl (by decide) rfl (fun ls hl => ?_)
  refine lv_iload hx hb dX2_first_18 (lv_at hl 0 rfl) ?_
  refine lv_bipush (v := 8) hx hb dX2_first_20 (by decide) ?_
  refine lv_icmp_ge (tgt := 66) hx hb dX2_first_22 (by decide) (fun c => absurd c (by decide)) (fun _ => ?_)
  refine lv_iload_n hx hb dX2_first_25 rfl (lv_at hl 3 rfl) ?_
  refine lv_if_eq (tgt := 66) hx hb dX2_first_26 (by decide) (fun _ => ?_) (fun c => absurd (by decide) c)
  refine lv_iload_n hx hb dX2_first_66 rfl (lv_at hl 2 rfl) ?_
  have hP9 := hP.sub (ws' := [(an, .inr (6, [.ref n1, .ref n2, .ref n3, .ref n4, .ref n5, .int 0, .int 0]))]) [0] rfl
  have hD9 := hD.sub (ws' := [(an, .inr (6, [.ref n1, .ref n2, .ref n3, .ref n4, .ref n5, .int 0, .int 0]))]) [0] (by decide) rfl
  have hK9 := hK.sub (tys' := [(cI, .int)]) [0] rfl
  exact W.iret (v := (-1)) hx hb hr (fun t ht hW => ⟨⟨(-1), (), rfl, rfl, wOut_at ht hW hP9 hK9 hD9⟩, hS.F ht⟩) hS.2.2 dX2_first_67

set_option maxHeartbeats 4000000 in
set_option maxRecDepth 100000 in
theorem c_X4_goIdleBeat (l : Launch) (dC : Nat → ClassId) (dI : Nat → Nat → Nat) (g : Nat × Nat × Nat) (ak : Nat) (ar : Nat) (cI : ClassId) (sz : Nat) : Met l yX4_goIdleBeat wsX4_goIdleBeat ({ frames := 0, cells := 0, slots := 0, locals := 0 } : Room) (va_Pc [.ref ak, .int (-1)] (wIn dC dI g [(ak, .inr (8, [.ref ar, .int 105, .int 0, .int (-1), .int 0, .int 0, .int 0]))] [(cI, .int)] sz)) (va_Qv (fun (u : Unit) => True) (fun (u : Unit) (t : State) => wOut dC dI [(ak, .inr (8, [.ref ar, .int 105, .int 0, .int (-1), .int 0, .int 0, .int 0]))] [(cI, .int)] (va_A [(ak, .inr (8, [.ref ar, .int 105, .int 0, .int (-1), .int 0, .int 0, .int 0]))] sz) t) (va_A [(ak, .inr (8, [.ref ar, .int 105, .int 0, .int (-1), .int 0, .int 0, .int 0]))] sz)) 0 0 (va_A [(ak, .inr (8, [.ref ar, .int 105, .int 0, .int (-1), .int 0, .int 0, .int 0]))] sz) := by
  refine Met.ofW (cc := cX4_goIdleBeat) (maxL := 2) (ret := none) (by decide) rfl ?_
  intro p e s m args below meth c s₁ B hml hv
  obtain ⟨rfl, hsz, hP, hK, hD0, hG⟩ := hv
  have hx := B.exec
  have hb := B.bytes
  have hr := B.returns
  have hts := atoms_spec (ws := wsX4_goIdleBeat) B.pre
  have hown : s.vm.findClass RX4 = some m.cls := findClass_of_methodNamed B.named
  have hlocks := B.notSynchronized
  subst hsz
  have hD := hD0.self (sz := s.heap.size)
  generalize hAe : va_A [(ak, .inr (8, [.ref ar, .int 105, .int 0, .int (-1), .int 0, .int 0, .int 0]))] s.heap.size = A at hD hG ⊢
  have hN := hG.1
  have hA : ∀ q : Nat, s.heap.size ≤ q → A q := fun q h => by rw [← hAe]; exact Or.inr h
  have hS : va_S A s.heap s.heap [] := va_S.rf
  have hP : va_P (dC, dI) vwCl [(ak, .inr (8, [.ref ar, .int 105, .int 0, .int (-1), .int 0, .int 0, .int 0]))] s.heap := hP
  have hw0 : (Cond.fieldLink RX4 26 "Tickstation$Processor" "sleepDepth" "I").before _ s = true := hts _ (List.mem_cons_of_mem _ (List.mem_append_left _ (List.mem_of_getElem? (i := 0) rfl)))
  have hiX4 : ∀ w ∈ u_ws RX4 TX4 7, w ∈ wsX4_goIdleBeat := fun _ h => List.mem_cons_of_mem _ (List.mem_append_right _ (h))
  have hl := lv_entry ([.ref ak, .int (-1)]) (n := 2) (Nat.le_of_ble_eq_true rfl)
  rw [lg_entry_eq]
  generalize (lg_sl ([.ref ak, .int (-1)]) ++ List.replicate (2 - (lg_sl ([.ref ak, .int (-1)])).length) Slot.unset).toArray = ls at hl ⊢
  have hl : lv_has ls 2 [(0, .ref ak), (1, .int (-1))] := hl
  refine lv_iload_n hx hb dX4_goIdleBeat_0 rfl (lv_at hl 1 rfl) ?_
  refine lv_iconst (v := (-1)) hx hb dX4_goIdleBeat_1 (by decide) ?_
  refine lv_icmp_eq (tgt := 14) hx hb dX4_goIdleBeat_2 (by decide) (fun _ => ?_) (fun c => absurd (by decide) c)
  refine lv_aload_n hx hb dX4_goIdleBeat_14 rfl (lv_at hl 0 rfl) ?_
  refine va_get (D := (dC, dI)) (ci := 8) (v := .int 0) (C := RX4) (T := TX4) (N := 7) hx hb hts hiX4 hown hK hP 0 rfl rfl 4 (by decide) (hw0) (fun _ h9 => h9) rfl dX4_goIdleBeat_15 ?_
  refine lv_if_eq (tgt := 27) hx hb dX4_goIdleBeat_18 (by decide) (fun _ => ?_) (fun c => absurd (by decide) c)
  have hP9 := hP.sub (ws' := [(ak, .inr (8, [.ref ar, .int 105, .int 0, .int (-1), .int 0, .int 0, .int 0]))]) [0] rfl
  have hD9 := hD.sub (ws' := [(ak, .inr (8, [.ref ar, .int 105, .int 0, .int (-1), .int 0, .int 0, .int 0]))]) [0] (by decide) rfl
  have hK9 := hK.sub (tys' := [(cI, .int)]) [0] rfl
  exact W.vret hx hb hr (fun t ht hW => ⟨⟨(), rfl, trivial, wOut_at ht hW hP9 hK9 hD9⟩, hS.F ht⟩) hS.2.2 dX4_goIdleBeat_27

set_option maxHeartbeats 4000000 in
set_option maxRecDepth 100000 in
theorem c_X4_goBeat (l : Launch) (dC : Nat → ClassId) (dI : Nat → Nat → Nat) (g : Nat × Nat × Nat) (an : Nat) (n1 : Nat) (n2 : Nat) (n3 : Nat) (n4 : Nat) (n5 : Nat) (ak : Nat) (ar : Nat) (cI : ClassId) (sz : Nat) : Met l yX4_goBeat wsX4_goBeat ({ frames := 1, cells := 0, slots := 0, locals := 24 } : Room) (va_Pc [.ref ak, .ref an] (wIn dC dI g [(ak, .inr (8, [.ref ar, .int 105, .int 0, .int (-1), .int 0, .int 0, .int 0])), (an, .inr (6, [.ref n1, .ref n2, .ref n3, .ref n4, .ref n5, .int 0, .int 0]))] [(cI, .int)] sz)) (va_Qi (fun (r : Int32) (u : Unit) => r = (-1)) (fun (u : Unit) (t : State) => wOut dC dI [(ak, .inr (8, [.ref ar, .int 105, .int 0, .int (-1), .int 0, .int 0, .int 0])), (an, .inr (6, [.ref n1, .ref n2, .ref n3, .ref n4, .ref n5, .int 0, .int 0]))] [(cI, .int)] (va_A [(ak, .inr (8, [.ref ar, .int 105, .int 0, .int (-1), .int 0, .int 0, .int 0])), (an, .inr (6, [.ref n1, .ref n2, .ref n3, .ref n4, .ref n5, .int 0, .int 0]))] sz) t) (va_A [(ak, .inr (8, [.ref ar, .int 105, .int 0, .int (-1), .int 0, .int 0, .int 0])), (an, .inr (6, [.ref n1, .ref n2, .ref n3, .ref n4, .ref n5, .int 0, .int 0]))] sz)) 0 0 (va_A [(ak, .inr (8, [.ref ar, .int 105, .int 0, .int (-1), .int 0, .int 0, .int 0])), (an, .inr (6, [.ref n1, .ref n2, .ref n3, .ref n4, .ref n5, .int 0, .int 0]))] sz) := by
  refine Met.ofW (cc := cX4_goBeat) (maxL := 3) (ret := (some .int)) (by decide) rfl ?_
  intro p e s m args below meth c s₁ B hml hv
  obtain ⟨rfl, hsz, hP, hK, hD0, hG⟩ := hv
  have hx := B.exec
  have hb := B.bytes
  have hr := B.returns
  have hts := atoms_spec (ws := wsX4_goBeat) B.pre
  have hown : s.vm.findClass RX4 = some m.cls := findClass_of_methodNamed B.named
  have hlocks := B.notSynchronized
  subst hsz
  have hD := hD0.self (sz := s.heap.size)
  generalize hAe : va_A [(ak, .inr (8, [.ref ar, .int 105, .int 0, .int (-1), .int 0, .int 0, .int 0])), (an, .inr (6, [.ref n1, .ref n2, .ref n3, .ref n4, .ref n5, .int 0, .int 0]))] s.heap.size = A at hD hG ⊢
  have hN := hG.1
  have hA : ∀ q : Nat, s.heap.size ≤ q → A q := fun q h => by rw [← hAe]; exact Or.inr h
  have hS : va_S A s.heap s.heap [] := va_S.rf
  have hP : va_P (dC, dI) vwCl [(ak, .inr (8, [.ref ar, .int 105, .int 0, .int (-1), .int 0, .int 0, .int 0])), (an, .inr (6, [.ref n1, .ref n2, .ref n3, .ref n4, .ref n5, .int 0, .int 0]))] s.heap := hP
  have hw0 : (Cond.fieldLink RX4 18 "Tickstation$Processor" "state" "C").before _ s = true := hts _ (List.mem_cons_of_mem _ (List.mem_append_left _ (List.mem_append_left _ (List.mem_append_left _ (List.mem_append_left _ (List.mem_append_left _ (List.mem_of_getElem? (i := 0) rfl)))))))
  have hiX4 : ∀ w ∈ u_ws RX4 TX4 7, w ∈ wsX4_goBeat := fun _ h => List.mem_cons_of_mem _ (List.mem_append_left _ (List.mem_append_left _ (List.mem_append_left _ (List.mem_append_right _ (h)))))
  have hl := lv_entry ([.ref ak, .ref an]) (n := 3) (Nat.le_of_ble_eq_true rfl)
  rw [lg_entry_eq]
  generalize (lg_sl ([.ref ak, .ref an]) ++ List.replicate (3 - (lg_sl ([.ref ak, .ref an])).length) Slot.unset).toArray = ls at hl ⊢
  have hl : lv_has ls 3 [(0, .ref ak), (1, .ref an)] := hl
  refine lv_aload_n hx hb dX4_goBeat_0 rfl (lv_at hl 1 rfl) ?_
  have hPc := hP.sub (ws' := [(an, .inr (6, [.ref n1, .ref n2, .ref n3, .ref n4, .ref n5, .int 0, .int 0]))]) [1] rfl
  have hDc := hD.sub (ws' := [(an, .inr (6, [.ref n1, .ref n2, .ref n3, .ref n4, .ref n5, .int 0, .int 0]))]) [1] (by decide) rfl
  have hKc := hK.sub (tys' := [(cI, .int)]) [0] rfl
  have hFc := va_free (wc := [(an, .inr (6, [.ref n1, .ref n2, .ref n3, .ref n4, .ref n5, .int 0, .int 0]))]) hD hS hA [1] rfl
  refine va_calli (va_runV (As := []) (rest := []) ⟨hx, hb, hml, hown, hts⟩ (c_X2_first l dC dI g an n1 n2 n3 n4 n5 cI s.heap.size) (cwV 0 hts gX4_goBeat_X2_first rfl rfl rfl (by decide +kernel) ⟨Nat.le_of_ble_eq_true rfl, Nat.le_of_ble_eq_true rfl⟩) ⟨wIn_blind, va_recv hK hP (ci := 6) (q0 := 1) rfl rfl, wIn_at hPc hKc hDc hG hS hFc⟩ rfl rfl hl.1 rfl (lv_room (Nat.le_of_ble_eq_true rfl)) dX4_goBeat_1 ⟨Nat.le_of_ble_eq_true rfl, Nat.le_of_ble_eq_true rfl⟩) hS (fun q _ h => hFc q h) hFc (fun r_1 u t H1 locs ht hvm hw hB hz1 hk1 hS => ?_)
  obtain ⟨hP1, hK1, hD1⟩ := hB
  rw [ht] at hP1
  obtain ⟨hP, hD⟩ := va_join (wr := [(ak, .inr (8, [.ref ar, .int 105, .int 0, .int (-1), .int 0, .int 0, .int 0]))]) (w1 := [(an, .inr (6, [.ref n1, .ref n2, .ref n3, .ref n4, .ref n5, .int 0, .int 0]))]) hP hD [1] [0] rfl rfl (by decide) (by decide) hk1 hFc hP1 hD1
  generalize H1 = H at hP hS ⊢
  have hP : va_P (dC, dI) vwCl [(ak, .inr (8, [.ref ar, .int 105, .int 0, .int (-1), .int 0, .int 0, .int 0])), (an, .inr (6, [.ref n1, .ref n2, .ref n3, .ref n4, .ref n5, .int 0, .int 0]))] H := hP
  have hD : va_D A [(ak, .inr (8, [.ref ar, .int 105, .int 0, .int (-1), .int 0, .int 0, .int 0])), (an, .inr (6, [.ref n1, .ref n2, .ref n3, .ref n4, .ref n5, .int 0, .int 0]))] := hD
  refine lt_ci (y := (-1)) hw ?_
  refine lv_istore_n (lv' := [(2, .int (-1)), (0, .ref ak), (1, .ref an)]) hx hb dX4_goBeat_4 rfl hl (by decide) rfl (fun ls hl => ?_)
  refine lv_aload_n hx hb dX4_goBeat_5 rfl (lv_at hl 1 rfl) ?_
  refine va_get (D := (dC, dI)) (ci := 8) (v := .int 105) (C := RX4) (T := TX4) (N := 7) hx hb hts hiX4 hown hK hP 0 rfl rfl 1 (by decide) (hw0) (fun _ h9 => h9) rfl dX4_goBeat_6 ?_
  refine lv_lookup (off := 43) (tgt := 52) hx hb dX4_goBeat_9 (by decide) (by decide) (by decide) ?_
  refine lv_aload_n hx hb dX4_goBeat_52 rfl (lv_at hl 1 rfl) ?_
  refine lv_iload_n hx hb dX4_goBeat_53 rfl (lv_at hl 0 rfl) ?_
  have hPc := hP.sub (ws' := [(ak, .inr (8, [.ref ar, .int 105, .int 0, .int (-1), .int 0, .int 0, .int 0]))]) [0] rfl
  have hDc := hD.sub (ws' := [(ak, .inr (8, [.ref ar, .int 105, .int 0, .int (-1), .int 0, .int 0, .int 0]))]) [0] (by decide) rfl
  have hKc := hK.sub (tys' := [(cI, .int)]) [0] rfl
  have hFc := va_free (wc := [(ak, .inr (8, [.ref ar, .int 105, .int 0, .int (-1), .int 0, .int 0, .int 0]))]) hD hS hA [0] rfl
  refine va_callv (va_runV (As := [.int (-1)]) (rest := []) ⟨hx, hb, hml, hown, hts⟩ (c_X4_goIdleBeat l dC dI g ak ar cI H.size) (cwV 1 hts gX4_goBeat_X4_goIdleBeat rfl rfl rfl (by decide +kernel) ⟨Nat.le_of_ble_eq_true rfl, Nat.le_of_ble_eq_true rfl⟩) ⟨wIn_blind, va_recv hK hP (ci := 8) (q0 := 0) rfl rfl, wIn_at hPc hKc hDc hG hS hFc⟩ rfl rfl hl.1 rfl (lv_room (Nat.le_of_ble_eq_true rfl)) dX4_goBeat_54 ⟨Nat.le_of_ble_eq_true rfl, Nat.le_of_ble_eq_true rfl⟩) hS (fun q _ h => hFc q h) hFc (fun u t H1 locs ht hvm hw hB hz1 hk1 hS => ?_)
  obtain ⟨hP1, hK1, hD1⟩ := hB
  rw [ht] at hP1
  obtain ⟨hP, hD⟩ := va_join (wr := [(an, .inr (6, [.ref n1, .ref n2, .ref n3, .ref n4, .ref n5, .int 0, .int 0]))]) (w1 := [(ak, .inr (8, [.ref ar, .int 105, .int 0, .int (-1), .int 0, .int 0, .int 0]))]) hP hD [0] [1] rfl rfl (by decide) (by decide) hk1 hFc hP1 hD1
  generalize H1 = H at hP hS ⊢
  have hP : va_P (dC, dI) vwCl [(an, .inr (6, [.ref n1, .ref n2, .ref n3, .ref n4, .ref n5, .int 0, .int 0])), (ak, .inr (8, [.ref ar, .int 105, .int 0, .int (-1), .int 0, .int 0, .int 0]))] H := hP
  have hD : va_D A [(an, .inr (6, [.ref n1, .ref n2, .ref n3, .ref n4, .ref n5, .int 0, .int 0])), (ak, .inr (8, [.ref ar, .int 105, .int 0, .int (-1), .int 0, .int 0, .int 0]))] := hD
  refine lv_iconst (v := (-1)) hx hb dX4_goBeat_57 (by decide) ?_
  have hP9 := hP.sub (ws' := [(ak, .inr (8, [.ref ar, .int 105, .int 0, .int (-1), .int 0, .int 0, .int 0])), (an, .inr (6, [.ref n1, .ref n2, .ref n3, .ref n4, .ref n5, .int 0, .int 0]))]) [1, 0] rfl
  have hD9 := hD.sub (ws' := [(ak, .inr (8, [.ref ar, .int 105, .int 0, .int (-1), .int 0, .int 0, .int 0])), (an, .inr (6, [.ref n1, .ref n2, .ref n3, .ref n4, .ref n5, .int 0, .int 0]))]) [1, 0] (by decide) rfl
  have hK9 := hK.sub (tys' := [(cI, .int)]) [0] rfl
  exact W.iret (v := (-1)) hx hb hr (fun t ht hW => ⟨⟨(-1), (), rfl, rfl, wOut_at ht hW hP9 hK9 hD9⟩, hS.F ht⟩) hS.2.2 dX4_goBeat_58

set_option maxHeartbeats 4000000 in
set_option maxRecDepth 100000 in
theorem c_X0_endHandler (l : Launch) (dC : Nat → ClassId) (dI : Nat → Nat → Nat) (g : Nat × Nat × Nat) (ah : Nat) (ac : Nat) (au : Nat) (ab : Nat) (an : Nat) (ak : Nat) (ad : Nat) (cI : ClassId) (tm : Int32) (sl : Int32) (en : Int64) (sz : Nat) : Met l yX0_endHandler wsX0_endHandler ({ frames := 0, cells := 0, slots := 0, locals := 0 } : Room) (va_Pc [.ref ah, .int (-1)] (wIn dC dI g [(ah, .inr (4, [.ref ac, .ref au, .ref ab, .ref an, .ref ak, .ref ad, .int tm, .int sl, .long en]))] [(cI, .int)] sz)) (va_Qv (fun (u : Unit) => True) (fun (u : Unit) (t : State) => wOut dC dI [(ah, .inr (4, [.ref ac, .ref au, .ref ab, .ref an, .ref ak, .ref ad, .int tm, .int sl, .long en]))] [(cI, .int)] (va_A [(ah, .inr (4, [.ref ac, .ref au, .ref ab, .ref an, .ref ak, .ref ad, .int tm, .int sl, .long en]))] sz) t) (va_A [(ah, .inr (4, [.ref ac, .ref au, .ref ab, .ref an, .ref ak, .ref ad, .int tm, .int sl, .long en]))] sz)) 0 0 (va_A [(ah, .inr (4, [.ref ac, .ref au, .ref ab, .ref an, .ref ak, .ref ad, .int tm, .int sl, .long en]))] sz) := by
  refine Met.ofW (cc := cX0_endHandler) (maxL := 2) (ret := none) (by decide) rfl ?_
  intro p e s m args below meth c s₁ B hml hv
  obtain ⟨rfl, hsz, hP, hK, hD0, hG⟩ := hv
  have hx := B.exec
  have hb := B.bytes
  have hr := B.returns
  have hts := atoms_spec (ws := wsX0_endHandler) B.pre
  have hown : s.vm.findClass RX0 = some m.cls := findClass_of_methodNamed B.named
  have hlocks := B.notSynchronized
  subst hsz
  have hD := hD0.self (sz := s.heap.size)
  generalize hAe : va_A [(ah, .inr (4, [.ref ac, .ref au, .ref ab, .ref an, .ref ak, .ref ad, .int tm, .int sl, .long en]))] s.heap.size = A at hD hG ⊢
  have hN := hG.1
  have hA : ∀ q : Nat, s.heap.size ≤ q → A q := fun q h => by rw [← hAe]; exact Or.inr h
  have hS : va_S A s.heap s.heap [] := va_S.rf
  have hP : va_P (dC, dI) vwCl [(ah, .inr (4, [.ref ac, .ref au, .ref ab, .ref an, .ref ak, .ref ad, .int tm, .int sl, .long en]))] s.heap := hP
  have hl := lv_entry ([.ref ah, .int (-1)]) (n := 2) (Nat.le_of_ble_eq_true rfl)
  rw [lg_entry_eq]
  generalize (lg_sl ([.ref ah, .int (-1)]) ++ List.replicate (2 - (lg_sl ([.ref ah, .int (-1)])).length) Slot.unset).toArray = ls at hl ⊢
  have hl : lv_has ls 2 [(0, .ref ah), (1, .int (-1))] := hl
  refine lv_iload_n hx hb dX0_endHandler_0 rfl (lv_at hl 1 rfl) ?_
  refine lv_if_lt (tgt := 10) hx hb dX0_endHandler_1 (by decide) (fun _ => ?_) (fun c => absurd (by decide) c)
  have hP9 := hP.sub (ws' := [(ah, .inr (4, [.ref ac, .ref au, .ref ab, .ref an, .ref ak, .ref ad, .int tm, .int sl, .long en]))]) [0] rfl
  have hD9 := hD.sub (ws' := [(ah, .inr (4, [.ref ac, .ref au, .ref ab, .ref an, .ref ak, .ref ad, .int tm, .int sl, .long en]))]) [0] (by decide) rfl
  have hK9 := hK.sub (tys' := [(cI, .int)]) [0] rfl
  exact W.vret hx hb hr (fun t ht hW => ⟨⟨(), rfl, trivial, wOut_at ht hW hP9 hK9 hD9⟩, hS.F ht⟩) hS.2.2 dX0_endHandler_10

set_option maxHeartbeats 4000000 in
set_option maxRecDepth 100000 in
theorem c_X4_energyOfBeat (l : Launch) (dC : Nat → ClassId) (dI : Nat → Nat → Nat) (g : Nat × Nat × Nat) (ak : Nat) (ar : Nat) (cI : ClassId) (sz : Nat) : Met l yX4_energyOfBeat wsX4_energyOfBeat ({ frames := 0, cells := 0, slots := 0, locals := 0 } : Room) (va_Pc [.ref ak] (wIn dC dI g [(ak, .inr (8, [.ref ar, .int 105, .int 0, .int (-1), .int 0, .int 0, .int 0]))] [(cI, .int)] sz)) (va_Qi (fun (r : Int32) (u : Unit) => r = 5) (fun (u : Unit) (t : State) => wOut dC dI [(ak, .inr (8, [.ref ar, .int 105, .int 0, .int (-1), .int 0, .int 0, .int 0]))] [(cI, .int)] (va_A [(ak, .inr (8, [.ref ar, .int 105, .int 0, .int (-1), .int 0, .int 0, .int 0]))] sz) t) (va_A [(ak, .inr (8, [.ref ar, .int 105, .int 0, .int (-1), .int 0, .int 0, .int 0]))] sz)) 0 0 (va_A [(ak, .inr (8, [.ref ar, .int 105, .int 0, .int (-1), .int 0, .int 0, .int 0]))] sz) := by
  refine Met.ofW (cc := cX4_energyOfBeat) (maxL := 1) (ret := (some .int)) (by decide) rfl ?_
  intro p e s m args below meth c s₁ B hml hv
  obtain ⟨rfl, hsz, hP, hK, hD0, hG⟩ := hv
  have hx := B.exec
  have hb := B.bytes
  have hr := B.returns
  have hts := atoms_spec (ws := wsX4_energyOfBeat) B.pre
  have hown : s.vm.findClass RX4 = some m.cls := findClass_of_methodNamed B.named
  have hlocks := B.notSynchronized
  subst hsz
  have hD := hD0.self (sz := s.heap.size)
  generalize hAe : va_A [(ak, .inr (8, [.ref ar, .int 105, .int 0, .int (-1), .int 0, .int 0, .int 0]))] s.heap.size = A at hD hG ⊢
  have hN := hG.1
  have hA : ∀ q : Nat, s.heap.size ≤ q → A q := fun q h => by rw [← hAe]; exact Or.inr h
  have hS : va_S A s.heap s.heap [] := va_S.rf
  have hP : va_P (dC, dI) vwCl [(ak, .inr (8, [.ref ar, .int 105, .int 0, .int (-1), .int 0, .int 0, .int 0]))] s.heap := hP
  have hw0 : (Cond.fieldLink RX4 18 "Tickstation$Processor" "state" "C").before _ s = true := hts _ (List.mem_cons_of_mem _ (List.mem_append_left _ (List.mem_of_getElem? (i := 0) rfl)))
  have hiX4 : ∀ w ∈ u_ws RX4 TX4 7, w ∈ wsX4_energyOfBeat := fun _ h => List.mem_cons_of_mem _ (List.mem_append_right _ (h))
  have hl := lv_entry ([.ref ak]) (n := 1) (Nat.le_of_ble_eq_true rfl)
  rw [lg_entry_eq]
  generalize (lg_sl ([.ref ak]) ++ List.replicate (1 - (lg_sl ([.ref ak])).length) Slot.unset).toArray = ls at hl ⊢
  have hl : lv_has ls 1 [(0, .ref ak)] := hl
  refine lv_aload_n hx hb dX4_energyOfBeat_0 rfl (lv_at hl 0 rfl) ?_
  refine va_get (D := (dC, dI)) (ci := 8) (v := .int 105) (C := RX4) (T := TX4) (N := 7) hx hb hts hiX4 hown hK hP 0 rfl rfl 1 (by decide) (hw0) (fun _ h9 => h9) rfl dX4_energyOfBeat_1 ?_
  refine lv_bipush (v := 122) hx hb dX4_energyOfBeat_4 (by decide) ?_
  refine lv_icmp_eq (tgt := 11) hx hb dX4_energyOfBeat_6 (by decide) (fun c => absurd c (by decide)) (fun _ => ?_)
  refine lv_iconst (v := 5) hx hb dX4_energyOfBeat_9 (by decide) ?_
  have hP9 := hP.sub (ws' := [(ak, .inr (8, [.ref ar, .int 105, .int 0, .int (-1), .int 0, .int 0, .int 0]))]) [0] rfl
  have hD9 := hD.sub (ws' := [(ak, .inr (8, [.ref ar, .int 105, .int 0, .int (-1), .int 0, .int 0, .int 0]))]) [0] (by decide) rfl
  have hK9 := hK.sub (tys' := [(cI, .int)]) [0] rfl
  exact W.iret (v := 5) hx hb hr (fun t ht hW => ⟨⟨5, (), rfl, rfl, wOut_at ht hW hP9 hK9 hD9⟩, hS.F ht⟩) hS.2.2 dX4_energyOfBeat_10

set_option maxHeartbeats 4000000 in
set_option maxRecDepth 100000 in
theorem c_X4_isDeepAsleep (l : Launch) (dC : Nat → ClassId) (dI : Nat → Nat → Nat) (g : Nat × Nat × Nat) (ak : Nat) (ar : Nat) (cI : ClassId) (sz : Nat) : Met l yX4_isDeepAsleep wsX4_isDeepAsleep ({ frames := 0, cells := 0, slots := 0, locals := 0 } : Room) (va_Pc [.ref ak] (wIn dC dI g [(ak, .inr (8, [.ref ar, .int 105, .int 0, .int (-1), .int 0, .int 0, .int 0]))] [(cI, .int)] sz)) (va_Qi (fun (r : Int32) (u : Unit) => r = 0) (fun (u : Unit) (t : State) => wOut dC dI [(ak, .inr (8, [.ref ar, .int 105, .int 0, .int (-1), .int 0, .int 0, .int 0]))] [(cI, .int)] (va_A [(ak, .inr (8, [.ref ar, .int 105, .int 0, .int (-1), .int 0, .int 0, .int 0]))] sz) t) (va_A [(ak, .inr (8, [.ref ar, .int 105, .int 0, .int (-1), .int 0, .int 0, .int 0]))] sz)) 0 0 (va_A [(ak, .inr (8, [.ref ar, .int 105, .int 0, .int (-1), .int 0, .int 0, .int 0]))] sz) := by
  refine Met.ofW (cc := cX4_isDeepAsleep) (maxL := 1) (ret := (some .boolean)) (by decide) rfl ?_
  intro p e s m args below meth c s₁ B hml hv
  obtain ⟨rfl, hsz, hP, hK, hD0, hG⟩ := hv
  have hx := B.exec
  have hb := B.bytes
  have hr := B.returns
  have hts := atoms_spec (ws := wsX4_isDeepAsleep) B.pre
  have hown : s.vm.findClass RX4 = some m.cls := findClass_of_methodNamed B.named
  have hlocks := B.notSynchronized
  subst hsz
  have hD := hD0.self (sz := s.heap.size)
  generalize hAe : va_A [(ak, .inr (8, [.ref ar, .int 105, .int 0, .int (-1), .int 0, .int 0, .int 0]))] s.heap.size = A at hD hG ⊢
  have hN := hG.1
  have hA : ∀ q : Nat, s.heap.size ≤ q → A q := fun q h => by rw [← hAe]; exact Or.inr h
  have hS : va_S A s.heap s.heap [] := va_S.rf
  have hP : va_P (dC, dI) vwCl [(ak, .inr (8, [.ref ar, .int 105, .int 0, .int (-1), .int 0, .int 0, .int 0]))] s.heap := hP
  have hw0 : (Cond.fieldLink RX4 18 "Tickstation$Processor" "state" "C").before _ s = true := hts _ (List.mem_cons_of_mem _ (List.mem_append_left _ (List.mem_of_getElem? (i := 0) rfl)))
  have hiX4 : ∀ w ∈ u_ws RX4 TX4 7, w ∈ wsX4_isDeepAsleep := fun _ h => List.mem_cons_of_mem _ (List.mem_append_right _ (h))
  have hl := lv_entry ([.ref ak]) (n := 1) (Nat.le_of_ble_eq_true rfl)
  rw [lg_entry_eq]
  generalize (lg_sl ([.ref ak]) ++ List.replicate (1 - (lg_sl ([.ref ak])).length) Slot.unset).toArray = ls at hl ⊢
  have hl : lv_has ls 1 [(0, .ref ak)] := hl
  refine lv_aload_n hx hb dX4_isDeepAsleep_0 rfl (lv_at hl 0 rfl) ?_
  refine va_get (D := (dC, dI)) (ci := 8) (v := .int 105) (C := RX4) (T := TX4) (N := 7) hx hb hts hiX4 hown hK hP 0 rfl rfl 1 (by decide) (hw0) (fun _ h9 => h9) rfl dX4_isDeepAsleep_1 ?_
  refine lv_bipush (v := 122) hx hb dX4_isDeepAsleep_4 (by decide) ?_
  refine lv_icmp_ne (tgt := 21) hx hb dX4_isDeepAsleep_6 (by decide) (fun _ => ?_) (fun c => absurd c (by decide))
  refine lv_iconst (v := 0) hx hb dX4_isDeepAsleep_21 (by decide) ?_
  have hP9 := hP.sub (ws' := [(ak, .inr (8, [.ref ar, .int 105, .int 0, .int (-1), .int 0, .int 0, .int 0]))]) [0] rfl
  have hD9 := hD.sub (ws' := [(ak, .inr (8, [.ref ar, .int 105, .int 0, .int (-1), .int 0, .int 0, .int 0]))]) [0] (by decide) rfl
  have hK9 := hK.sub (tys' := [(cI, .int)]) [0] rfl
  exact W.zret (v := 0) hx hb hr (by first | rfl | decide) (fun t ht hW => ⟨⟨0, (), rfl, rfl, wOut_at ht hW hP9 hK9 hD9⟩, hS.F ht⟩) hS.2.2 dX4_isDeepAsleep_22
