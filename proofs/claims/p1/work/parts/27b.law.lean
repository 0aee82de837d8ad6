set_option maxHeartbeats 8000000 in
set_option maxRecDepth 100000 in
theorem c_L_law_2 {p : Program} {e : Env} {s : State} {m : MethodId} {below : List Frame} {meth : Method} {c : Code} (l : Launch) (hl9 : l.stackTraces = false) (dC : Nat → ClassId) (dI : Nat → Nat → Nat) (g : Nat × Nat × Nat) (b : Nat) (xs : Nat → Int32) (cI cZ cO : ClassId) (hx : p.tables.exec = Jvm.exec) (hb : c.code = cL_law) (hr : meth.sig.returnType = ret) (hml : c.maxLocals = 9) (hown : s.vm.findClass RL = some m.cls) (hts : ∀ w ∈ wsL_law, w.before #[Value.ref b] s = true) (hX : va_X b 6 xs s s.heap) (hbl : b < s.heap.size) (hlocks : meth.locks = false) (hG : gx g (fun q => s.heap.size ≤ q) s s.heap) (hk : (xs 0 &&& 63) = 2) (cA_117 : ClassId) (cA_119 : ClassId) (q_1 : Nat) (q_3 : Nat) (q_4 : Nat) (q_10 : Nat) (q_11 : Nat) (q_12 : Nat) (q_13 : Nat) (q_14 : Nat) (q_15 : Nat) (q_16 : Nat) (q_17 : Nat) (q_18 : Nat) (q_21 : Nat) (q_27 : Nat) (q_31 : Nat) (q_32 : Nat) (q_61 : Nat) (q_90 : Nat) (q_92 : Nat) (q_93 : Nat) (q_97 : Nat) (q_100 : Nat) (q_101 : Nat) (q_102 : Nat) (q_103 : Nat) (q_104 : Nat) (q_105 : Nat) (q_113 : Nat) (q_116 : Nat) (q_118 : Nat) (H : Heap) (locs : List Loc) (ls : Array Slot) (hK : va_K (dC, dI) vwCl [(cI, .int), (cZ, .boolean), (cO, .object "java/lang/Object"), (cA_117, .long), (cA_119, .double)] s) (hP : va_P (dC, dI) vwCl [(q_1, .inr (12, [.ref q_3, .ref q_32, .ref q_61])), (q_3, .inr (4, [.ref q_4, .ref q_10, .ref q_18, .ref q_21, .ref q_27, .ref q_31, .int 0, .int 0, .long 0])), (q_10, .inr (10, [.ref q_11, .ref q_14, .ref q_15, .ref q_16, .ref q_12, .ref q_13, .ref q_17, .int 0, .int 0])), (q_11, .inl (cI, 4, .inl (cn 0))), (q_12, .inl (cI, 4, .inl (cn 0))), (q_13, .inl (cI, 4, .inl (cn 0))), (q_14, .inl (cI, 4, .inl (cn 10))), (q_15, .inl (cI, 4, .inl (cn 10))), (q_16, .inl (cI, 4, .inl (cn (-1)))), (q_17, .inl (cI, 4, .inl (cn 110))), (q_90, .inr (16, [.ref q_97, .ref q_103, .ref q_113, .ref q_92, .ref q_93, .int 0, .int 0, .int 0, .int 105, .int 0, .int 0, .int 0, .int (-1), .int 0, .int 0, .int 0, .int 0, .int 0, .int 0, .int 0, .long 0, .int 0, .int 0])), (q_100, .inr (15, [.int 0, .int 10, .int 10, .int 114, .int 0, .int 0, .int (-1), .int 0, .int 110, .int 0])), (q_101, .inr (15, [.int 0, .int 10, .int 10, .int 114, .int 0, .int 0, .int (-1), .int 0, .int 110, .int 0])), (q_102, .inr (15, [.int 0, .int 10, .int 10, .int 114, .int 0, .int 0, .int (-1), .int 0, .int 110, .int 0])), (q_103, .inr (3, [.int 4, .ref q_104, .int 4])), (q_104, .inl (cO, 10, .inr (.inr (.inr (.inr (va_up (va_up (va_up (va_up nn 0 (some q_100)) 1 (some q_101)) 2 (some q_102)) 3 (some q_105))))))), (q_105, .inr (15, [.int 0, .int 10, .int 10, .int 114, .int 0, .int 0, .int (-1), .int 0, .int 110, .int 0])), (q_116, .inl (cA_117, 1, .inr (.inl cnL)))] H) (hD : va_D (fun q => s.heap.size ≤ q) [(q_1, .inr (12, [.ref q_3, .ref q_32, .ref q_61])), (q_3, .inr (4, [.ref q_4, .ref q_10, .ref q_18, .ref q_21, .ref q_27, .ref q_31, .int 0, .int 0, .long 0])), (q_10, .inr (10, [.ref q_11, .ref q_14, .ref q_15, .ref q_16, .ref q_12, .ref q_13, .ref q_17, .int 0, .int 0])), (q_11, .inl (cI, 4, .inl (cn 0))), (q_12, .inl (cI, 4, .inl (cn 0))), (q_13, .inl (cI, 4, .inl (cn 0))), (q_14, .inl (cI, 4, .inl (cn 10))), (q_15, .inl (cI, 4, .inl (cn 10))), (q_16, .inl (cI, 4, .inl (cn (-1)))), (q_17, .inl (cI, 4, .inl (cn 110))), (q_90, .inr (16, [.ref q_97, .ref q_103, .ref q_113, .ref q_92, .ref q_93, .int 0, .int 0, .int 0, .int 105, .int 0, .int 0, .int 0, .int (-1), .int 0, .int 0, .int 0, .int 0, .int 0, .int 0, .int 0, .long 0, .int 0, .int 0])), (q_100, .inr (15, [.int 0, .int 10, .int 10, .int 114, .int 0, .int 0, .int (-1), .int 0, .int 110, .int 0])), (q_101, .inr (15, [.int 0, .int 10, .int 10, .int 114, .int 0, .int 0, .int (-1), .int 0, .int 110, .int 0])), (q_102, .inr (15, [.int 0, .int 10, .int 10, .int 114, .int 0, .int 0, .int (-1), .int 0, .int 110, .int 0])), (q_103, .inr (3, [.int 4, .ref q_104, .int 4])), (q_104, .inl (cO, 10, .inr (.inr (.inr (.inr (va_up (va_up (va_up (va_up nn 0 (some q_100)) 1 (some q_101)) 2 (some q_102)) 3 (some q_105))))))), (q_105, .inr (15, [.int 0, .int 10, .int 10, .int 114, .int 0, .int 0, .int (-1), .int 0, .int 110, .int 0])), (q_116, .inl (cA_117, 1, .inr (.inl cnL)))]) (hS : va_S (fun q => s.heap.size ≤ q) s.heap H locs) (hl : lv_has ls 9 [(5, .int 0), (4, .ref q_118), (3, .ref q_116), (2, .ref q_90), (1, .ref q_1), (0, .ref b)]) : W p l e room_1 s m #[Value.ref b] below meth c H locs 115 1854 (lw_Z below #[Value.ref b] s) (F0 m 28 ls []) := by
  have hN := hG.1
  obtain ⟨A, hAe⟩ : ∃ A : Nat → Prop, A = (fun q => s.heap.size ≤ q) := ⟨_, rfl⟩
  rw [← hAe] at hG hD hS
  have hA : ∀ q : Nat, s.heap.size ≤ q → A q := fun q h => by rw [hAe]; exact h
  have hbA : ¬ A b := by rw [hAe]; exact Nat.not_le.mpr hbl
  refine lv_iload hx hb dL_law_28 (lv_at hl 0 rfl) ?_
  refine lv_aload_n hx hb dL_law_30 rfl (lv_at hl 5 rfl) ?_
  refine va_slen hx hb hX hbl hbA hS dL_law_31 ?_
  refine lt_ci (y := 6) rfl ?_
  refine lv_bipush (v := 6) hx hb dL_law_32 (by decide) ?_
  refine lv_isub hx hb dL_law_34 ?_
  refine lt_ci (y := 0) (by first | rfl | decide) ?_
  refine lv_icmp_gt (tgt := 1982) hx hb dL_law_35 (by decide) (fun c => absurd c (by decide)) (fun _ => ?_)
  refine lv_aload_n hx hb dL_law_38 rfl (lv_at hl 5 rfl) ?_
  refine lv_iload hx hb dL_law_39 (lv_at hl 0 rfl) ?_
  refine va_sld hx hb hX hbl hbA hS (by unfold vp_in; decide) dL_law_41 ?_
  refine lt_ci (y := (xs 0)) rfl ?_
  refine lv_bipush (v := 63) hx hb dL_law_42 (by decide) ?_
  refine lv_iand hx hb dL_law_44 ?_
  refine lt_ci (y := 2) hk ?_
  refine lv_tableIn (off := 369) (tgt := 414) hx hb dL_law_45 (by decide) (by decide) (by decide) (by decide) ?_
  refine lv_aload_n hx hb dL_law_414 rfl (lv_at hl 4 rfl) ?_
  refine lv_aload_n hx hb dL_law_415 rfl (lv_at hl 5 rfl) ?_
  refine lv_iload hx hb dL_law_416 (lv_at hl 0 rfl) ?_
  refine lv_iconst (v := 1) hx hb dL_law_418 (by decide) ?_
  refine lv_iadd hx hb dL_law_419 ?_
  refine lt_ci (y := 1) (by first | rfl | decide) ?_
  refine va_sld hx hb hX hbl hbA hS (by unfold vp_in; decide) dL_law_420 ?_
  refine lt_ci (y := (xs 1)) rfl ?_
  refine lv_aload_n hx hb dL_law_421 rfl (lv_at hl 5 rfl) ?_
  refine lv_iload hx hb dL_law_422 (lv_at hl 0 rfl) ?_
  refine lv_iconst (v := 2) hx hb dL_law_424 (by decide) ?_
  refine lv_iadd hx hb dL_law_425 ?_
  refine lt_ci (y := 2) (by first | rfl | decide) ?_
  refine va_sld hx hb hX hbl hbA hS (by unfold vp_in; decide) dL_law_426 ?_
  refine lt_ci (y := (xs 2)) rfl ?_
  refine lv_aload_n hx hb dL_law_427 rfl (lv_at hl 2 rfl) ?_
  have hPc := hP.sub (ws' := [(q_1, .inr (12, [.ref q_3, .ref q_32, .ref q_61])), (q_3, .inr (4, [.ref q_4, .ref q_10, .ref q_18, .ref q_21, .ref q_27, .ref q_31, .int 0, .int 0, .long 0])), (q_10, .inr (10, [.ref q_11, .ref q_14, .ref q_15, .ref q_16, .ref q_12, .ref q_13, .ref q_17, .int 0, .int 0])), (q_11, .inl (cI, 4, .inl (cn 0))), (q_14, .inl (cI, 4, .inl (cn 10))), (q_15, .inl (cI, 4, .inl (cn 10))), (q_16, .inl (cI, 4, .inl (cn (-1)))), (q_12, .inl (cI, 4, .inl (cn 0))), (q_13, .inl (cI, 4, .inl (cn 0))), (q_17, .inl (cI, 4, .inl (cn 110))), (q_116, .inl (cA_117, 1, .inr (.inl cnL)))]) [0, 1, 2, 3, 6, 7, 8, 4, 5, 9, 17] rfl
  have hDc := hD.sub (ws' := [(q_1, .inr (12, [.ref q_3, .ref q_32, .ref q_61])), (q_3, .inr (4, [.ref q_4, .ref q_10, .ref q_18, .ref q_21, .ref q_27, .ref q_31, .int 0, .int 0, .long 0])), (q_10, .inr (10, [.ref q_11, .ref q_14, .ref q_15, .ref q_16, .ref q_12, .ref q_13, .ref q_17, .int 0, .int 0])), (q_11, .inl (cI, 4, .inl (cn 0))), (q_14, .inl (cI, 4, .inl (cn 10))), (q_15, .inl (cI, 4, .inl (cn 10))), (q_16, .inl (cI, 4, .inl (cn (-1)))), (q_12, .inl (cI, 4, .inl (cn 0))), (q_13, .inl (cI, 4, .inl (cn 0))), (q_17, .inl (cI, 4, .inl (cn 110))), (q_116, .inl (cA_117, 1, .inr (.inl cnL)))]) [0, 1, 2, 3, 6, 7, 8, 4, 5, 9, 17] (by decide) rfl
  have hKc := hK.sub (tys' := [(cI, .int), (cA_117, .long)]) [0, 3] rfl
  have hFc := va_free (wc := [(q_1, .inr (12, [.ref q_3, .ref q_32, .ref q_61])), (q_3, .inr (4, [.ref q_4, .ref q_10, .ref q_18, .ref q_21, .ref q_27, .ref q_31, .int 0, .int 0, .long 0])), (q_10, .inr (10, [.ref q_11, .ref q_14, .ref q_15, .ref q_16, .ref q_12, .ref q_13, .ref q_17, .int 0, .int 0])), (q_11, .inl (cI, 4, .inl (cn 0))), (q_14, .inl (cI, 4, .inl (cn 10))), (q_15, .inl (cI, 4, .inl (cn 10))), (q_16, .inl (cI, 4, .inl (cn (-1)))), (q_12, .inl (cI, 4, .inl (cn 0))), (q_13, .inl (cI, 4, .inl (cn 0))), (q_17, .inl (cI, 4, .inl (cn 110))), (q_116, .inl (cA_117, 1, .inr (.inl cnL)))]) hD hS hA [0, 1, 2, 3, 6, 7, 8, 4, 5, 9, 17] rfl
  refine vx_calli (vx_runSX (As := [.ref q_1, .int (xs 1), .int (xs 2), .ref q_116]) (rest := []) ⟨hx, hb, hml, hown, hts⟩ (c_L_link l hl9 dC dI g q_1 q_32 q_61 q_3 q_4 q_10 q_11 q_14 q_15 q_16 q_12 q_13 q_17 q_18 q_21 q_27 q_31 cI (xs 1) (xs 2) cnL q_116 cA_117 H.size) (vx_cwSW 4 hts gL_law_L_link rfl rfl rfl (by decide +kernel) ⟨Nat.le_of_ble_eq_true rfl, Nat.le_of_ble_eq_true rfl⟩) ⟨wIn_blind, wIn_at hPc hKc hDc hG hS hFc⟩ rfl rfl hl.1 rfl (lv_room (Nat.le_of_ble_eq_true rfl)) dL_law_428 ⟨Nat.le_of_ble_eq_true rfl, Nat.le_of_ble_eq_true rfl⟩) hS (fun q _ h => hFc q h) hFc (fun q _ h => hFc q h) (fun E9 ce9 q9 u9 t H1 locs ht hvm hx9 hB9 hz1 hk1 hS hce hcv hcl => False.elim hx9) (fun r_120 u t H1 locs ht hvm hw hB hz1 hk1 hS => ?_)
  obtain ⟨v_121, rfl⟩ : ∃ z, z = u := ⟨_, rfl⟩
  obtain ⟨hP1, hK1, hD1⟩ := hB
  rw [ht] at hP1
  obtain ⟨hP, hD⟩ := va_join (wr := [(q_90, .inr (16, [.ref q_97, .ref q_103, .ref q_113, .ref q_92, .ref q_93, .int 0, .int 0, .int 0, .int 105, .int 0, .int 0, .int 0, .int (-1), .int 0, .int 0, .int 0, .int 0, .int 0, .int 0, .int 0, .long 0, .int 0, .int 0])), (q_100, .inr (15, [.int 0, .int 10, .int 10, .int 114, .int 0, .int 0, .int (-1), .int 0, .int 110, .int 0])), (q_101, .inr (15, [.int 0, .int 10, .int 10, .int 114, .int 0, .int 0, .int (-1), .int 0, .int 110, .int 0])), (q_102, .inr (15, [.int 0, .int 10, .int 10, .int 114, .int 0, .int 0, .int (-1), .int 0, .int 110, .int 0])), (q_103, .inr (3, [.int 4, .ref q_104, .int 4])), (q_104, .inl (cO, 10, .inr (.inr (.inr (.inr (va_up (va_up (va_up (va_up nn 0 (some q_100)) 1 (some q_101)) 2 (some q_102)) 3 (some q_105))))))), (q_105, .inr (15, [.int 0, .int 10, .int 10, .int 114, .int 0, .int 0, .int (-1), .int 0, .int 110, .int 0]))]) (w1 := [(q_116, .inl (cA_117, 1, .inr (.inl v_121)))]) hP hD [0, 1, 2, 3, 6, 7, 8, 4, 5, 9, 17] [10, 11, 12, 13, 14, 15, 16] rfl rfl (by decide) (by decide) hk1 hFc hP1 hD1
  generalize H1 = H at hP hS ⊢
  have hP : va_P (dC, dI) vwCl [(q_90, .inr (16, [.ref q_97, .ref q_103, .ref q_113, .ref q_92, .ref q_93, .int 0, .int 0, .int 0, .int 105, .int 0, .int 0, .int 0, .int (-1), .int 0, .int 0, .int 0, .int 0, .int 0, .int 0, .int 0, .long 0, .int 0, .int 0])), (q_100, .inr (15, [.int 0, .int 10, .int 10, .int 114, .int 0, .int 0, .int (-1), .int 0, .int 110, .int 0])), (q_101, .inr (15, [.int 0, .int 10, .int 10, .int 114, .int 0, .int 0, .int (-1), .int 0, .int 110, .int 0])), (q_102, .inr (15, [.int 0, .int 10, .int 10, .int 114, .int 0, .int 0, .int (-1), .int 0, .int 110, .int 0])), (q_103, .inr (3, [.int 4, .ref q_104, .int 4])), (q_104, .inl (cO, 10, .inr (.inr (.inr (.inr (va_up (va_up (va_up (va_up nn 0 (some q_100)) 1 (some q_101)) 2 (some q_102)) 3 (some q_105))))))), (q_105, .inr (15, [.int 0, .int 10, .int 10, .int 114, .int 0, .int 0, .int (-1), .int 0, .int 110, .int 0])), (q_116, .inl (cA_117, 1, .inr (.inl v_121)))] H := hP
  have hD : va_D A [(q_90, .inr (16, [.ref q_97, .ref q_103, .ref q_113, .ref q_92, .ref q_93, .int 0, .int 0, .int 0, .int 105, .int 0, .int 0, .int 0, .int (-1), .int 0, .int 0, .int 0, .int 0, .int 0, .int 0, .int 0, .long 0, .int 0, .int 0])), (q_100, .inr (15, [.int 0, .int 10, .int 10, .int 114, .int 0, .int 0, .int (-1), .int 0, .int 110, .int 0])), (q_101, .inr (15, [.int 0, .int 10, .int 10, .int 114, .int 0, .int 0, .int (-1), .int 0, .int 110, .int 0])), (q_102, .inr (15, [.int 0, .int 10, .int 10, .int 114, .int 0, .int 0, .int (-1), .int 0, .int 110, .int 0])), (q_103, .inr (3, [.int 4, .ref q_104, .int 4])), (q_104, .inl (cO, 10, .inr (.inr (.inr (.inr (va_up (va_up (va_up (va_up nn 0 (some q_100)) 1 (some q_101)) 2 (some q_102)) 3 (some q_105))))))), (q_105, .inr (15, [.int 0, .int 10, .int 10, .int 114, .int 0, .int 0, .int (-1), .int 0, .int 110, .int 0])), (q_116, .inl (cA_117, 1, .inr (.inl v_121)))] := hD
  refine lt_ci (y := sp_X8_link (xs 1) (xs 2)) (hw.1) ?_
  have hv_122 : sp_X8_link (xs 1) (xs 2) = 0 → v_121 0 = -1 := hw.2
  refine W.widen (k := 116) (n := 1860) (Nat.le_of_ble_eq_true rfl) (Nat.le_of_ble_eq_true rfl) ?_
  refine lv_istore (lv' := [(6, .int (sp_X8_link (xs 1) (xs 2))), (5, .int 0), (4, .ref q_118), (3, .ref q_116), (2, .ref q_90), (1, .ref q_1), (0, .ref b)]) hx hb dL_law_431 hl (by decide) rfl (fun ls hl => ?_)
  refine lv_aload_n hx hb dL_law_433 rfl (lv_at hl 4 rfl) ?_
  refine lv_aload_n hx hb dL_law_434 rfl (lv_at hl 6 rfl) ?_
  refine lv_iload hx hb dL_law_435 (lv_at hl 1 rfl) ?_
  refine lv_iconst (v := 1) hx hb dL_law_437 (by decide) ?_
  refine lv_iadd hx hb dL_law_438 ?_
  refine lt_ci (y := 1) (by first | rfl | decide) ?_
  refine va_sld hx hb hX hbl hbA hS (by unfold vp_in; decide) dL_law_439 ?_
  refine lt_ci (y := (xs 1)) rfl ?_
  refine lv_aload_n hx hb dL_law_440 rfl (lv_at hl 6 rfl) ?_
  refine lv_iload hx hb dL_law_441 (lv_at hl 1 rfl) ?_
  refine lv_iconst (v := 2) hx hb dL_law_443 (by decide) ?_
  refine lv_iadd hx hb dL_law_444 ?_
  refine lt_ci (y := 2) (by first | rfl | decide) ?_
  refine va_sld hx hb hX hbl hbA hS (by unfold vp_in; decide) dL_law_445 ?_
  refine lt_ci (y := (xs 2)) rfl ?_
  have hPc := hP.sub (ws' := [(q_90, .inr (16, [.ref q_97, .ref q_103, .ref q_113, .ref q_92, .ref q_93, .int 0, .int 0, .int 0, .int 105, .int 0, .int 0, .int 0, .int (-1), .int 0, .int 0, .int 0, .int 0, .int 0, .int 0, .int 0, .long 0, .int 0, .int 0])), (q_103, .inr (3, [.int 4, .ref q_104, .int 4])), (q_104, .inl (cO, 10, .inr (.inr (.inr (.inr (va_up (va_up (va_up (va_up nn 0 (some q_100)) 1 (some q_101)) 2 (some q_102)) 3 (some q_105))))))), (q_100, .inr (15, [.int 0, .int 10, .int 10, .int 114, .int 0, .int 0, .int (-1), .int 0, .int 110, .int 0])), (q_101, .inr (15, [.int 0, .int 10, .int 10, .int 114, .int 0, .int 0, .int (-1), .int 0, .int 110, .int 0])), (q_102, .inr (15, [.int 0, .int 10, .int 10, .int 114, .int 0, .int 0, .int (-1), .int 0, .int 110, .int 0])), (q_105, .inr (15, [.int 0, .int 10, .int 10, .int 114, .int 0, .int 0, .int (-1), .int 0, .int 110, .int 0]))]) [0, 4, 5, 1, 2, 3, 6] rfl
  have hDc := hD.sub (ws' := [(q_90, .inr (16, [.ref q_97, .ref q_103, .ref q_113, .ref q_92, .ref q_93, .int 0, .int 0, .int 0, .int 105, .int 0, .int 0, .int 0, .int (-1), .int 0, .int 0, .int 0, .int 0, .int 0, .int 0, .int 0, .long 0, .int 0, .int 0])), (q_103, .inr (3, [.int 4, .ref q_104, .int 4])), (q_104, .inl (cO, 10, .inr (.inr (.inr (.inr (va_up (va_up (va_up (va_up nn 0 (some q_100)) 1 (some q_101)) 2 (some q_102)) 3 (some q_105))))))), (q_100, .inr (15, [.int 0, .int 10, .int 10, .int 114, .int 0, .int 0, .int (-1), .int 0, .int 110, .int 0])), (q_101, .inr (15, [.int 0, .int 10, .int 10, .int 114, .int 0, .int 0, .int (-1), .int 0, .int 110, .int 0])), (q_102, .inr (15, [.int 0, .int 10, .int 10, .int 114, .int 0, .int 0, .int (-1), .int 0, .int 110, .int 0])), (q_105, .inr (15, [.int 0, .int 10, .int 10, .int 114, .int 0, .int 0, .int (-1), .int 0, .int 110, .int 0]))]) [0, 4, 5, 1, 2, 3, 6] (by decide) rfl
  have hKc := hK.sub (tys' := [(cI, .int), (cZ, .boolean), (cO, .object "java/lang/Object")]) [0, 1, 2] rfl
  have hFc := va_free (wc := [(q_90, .inr (16, [.ref q_97, .ref q_103, .ref q_113, .ref q_92, .ref q_93, .int 0, .int 0, .int 0, .int 105, .int 0, .int 0, .int 0, .int (-1), .int 0, .int 0, .int 0, .int 0, .int 0, .int 0, .int 0, .long 0, .int 0, .int 0])), (q_103, .inr (3, [.int 4, .ref q_104, .int 4])), (q_104, .inl (cO, 10, .inr (.inr (.inr (.inr (va_up (va_up (va_up (va_up nn 0 (some q_100)) 1 (some q_101)) 2 (some q_102)) 3 (some q_105))))))), (q_100, .inr (15, [.int 0, .int 10, .int 10, .int 114, .int 0, .int 0, .int (-1), .int 0, .int 110, .int 0])), (q_101, .inr (15, [.int 0, .int 10, .int 10, .int 114, .int 0, .int 0, .int (-1), .int 0, .int 110, .int 0])), (q_102, .inr (15, [.int 0, .int 10, .int 10, .int 114, .int 0, .int 0, .int (-1), .int 0, .int 110, .int 0])), (q_105, .inr (15, [.int 0, .int 10, .int 10, .int 114, .int 0, .int 0, .int (-1), .int 0, .int 110, .int 0]))]) hD hS hA [0, 4, 5, 1, 2, 3, 6] rfl
  refine va_calli (va_runV (As := [.int (xs 1), .int (xs 2)]) (rest := []) ⟨hx, hb, hml, hown, hts⟩ (c_X12_link l dC dI g q_90 q_92 q_93 q_97 q_103 q_104 q_100 q_101 q_102 q_105 q_113 cI cZ cO 0 (xs 1) (xs 2) H.size) (cwV 2 hts gL_law_X12_link rfl rfl rfl (by decide +kernel) ⟨Nat.le_of_ble_eq_true rfl, Nat.le_of_ble_eq_true rfl⟩) ⟨wIn_blind, va_recv hK hP (ci := 16) (q0 := 0) rfl rfl, wIn_at hPc hKc hDc hG hS hFc⟩ rfl rfl hl.1 rfl (lv_room (Nat.le_of_ble_eq_true rfl)) dL_law_446 ⟨Nat.le_of_ble_eq_true rfl, Nat.le_of_ble_eq_true rfl⟩) hS (fun q _ h => hFc q h) hFc (fun r_123 u t H1 locs ht hvm hw hB hz1 hk1 hS => ?_)
  obtain ⟨v_124, rfl⟩ : ∃ z, z = u := ⟨_, rfl⟩
  have hw : v_124 = mp_X12_link (xs 1) (xs 2) ∧ (mp_X12_link (xs 1) (xs 2) = 0 → r_123 = (-1)) := hw
  obtain ⟨hm9, hv_125⟩ := hw
  subst hm9
  obtain ⟨hP1, hK1, hD1⟩ := hB
  rw [ht] at hP1
  obtain ⟨hP, hD⟩ := va_join (wr := [(q_116, .inl (cA_117, 1, .inr (.inl v_121)))]) (w1 := [(q_90, .inr (16, [.ref q_97, .ref q_103, .ref q_113, .ref q_92, .ref q_93, .int 0, .int 0, .int 0, .int 105, .int 0, .int 0, .int 0, .int (-1), .int 0, .int 0, .int 0, .int 0, .int 0, .int 0, .int 0, .long 0, .int 0, .int (mp_X12_link (xs 1) (xs 2))]))]) hP hD [0, 4, 5, 1, 2, 3, 6] [7] rfl rfl (by decide) (by decide) hk1 hFc hP1 hD1
  generalize H1 = H at hP hS ⊢
  have hP : va_P (dC, dI) vwCl [(q_116, .inl (cA_117, 1, .inr (.inl v_121))), (q_90, .inr (16, [.ref q_97, .ref q_103, .ref q_113, .ref q_92, .ref q_93, .int 0, .int 0, .int 0, .int 105, .int 0, .int 0, .int 0, .int (-1), .int 0, .int 0, .int 0, .int 0, .int 0, .int 0, .int 0, .long 0, .int 0, .int (mp_X12_link (xs 1) (xs 2))]))] H := hP
  have hD : va_D A [(q_116, .inl (cA_117, 1, .inr (.inl v_121))), (q_90, .inr (16, [.ref q_97, .ref q_103, .ref q_113, .ref q_92, .ref q_93, .int 0, .int 0, .int 0, .int 105, .int 0, .int 0, .int 0, .int (-1), .int 0, .int 0, .int 0, .int 0, .int 0, .int 0, .int 0, .long 0, .int 0, .int (mp_X12_link (xs 1) (xs 2))]))] := hD
  refine lv_istore (lv' := [(7, .int r_123), (6, .int (sp_X8_link (xs 1) (xs 2))), (5, .int 0), (4, .ref q_118), (3, .ref q_116), (2, .ref q_90), (1, .ref q_1), (0, .ref b)]) hx hb dL_law_449 hl (by decide) rfl (fun ls hl => ?_)
  refine lv_aload_n hx hb dL_law_451 rfl (lv_at hl 5 rfl) ?_
  have hPc := hP.sub (ws' := [(q_90, .inr (16, [.ref q_97, .ref q_103, .ref q_113, .ref q_92, .ref q_93, .int 0, .int 0, .int 0, .int 105, .int 0, .int 0, .int 0, .int (-1), .int 0, .int 0, .int 0, .int 0, .int 0, .int 0, .int 0, .long 0, .int 0, .int (mp_X12_link (xs 1) (xs 2))]))]) [1] rfl
  have hDc := hD.sub (ws' := [(q_90, .inr (16, [.ref q_97, .ref q_103, .ref q_113, .ref q_92, .ref q_93, .int 0, .int 0, .int 0, .int 105, .int 0, .int 0, .int 0, .int (-1), .int 0, .int 0, .int 0, .int 0, .int 0, .int 0, .int 0, .long 0, .int 0, .int (mp_X12_link (xs 1) (xs 2))]))]) [1] (by decide) rfl
  have hKc := hK.sub (tys' := [(cI, .int), (cZ, .boolean), (cO, .object "java/lang/Object")]) [0, 1, 2] rfl
  have hFc := va_free (wc := [(q_90, .inr (16, [.ref q_97, .ref q_103, .ref q_113, .ref q_92, .ref q_93, .int 0, .int 0, .int 0, .int 105, .int 0, .int 0, .int 0, .int (-1), .int 0, .int 0, .int 0, .int 0, .int 0, .int 0, .int 0, .long 0, .int 0, .int (mp_X12_link (xs 1) (xs 2))]))]) hD hS hA [1] rfl
  refine va_calli (va_runV (As := []) (rest := []) ⟨hx, hb, hml, hown, hts⟩ (c_X12_thrown l dC dI g q_90 (.ref q_97) (.ref q_103) (.ref q_113) (.ref q_92) (.ref q_93) (.int 0) (.int 0) (.int 0) (.int 105) (.int 0) (.int 0) (.int 0) (.int (-1)) (.int 0) (.int 0) (.int 0) (.int 0) (.int 0) (.int 0) (.int 0) (.long 0) (.int 0) cI cZ cO (mp_X12_link (xs 1) (xs 2)) H.size) (cwV 0 hts gL_law_X12_thrown rfl rfl rfl (by decide +kernel) ⟨Nat.le_of_ble_eq_true rfl, Nat.le_of_ble_eq_true rfl⟩) ⟨wIn_blind, va_recv hK hP (ci := 16) (q0 := 1) rfl rfl, wIn_at hPc hKc hDc hG hS hFc⟩ rfl rfl hl.1 rfl (lv_room (Nat.le_of_ble_eq_true rfl)) dL_law_452 ⟨Nat.le_of_ble_eq_true rfl, Nat.le_of_ble_eq_true rfl⟩) hS (fun q _ h => hFc q h) hFc (fun r_126 u t H1 locs ht hvm hw hB hz1 hk1 hS => ?_)
  obtain ⟨hP1, hK1, hD1⟩ := hB
  rw [ht] at hP1
  obtain ⟨hP, hD⟩ := va_join (wr := [(q_116, .inl (cA_117, 1, .inr (.inl v_121)))]) (w1 := [(q_90, .inr (16, [.ref q_97, .ref q_103, .ref q_113, .ref q_92, .ref q_93, .int 0, .int 0, .int 0, .int 105, .int 0, .int 0, .int 0, .int (-1), .int 0, .int 0, .int 0, .int 0, .int 0, .int 0, .int 0, .long 0, .int 0, .int (mp_X12_link (xs 1) (xs 2))]))]) hP hD [1] [0] rfl rfl (by decide) (by decide) hk1 hFc hP1 hD1
  generalize H1 = H at hP hS ⊢
  have hP : va_P (dC, dI) vwCl [(q_116, .inl (cA_117, 1, .inr (.inl v_121))), (q_90, .inr (16, [.ref q_97, .ref q_103, .ref q_113, .ref q_92, .ref q_93, .int 0, .int 0, .int 0, .int 105, .int 0, .int 0, .int 0, .int (-1), .int 0, .int 0, .int 0, .int 0, .int 0, .int 0, .int 0, .long 0, .int 0, .int (mp_X12_link (xs 1) (xs 2))]))] H := hP
  have hD : va_D A [(q_116, .inl (cA_117, 1, .inr (.inl v_121))), (q_90, .inr (16, [.ref q_97, .ref q_103, .ref q_113, .ref q_92, .ref q_93, .int 0, .int 0, .int 0, .int 105, .int 0, .int 0, .int 0, .int (-1), .int 0, .int 0, .int 0, .int 0, .int 0, .int 0, .int 0, .long 0, .int 0, .int (mp_X12_link (xs 1) (xs 2))]))] := hD
  refine lt_ci (y := (mp_X12_link (xs 1) (xs 2))) hw ?_
  refine lt_ci (y := sp_X8_link (xs 1) (xs 2)) (sm_X12_link _ _) ?_
  refine lv_iload hx hb dL_law_455 (lv_at hl 1 rfl) ?_
  refine lv_icmp_eq (tgt := 462) hx hb dL_law_457 (by decide) (fun _ => ?_) (fun c => absurd (rfl) c)
  refine lv_iload hx hb dL_law_462 (lv_at hl 1 rfl) ?_
  refine lv_if_ne (tgt := 479) hx hb dL_law_464 (by decide) (fun c_464 => ?_) (fun c_464 => ?_)
  · refine lv_goto (tgt := 1976) hx hb dL_law_479 (by decide) ?_
    refine lv_iinc (v := 6) (lv' := [(5, .int 6), (7, .int r_123), (6, .int (sp_X8_link (xs 1) (xs 2))), (4, .ref q_118), (3, .ref q_116), (2, .ref q_90), (1, .ref q_1), (0, .ref b)]) hx hb dL_law_1976 hl (k := 2) rfl (by first | rfl | decide) (by decide) rfl (fun ls hl => ?_)
    refine lv_goto (tgt := 28) hx hb dL_law_1979 (by decide) ?_
    refine lv_iload hx hb dL_law_28 (lv_at hl 0 rfl) ?_
    refine lv_aload_n hx hb dL_law_30 rfl (lv_at hl 7 rfl) ?_
    refine va_slen hx hb hX hbl hbA hS dL_law_31 ?_
    refine lt_ci (y := 6) rfl ?_
    refine lv_bipush (v := 6) hx hb dL_law_32 (by decide) ?_
    refine lv_isub hx hb dL_law_34 ?_
    refine lt_ci (y := 0) (by first | rfl | decide) ?_
    refine lv_icmp_gt (tgt := 1982) hx hb dL_law_35 (by decide) (fun _ => ?_) (fun c => absurd (by decide) c)
    refine lv_iconst (v := 1) hx hb dL_law_1982 (by decide) ?_
    refine W.widen (k := 735603) (n := 6895256) (Nat.le_of_ble_eq_true rfl) (Nat.le_of_ble_eq_true rfl) ?_
    refine va_forget (fun q hq => by have h9 := hS.2.2 q hq; rw [hAe] at h9; exact h9) ?_
    exact W.base (lw_ret (Drawn.sameBut.refl s.drawn lw_cs) hx hb hr hlocks dL_law_1983)
  · refine lv_aload_n hx hb dL_law_467 rfl (lv_at hl 4 rfl) ?_
    refine lv_iconst (v := 0) hx hb dL_law_468 (by decide) ?_
    refine va_lald (D := (dC, dI)) hx hb hK hP 0 3 rfl rfl (by unfold vp_in; decide) dL_law_469 ?_
    refine lt_cl (y := (-1)) (show _ = ((-1) : Int64) from hv_122 c_464) ?_
    refine lv_iload hx hb dL_law_470 (lv_at hl 0 rfl) ?_
    refine lt_ci (y := (-1)) (hv_125 ((sm_X12_link _ _).trans c_464)) ?_
    refine lv_i2l (v := (-1)) hx hb dL_law_472 (by first | rfl | decide) ?_
    refine W.lcmp hx hb dL_law_473 ?_
    refine lt_ci (y := 0) (by first | rfl | decide) ?_
    refine lv_if_eq (tgt := 479) hx hb dL_law_474 (by decide) (fun _ => ?_) (fun c => absurd (by decide) c)
    refine lv_goto (tgt := 1976) hx hb dL_law_479 (by decide) ?_
    refine lv_iinc (v := 6) (lv' := [(5, .int 6), (7, .int r_123), (6, .int (sp_X8_link (xs 1) (xs 2))), (4, .ref q_118), (3, .ref q_116), (2, .ref q_90), (1, .ref q_1), (0, .ref b)]) hx hb dL_law_1976 hl (k := 2) rfl (by first | rfl | decide) (by decide) rfl (fun ls hl => ?_)
    refine lv_goto (tgt := 28) hx hb dL_law_1979 (by decide) ?_
    refine lv_iload hx hb dL_law_28 (lv_at hl 0 rfl) ?_
    refine lv_aload_n hx hb dL_law_30 rfl (lv_at hl 7 rfl) ?_
    refine va_slen hx hb hX hbl hbA hS dL_law_31 ?_
    refine lt_ci (y := 6) rfl ?_
    refine lv_bipush (v := 6) hx hb dL_law_32 (by decide) ?_
    refine lv_isub hx hb dL_law_34 ?_
    refine lt_ci (y := 0) (by first | rfl | decide) ?_
    refine lv_icmp_gt (tgt := 1982) hx hb dL_law_35 (by decide) (fun _ => ?_) (fun c => absurd (by decide) c)
    refine lv_iconst (v := 1) hx hb dL_law_1982 (by decide) ?_
    refine W.widen (k := 735603) (n := 6895256) (Nat.le_of_ble_eq_true rfl) (Nat.le_of_ble_eq_true rfl) ?_
    refine va_forget (fun q hq => by have h9 := hS.2.2 q hq; rw [hAe] at h9; exact h9) ?_
    exact W.base (lw_ret (Drawn.sameBut.refl s.drawn lw_cs) hx hb hr hlocks dL_law_1983)
set_option maxHeartbeats 8000000 in
set_option maxRecDepth 100000 in
theorem c_L_law_3 {p : Program} {e : Env} {s : State} {m : MethodId} {below : List Frame} {meth : Method} {c : Code} (l : Launch) (hl9 : l.stackTraces = false) (dC : Nat → ClassId) (dI : Nat → Nat → Nat) (g : Nat × Nat × Nat) (b : Nat) (xs : Nat → Int32) (cI cZ cO : ClassId) (hx : p.tables.exec = Jvm.exec) (hb : c.code = cL_law) (hr : meth.sig.returnType = ret) (hml : c.maxLocals = 9) (hown : s.vm.findClass RL = some m.cls) (hts : ∀ w ∈ wsL_law, w.before #[Value.ref b] s = true) (hX : va_X b 6 xs s s.heap) (hbl : b < s.heap.size) (hlocks : meth.locks = false) (hG : gx g (fun q => s.heap.size ≤ q) s s.heap) (hk : (xs 0 &&& 63) = 3) (cA_117 : ClassId) (cA_119 : ClassId) (q_1 : Nat) (q_3 : Nat) (q_4 : Nat) (q_10 : Nat) (q_11 : Nat) (q_12 : Nat) (q_13 : Nat) (q_14 : Nat) (q_15 : Nat) (q_16 : Nat) (q_17 : Nat) (q_18 : Nat) (q_21 : Nat) (q_27 : Nat) (q_31 : Nat) (q_32 : Nat) (q_61 : Nat) (q_90 : Nat) (q_92 : Nat) (q_93 : Nat) (q_97 : Nat) (q_100 : Nat) (q_101 : Nat) (q_102 : Nat) (q_103 : Nat) (q_104 : Nat) (q_105 : Nat) (q_113 : Nat) (q_116 : Nat) (q_118 : Nat) (H : Heap) (locs : List Loc) (ls : Array Slot) (hK : va_K (dC, dI) vwCl [(cI, .int), (cZ, .boolean), (cO, .object "java/lang/Object"), (cA_117, .long), (cA_119, .double)] s) (hP : va_P (dC, dI) vwCl [(q_1, .inr (12, [.ref q_3, .ref q_32, .ref q_61])), (q_3, .inr (4, [.ref q_4, .ref q_10, .ref q_18, .ref q_21, .ref q_27, .ref q_31, .int 0, .int 0, .long 0])), (q_10, .inr (10, [.ref q_11, .ref q_14, .ref q_15, .ref q_16, .ref q_12, .ref q_13, .ref q_17, .int 0, .int 0])), (q_11, .inl (cI, 4, .inl (cn 0))), (q_12, .inl (cI, 4, .inl (cn 0))), (q_13, .inl (cI, 4, .inl (cn 0))), (q_14, .inl (cI, 4, .inl (cn 10))), (q_15, .inl (cI, 4, .inl (cn 10))), (q_16, .inl (cI, 4, .inl (cn (-1)))), (q_17, .inl (cI, 4, .inl (cn 110))), (q_90, .inr (16, [.ref q_97, .ref q_103, .ref q_113, .ref q_92, .ref q_93, .int 0, .int 0, .int 0, .int 105, .int 0, .int 0, .int 0, .int (-1), .int 0, .int 0, .int 0, .int 0, .int 0, .int 0, .int 0, .long 0, .int 0, .int 0])), (q_100, .inr (15, [.int 0, .int 10, .int 10, .int 114, .int 0, .int 0, .int (-1), .int 0, .int 110, .int 0])), (q_101, .inr (15, [.int 0, .int 10, .int 10, .int 114, .int 0, .int 0, .int (-1), .int 0, .int 110, .int 0])), (q_102, .inr (15, [.int 0, .int 10, .int 10, .int 114, .int 0, .int 0, .int (-1), .int 0, .int 110, .int 0])), (q_103, .inr (3, [.int 4, .ref q_104, .int 4])), (q_104, .inl (cO, 10, .inr (.inr (.inr (.inr (va_up (va_up (va_up (va_up nn 0 (some q_100)) 1 (some q_101)) 2 (some q_102)) 3 (some q_105))))))), (q_105, .inr (15, [.int 0, .int 10, .int 10, .int 114, .int 0, .int 0, .int (-1), .int 0, .int 110, .int 0])), (q_116, .inl (cA_117, 1, .inr (.inl cnL)))] H) (hD : va_D (fun q => s.heap.size ≤ q) [(q_1, .inr (12, [.ref q_3, .ref q_32, .ref q_61])), (q_3, .inr (4, [.ref q_4, .ref q_10, .ref q_18, .ref q_21, .ref q_27, .ref q_31, .int 0, .int 0, .long 0])), (q_10, .inr (10, [.ref q_11, .ref q_14, .ref q_15, .ref q_16, .ref q_12, .ref q_13, .ref q_17, .int 0, .int 0])), (q_11, .inl (cI, 4, .inl (cn 0))), (q_12, .inl (cI, 4, .inl (cn 0))), (q_13, .inl (cI, 4, .inl (cn 0))), (q_14, .inl (cI, 4, .inl (cn 10))), (q_15, .inl (cI, 4, .inl (cn 10))), (q_16, .inl (cI, 4, .inl (cn (-1)))), (q_17, .inl (cI, 4, .inl (cn 110))), (q_90, .inr (16, [.ref q_97, .ref q_103, .ref q_113, .ref q_92, .ref q_93, .int 0, .int 0, .int 0, .int 105, .int 0, .int 0, .int 0, .int (-1), .int 0, .int 0, .int 0, .int 0, .int 0, .int 0, .int 0, .long 0, .int 0, .int 0])), (q_100, .inr (15, [.int 0, .int 10, .int 10, .int 114, .int 0, .int 0, .int (-1), .int 0, .int 110, .int 0])), (q_101, .inr (15, [.int 0, .int 10, .int 10, .int 114, .int 0, .int 0, .int (-1), .int 0, .int 110, .int 0])), (q_102, .inr (15, [.int 0, .int 10, .int 10, .int 114, .int 0, .int 0, .int (-1), .int 0, .int 110, .int 0])), (q_103, .inr (3, [.int 4, .ref q_104, .int 4])), (q_104, .inl (cO, 10, .inr (.inr (.inr (.inr (va_up (va_up (va_up (va_up nn 0 (some q_100)) 1 (some q_101)) 2 (some q_102)) 3 (some q_105))))))), (q_105, .inr (15, [.int 0, .int 10, .int 10, .int 114, .int 0, .int 0, .int (-1), .int 0, .int 110, .int 0])), (q_116, .inl (cA_117, 1, .inr (.inl cnL)))]) (hS : va_S (fun q => s.heap.size ≤ q) s.heap H locs) (hl : lv_has ls 9 [(5, .int 0), (4, .ref q_118), (3, .ref q_116), (2, .ref q_90), (1, .ref q_1), (0, .ref b)]) : W p l e room_1 s m #[Value.ref b] below meth c H locs 115 1854 (lw_Z below #[Value.ref b] s) (F0 m 28 ls []) := by
  have hN := hG.1
  obtain ⟨A, hAe⟩ : ∃ A : Nat → Prop, A = (fun q => s.heap.size ≤ q) := ⟨_, rfl⟩
  rw [← hAe] at hG hD hS
  have hA : ∀ q : Nat, s.heap.size ≤ q → A q := fun q h => by rw [hAe]; exact h
  have hbA : ¬ A b := by rw [hAe]; exact Nat.not_le.mpr hbl
  refine lv_iload hx hb dL_law_28 (lv_at hl 0 rfl) ?_
  refine lv_aload_n hx hb dL_law_30 rfl (lv_at hl 5 rfl) ?_
  refine va_slen hx hb hX hbl hbA hS dL_law_31 ?_
  refine lt_ci (y := 6) rfl ?_
  refine lv_bipush (v := 6) hx hb dL_law_32 (by decide) ?_
  refine lv_isub hx hb dL_law_34 ?_
  refine lt_ci (y := 0) (by first | rfl | decide) ?_
  refine lv_icmp_gt (tgt := 1982) hx hb dL_law_35 (by decide) (fun c => absurd c (by decide)) (fun _ => ?_)
  refine lv_aload_n hx hb dL_law_38 rfl (lv_at hl 5 rfl) ?_
  refine lv_iload hx hb dL_law_39 (lv_at hl 0 rfl) ?_
  refine va_sld hx hb hX hbl hbA hS (by unfold vp_in; decide) dL_law_41 ?_
  refine lt_ci (y := (xs 0)) rfl ?_
  refine lv_bipush (v := 63) hx hb dL_law_42 (by decide) ?_
  refine lv_iand hx hb dL_law_44 ?_
  refine lt_ci (y := 3) hk ?_
  refine lv_tableIn (off := 437) (tgt := 482) hx hb dL_law_45 (by decide) (by decide) (by decide) (by decide) ?_
  refine lv_aload_n hx hb dL_law_482 rfl (lv_at hl 4 rfl) ?_
  refine lv_aload_n hx hb dL_law_483 rfl (lv_at hl 5 rfl) ?_
  refine lv_iload hx hb dL_law_484 (lv_at hl 0 rfl) ?_
  refine lv_iconst (v := 1) hx hb dL_law_486 (by decide) ?_
  refine lv_iadd hx hb dL_law_487 ?_
  refine lt_ci (y := 1) (by first | rfl | decide) ?_
  refine va_sld hx hb hX hbl hbA hS (by unfold vp_in; decide) dL_law_488 ?_
  refine lt_ci (y := (xs 1)) rfl ?_
  refine lv_aload_n hx hb dL_law_489 rfl (lv_at hl 5 rfl) ?_
  refine lv_iload hx hb dL_law_490 (lv_at hl 0 rfl) ?_
  refine lv_iconst (v := 2) hx hb dL_law_492 (by decide) ?_
  refine lv_iadd hx hb dL_law_493 ?_
  refine lt_ci (y := 2) (by first | rfl | decide) ?_
  refine va_sld hx hb hX hbl hbA hS (by unfold vp_in; decide) dL_law_494 ?_
  refine lt_ci (y := (xs 2)) rfl ?_
  refine lv_aload_n hx hb dL_law_495 rfl (lv_at hl 5 rfl) ?_
  refine lv_iload hx hb dL_law_496 (lv_at hl 0 rfl) ?_
  refine lv_iconst (v := 3) hx hb dL_law_498 (by decide) ?_
  refine lv_iadd hx hb dL_law_499 ?_
  refine lt_ci (y := 3) (by first | rfl | decide) ?_
  refine va_sld hx hb hX hbl hbA hS (by unfold vp_in; decide) dL_law_500 ?_
  refine lt_ci (y := (xs 3)) rfl ?_
  refine lv_i2c (v := (((xs 3)).toUInt32 % 65536).toInt32) hx hb dL_law_501 (by first | rfl | decide) ?_
  refine lv_aload_n hx hb dL_law_502 rfl (lv_at hl 2 rfl) ?_
  have hPc := hP.sub (ws' := [(q_1, .inr (12, [.ref q_3, .ref q_32, .ref q_61])), (q_3, .inr (4, [.ref q_4, .ref q_10, .ref q_18, .ref q_21, .ref q_27, .ref q_31, .int 0, .int 0, .long 0])), (q_10, .inr (10, [.ref q_11, .ref q_14, .ref q_15, .ref q_16, .ref q_12, .ref q_13, .ref q_17, .int 0, .int 0])), (q_11, .inl (cI, 4, .inl (cn 0))), (q_14, .inl (cI, 4, .inl (cn 10))), (q_15, .inl (cI, 4, .inl (cn 10))), (q_16, .inl (cI, 4, .inl (cn (-1)))), (q_12, .inl (cI, 4, .inl (cn 0))), (q_13, .inl (cI, 4, .inl (cn 0))), (q_17, .inl (cI, 4, .inl (cn 110))), (q_116, .inl (cA_117, 1, .inr (.inl cnL)))]) [0, 1, 2, 3, 6, 7, 8, 4, 5, 9, 17] rfl
  have hDc := hD.sub (ws' := [(q_1, .inr (12, [.ref q_3, .ref q_32, .ref q_61])), (q_3, .inr (4, [.ref q_4, .ref q_10, .ref q_18, .ref q_21, .ref q_27, .ref q_31, .int 0, .int 0, .long 0])), (q_10, .inr (10, [.ref q_11, .ref q_14, .ref q_15, .ref q_16, .ref q_12, .ref q_13, .ref q_17, .int 0, .int 0])), (q_11, .inl (cI, 4, .inl (cn 0))), (q_14, .inl (cI, 4, .inl (cn 10))), (q_15, .inl (cI, 4, .inl (cn 10))), (q_16, .inl (cI, 4, .inl (cn (-1)))), (q_12, .inl (cI, 4, .inl (cn 0))), (q_13, .inl (cI, 4, .inl (cn 0))), (q_17, .inl (cI, 4, .inl (cn 110))), (q_116, .inl (cA_117, 1, .inr (.inl cnL)))]) [0, 1, 2, 3, 6, 7, 8, 4, 5, 9, 17] (by decide) rfl
  have hKc := hK.sub (tys' := [(cI, .int), (cA_117, .long)]) [0, 3] rfl
  have hFc := va_free (wc := [(q_1, .inr (12, [.ref q_3, .ref q_32, .ref q_61])), (q_3, .inr (4, [.ref q_4, .ref q_10, .ref q_18, .ref q_21, .ref q_27, .ref q_31, .int 0, .int 0, .long 0])), (q_10, .inr (10, [.ref q_11, .ref q_14, .ref q_15, .ref q_16, .ref q_12, .ref q_13, .ref q_17, .int 0, .int 0])), (q_11, .inl (cI, 4, .inl (cn 0))), (q_14, .inl (cI, 4, .inl (cn 10))), (q_15, .inl (cI, 4, .inl (cn 10))), (q_16, .inl (cI, 4, .inl (cn (-1)))), (q_12, .inl (cI, 4, .inl (cn 0))), (q_13, .inl (cI, 4, .inl (cn 0))), (q_17, .inl (cI, 4, .inl (cn 110))), (q_116, .inl (cA_117, 1, .inr (.inl cnL)))]) hD hS hA [0, 1, 2, 3, 6, 7, 8, 4, 5, 9, 17] rfl
  refine vx_calli (vx_runSX (As := [.ref q_1, .int (xs 1), .int (xs 2), .int ((((xs 3)).toUInt32 % 65536).toInt32), .ref q_116]) (rest := []) ⟨hx, hb, hml, hown, hts⟩ (c_L_setPin l hl9 dC dI g q_1 q_32 q_61 q_3 q_4 q_10 q_11 q_14 q_15 q_16 q_12 q_13 q_17 q_18 q_21 q_27 q_31 cI (xs 1) (xs 2) ((((xs 3)).toUInt32 % 65536).toInt32) cnL q_116 cA_117 H.size) (vx_cwSW 5 hts gL_law_L_setPin rfl rfl rfl (by decide +kernel) ⟨Nat.le_of_ble_eq_true rfl, Nat.le_of_ble_eq_true rfl⟩) ⟨wIn_blind, wIn_at hPc hKc hDc hG hS hFc⟩ rfl rfl hl.1 rfl (lv_room (Nat.le_of_ble_eq_true rfl)) dL_law_503 ⟨Nat.le_of_ble_eq_true rfl, Nat.le_of_ble_eq_true rfl⟩) hS (fun q _ h => hFc q h) hFc (fun q _ h => hFc q h) (fun E9 ce9 q9 u9 t H1 locs ht hvm hx9 hB9 hz1 hk1 hS hce hcv hcl => False.elim hx9) (fun r_120 u t H1 locs ht hvm hw hB hz1 hk1 hS => ?_)
  obtain ⟨v_121, rfl⟩ : ∃ z, z = u := ⟨_, rfl⟩
  obtain ⟨hP1, hK1, hD1⟩ := hB
  rw [ht] at hP1
  obtain ⟨hP, hD⟩ := va_join (wr := [(q_90, .inr (16, [.ref q_97, .ref q_103, .ref q_113, .ref q_92, .ref q_93, .int 0, .int 0, .int 0, .int 105, .int 0, .int 0, .int 0, .int (-1), .int 0, .int 0, .int 0, .int 0, .int 0, .int 0, .int 0, .long 0, .int 0, .int 0])), (q_100, .inr (15, [.int 0, .int 10, .int 10, .int 114, .int 0, .int 0, .int (-1), .int 0, .int 110, .int 0])), (q_101, .inr (15, [.int 0, .int 10, .int 10, .int 114, .int 0, .int 0, .int (-1), .int 0, .int 110, .int 0])), (q_102, .inr (15, [.int 0, .int 10, .int 10, .int 114, .int 0, .int 0, .int (-1), .int 0, .int 110, .int 0])), (q_103, .inr (3, [.int 4, .ref q_104, .int 4])), (q_104, .inl (cO, 10, .inr (.inr (.inr (.inr (va_up (va_up (va_up (va_up nn 0 (some q_100)) 1 (some q_101)) 2 (some q_102)) 3 (some q_105))))))), (q_105, .inr (15, [.int 0, .int 10, .int 10, .int 114, .int 0, .int 0, .int (-1), .int 0, .int 110, .int 0]))]) (w1 := [(q_116, .inl (cA_117, 1, .inr (.inl v_121)))]) hP hD [0, 1, 2, 3, 6, 7, 8, 4, 5, 9, 17] [10, 11, 12, 13, 14, 15, 16] rfl rfl (by decide) (by decide) hk1 hFc hP1 hD1
  generalize H1 = H at hP hS ⊢
  have hP : va_P (dC, dI) vwCl [(q_90, .inr (16, [.ref q_97, .ref q_103, .ref q_113, .ref q_92, .ref q_93, .int 0, .int 0, .int 0, .int 105, .int 0, .int 0, .int 0, .int (-1), .int 0, .int 0, .int 0, .int 0, .int 0, .int 0, .int 0, .long 0, .int 0, .int 0])), (q_100, .inr (15, [.int 0, .int 10, .int 10, .int 114, .int 0, .int 0, .int (-1), .int 0, .int 110, .int 0])), (q_101, .inr (15, [.int 0, .int 10, .int 10, .int 114, .int 0, .int 0, .int (-1), .int 0, .int 110, .int 0])), (q_102, .inr (15, [.int 0, .int 10, .int 10, .int 114, .int 0, .int 0, .int (-1), .int 0, .int 110, .int 0])), (q_103, .inr (3, [.int 4, .ref q_104, .int 4])), (q_104, .inl (cO, 10, .inr (.inr (.inr (.inr (va_up (va_up (va_up (va_up nn 0 (some q_100)) 1 (some q_101)) 2 (some q_102)) 3 (some q_105))))))), (q_105, .inr (15, [.int 0, .int 10, .int 10, .int 114, .int 0, .int 0, .int (-1), .int 0, .int 110, .int 0])), (q_116, .inl (cA_117, 1, .inr (.inl v_121)))] H := hP
  have hD : va_D A [(q_90, .inr (16, [.ref q_97, .ref q_103, .ref q_113, .ref q_92, .ref q_93, .int 0, .int 0, .int 0, .int 105, .int 0, .int 0, .int 0, .int (-1), .int 0, .int 0, .int 0, .int 0, .int 0, .int 0, .int 0, .long 0, .int 0, .int 0])), (q_100, .inr (15, [.int 0, .int 10, .int 10, .int 114, .int 0, .int 0, .int (-1), .int 0, .int 110, .int 0])), (q_101, .inr (15, [.int 0, .int 10, .int 10, .int 114, .int 0, .int 0, .int (-1), .int 0, .int 110, .int 0])), (q_102, .inr (15, [.int 0, .int 10, .int 10, .int 114, .int 0, .int 0, .int (-1), .int 0, .int 110, .int 0])), (q_103, .inr (3, [.int 4, .ref q_104, .int 4])), (q_104, .inl (cO, 10, .inr (.inr (.inr (.inr (va_up (va_up (va_up (va_up nn 0 (some q_100)) 1 (some q_101)) 2 (some q_102)) 3 (some q_105))))))), (q_105, .inr (15, [.int 0, .int 10, .int 10, .int 114, .int 0, .int 0, .int (-1), .int 0, .int 110, .int 0])), (q_116, .inl (cA_117, 1, .inr (.inl v_121)))] := hD
  refine lt_ci (y := sp_X8_setPin (xs 1) (xs 2) ((((xs 3)).toUInt32 % 65536).toInt32)) (hw.1) ?_
  have hv_122 : sp_X8_setPin (xs 1) (xs 2) ((((xs 3)).toUInt32 % 65536).toInt32) = 0 → v_121 0 = 110 := hw.2
  refine W.widen (k := 116) (n := 1860) (Nat.le_of_ble_eq_true rfl) (Nat.le_of_ble_eq_true rfl) ?_
  refine lv_istore (lv' := [(6, .int (sp_X8_setPin (xs 1) (xs 2) ((((xs 3)).toUInt32 % 65536).toInt32))), (5, .int 0), (4, .ref q_118), (3, .ref q_116), (2, .ref q_90), (1, .ref q_1), (0, .ref b)]) hx hb dL_law_506 hl (by decide) rfl (fun ls hl => ?_)
  refine lv_aload_n hx hb dL_law_508 rfl (lv_at hl 4 rfl) ?_
  refine lv_aload_n hx hb dL_law_509 rfl (lv_at hl 6 rfl) ?_
  refine lv_iload hx hb dL_law_510 (lv_at hl 1 rfl) ?_
  refine lv_iconst (v := 1) hx hb dL_law_512 (by decide) ?_
  refine lv_iadd hx hb dL_law_513 ?_
  refine lt_ci (y := 1) (by first | rfl | decide) ?_
  refine va_sld hx hb hX hbl hbA hS (by unfold vp_in; decide) dL_law_514 ?_
  refine lt_ci (y := (xs 1)) rfl ?_
  refine lv_aload_n hx hb dL_law_515 rfl (lv_at hl 6 rfl) ?_
  refine lv_iload hx hb dL_law_516 (lv_at hl 1 rfl) ?_
  refine lv_iconst (v := 2) hx hb dL_law_518 (by decide) ?_
  refine lv_iadd hx hb dL_law_519 ?_
  refine lt_ci (y := 2) (by first | rfl | decide) ?_
  refine va_sld hx hb hX hbl hbA hS (by unfold vp_in; decide) dL_law_520 ?_
  refine lt_ci (y := (xs 2)) rfl ?_
  refine lv_aload_n hx hb dL_law_521 rfl (lv_at hl 6 rfl) ?_
  refine lv_iload hx hb dL_law_522 (lv_at hl 1 rfl) ?_
  refine lv_iconst (v := 3) hx hb dL_law_524 (by decide) ?_
  refine lv_iadd hx hb dL_law_525 ?_
  refine lt_ci (y := 3) (by first | rfl | decide) ?_
  refine va_sld hx hb hX hbl hbA hS (by unfold vp_in; decide) dL_law_526 ?_
  refine lt_ci (y := (xs 3)) rfl ?_
  refine lv_i2c (v := (((xs 3)).toUInt32 % 65536).toInt32) hx hb dL_law_527 (by first | rfl | decide) ?_
  have hPc := hP.sub (ws' := [(q_90, .inr (16, [.ref q_97, .ref q_103, .ref q_113, .ref q_92, .ref q_93, .int 0, .int 0, .int 0, .int 105, .int 0, .int 0, .int 0, .int (-1), .int 0, .int 0, .int 0, .int 0, .int 0, .int 0, .int 0, .long 0, .int 0, .int 0])), (q_103, .inr (3, [.int 4, .ref q_104, .int 4])), (q_104, .inl (cO, 10, .inr (.inr (.inr (.inr (va_up (va_up (va_up (va_up nn 0 (some q_100)) 1 (some q_101)) 2 (some q_102)) 3 (some q_105))))))), (q_100, .inr (15, [.int 0, .int 10, .int 10, .int 114, .int 0, .int 0, .int (-1), .int 0, .int 110, .int 0])), (q_101, .inr (15, [.int 0, .int 10, .int 10, .int 114, .int 0, .int 0, .int (-1), .int 0, .int 110, .int 0])), (q_102, .inr (15, [.int 0, .int 10, .int 10, .int 114, .int 0, .int 0, .int (-1), .int 0, .int 110, .int 0])), (q_105, .inr (15, [.int 0, .int 10, .int 10, .int 114, .int 0, .int 0, .int (-1), .int 0, .int 110, .int 0]))]) [0, 4, 5, 1, 2, 3, 6] rfl
  have hDc := hD.sub (ws' := [(q_90, .inr (16, [.ref q_97, .ref q_103, .ref q_113, .ref q_92, .ref q_93, .int 0, .int 0, .int 0, .int 105, .int 0, .int 0, .int 0, .int (-1), .int 0, .int 0, .int 0, .int 0, .int 0, .int 0, .int 0, .long 0, .int 0, .int 0])), (q_103, .inr (3, [.int 4, .ref q_104, .int 4])), (q_104, .inl (cO, 10, .inr (.inr (.inr (.inr (va_up (va_up (va_up (va_up nn 0 (some q_100)) 1 (some q_101)) 2 (some q_102)) 3 (some q_105))))))), (q_100, .inr (15, [.int 0, .int 10, .int 10, .int 114, .int 0, .int 0, .int (-1), .int 0, .int 110, .int 0])), (q_101, .inr (15, [.int 0, .int 10, .int 10, .int 114, .int 0, .int 0, .int (-1), .int 0, .int 110, .int 0])), (q_102, .inr (15, [.int 0, .int 10, .int 10, .int 114, .int 0, .int 0, .int (-1), .int 0, .int 110, .int 0])), (q_105, .inr (15, [.int 0, .int 10, .int 10, .int 114, .int 0, .int 0, .int (-1), .int 0, .int 110, .int 0]))]) [0, 4, 5, 1, 2, 3, 6] (by decide) rfl
  have hKc := hK.sub (tys' := [(cI, .int), (cZ, .boolean), (cO, .object "java/lang/Object")]) [0, 1, 2] rfl
  have hFc := va_free (wc := [(q_90, .inr (16, [.ref q_97, .ref q_103, .ref q_113, .ref q_92, .ref q_93, .int 0, .int 0, .int 0, .int 105, .int 0, .int 0, .int 0, .int (-1), .int 0, .int 0, .int 0, .int 0, .int 0, .int 0, .int 0, .long 0, .int 0, .int 0])), (q_103, .inr (3, [.int 4, .ref q_104, .int 4])), (q_104, .inl (cO, 10, .inr (.inr (.inr (.inr (va_up (va_up (va_up (va_up nn 0 (some q_100)) 1 (some q_101)) 2 (some q_102)) 3 (some q_105))))))), (q_100, .inr (15, [.int 0, .int 10, .int 10, .int 114, .int 0, .int 0, .int (-1), .int 0, .int 110, .int 0])), (q_101, .inr (15, [.int 0, .int 10, .int 10, .int 114, .int 0, .int 0, .int (-1), .int 0, .int 110, .int 0])), (q_102, .inr (15, [.int 0, .int 10, .int 10, .int 114, .int 0, .int 0, .int (-1), .int 0, .int 110, .int 0])), (q_105, .inr (15, [.int 0, .int 10, .int 10, .int 114, .int 0, .int 0, .int (-1), .int 0, .int 110, .int 0]))]) hD hS hA [0, 4, 5, 1, 2, 3, 6] rfl
  refine va_calli (va_runV (As := [.int (xs 1), .int (xs 2), .int ((((xs 3)).toUInt32 % 65536).toInt32)]) (rest := []) ⟨hx, hb, hml, hown, hts⟩ (c_X12_setPin l dC dI g q_90 q_92 q_93 q_97 q_103 q_104 q_100 q_101 q_102 q_105 q_113 cI cZ cO 0 (xs 1) (xs 2) ((((xs 3)).toUInt32 % 65536).toInt32) H.size (pk_nc _) (pk_fc _)) (cwV 3 hts gL_law_X12_setPin rfl rfl rfl (by decide +kernel) ⟨Nat.le_of_ble_eq_true rfl, Nat.le_of_ble_eq_true rfl⟩) ⟨wIn_blind, va_recv hK hP (ci := 16) (q0 := 0) rfl rfl, wIn_at hPc hKc hDc hG hS hFc⟩ rfl rfl hl.1 rfl (lv_room (Nat.le_of_ble_eq_true rfl)) dL_law_528 ⟨Nat.le_of_ble_eq_true rfl, Nat.le_of_ble_eq_true rfl⟩) hS (fun q _ h => hFc q h) hFc (fun r_123 u t H1 locs ht hvm hw hB hz1 hk1 hS => ?_)
  obtain ⟨v_124, rfl⟩ : ∃ z, z = u := ⟨_, rfl⟩
  have hw : v_124 = mp_X12_setPin (xs 1) (xs 2) ((((xs 3)).toUInt32 % 65536).toInt32) ∧ (mp_X12_setPin (xs 1) (xs 2) ((((xs 3)).toUInt32 % 65536).toInt32) = 0 → r_123 = 110) := hw
  obtain ⟨hm9, hv_125⟩ := hw
  subst hm9
  obtain ⟨hP1, hK1, hD1⟩ := hB
  rw [ht] at hP1
  obtain ⟨hP, hD⟩ := va_join (wr := [(q_116, .inl (cA_117, 1, .inr (.inl v_121)))]) (w1 := [(q_90, .inr (16, [.ref q_97, .ref q_103, .ref q_113, .ref q_92, .ref q_93, .int 0, .int 0, .int 0, .int 105, .int 0, .int 0, .int 0, .int (-1), .int 0, .int 0, .int 0, .int 0, .int 0, .int 0, .int 0, .long 0, .int 0, .int (mp_X12_setPin (xs 1) (xs 2) ((((xs 3)).toUInt32 % 65536).toInt32))]))]) hP hD [0, 4, 5, 1, 2, 3, 6] [7] rfl rfl (by decide) (by decide) hk1 hFc hP1 hD1
  generalize H1 = H at hP hS ⊢
  have hP : va_P (dC, dI) vwCl [(q_116, .inl (cA_117, 1, .inr (.inl v_121))), (q_90, .inr (16, [.ref q_97, .ref q_103, .ref q_113, .ref q_92, .ref q_93, .int 0, .int 0, .int 0, .int 105, .int 0, .int 0, .int 0, .int (-1), .int 0, .int 0, .int 0, .int 0, .int 0, .int 0, .int 0, .long 0, .int 0, .int (mp_X12_setPin (xs 1) (xs 2) ((((xs 3)).toUInt32 % 65536).toInt32))]))] H := hP
  have hD : va_D A [(q_116, .inl (cA_117, 1, .inr (.inl v_121))), (q_90, .inr (16, [.ref q_97, .ref q_103, .ref q_113, .ref q_92, .ref q_93, .int 0, .int 0, .int 0, .int 105, .int 0, .int 0, .int 0, .int (-1), .int 0, .int 0, .int 0, .int 0, .int 0, .int 0, .int 0, .long 0, .int 0, .int (mp_X12_setPin (xs 1) (xs 2) ((((xs 3)).toUInt32 % 65536).toInt32))]))] := hD
  refine lv_istore (lv' := [(7, .int r_123), (6, .int (sp_X8_setPin (xs 1) (xs 2) ((((xs 3)).toUInt32 % 65536).toInt32))), (5, .int 0), (4, .ref q_118), (3, .ref q_116), (2, .ref q_90), (1, .ref q_1), (0, .ref b)]) hx hb dL_law_531 hl (by decide) rfl (fun ls hl => ?_)
  refine lv_aload_n hx hb dL_law_533 rfl (lv_at hl 5 rfl) ?_
  have hPc := hP.sub (ws' := [(q_90, .inr (16, [.ref q_97, .ref q_103, .ref q_113, .ref q_92, .ref q_93, .int 0, .int 0, .int 0, .int 105, .int 0, .int 0, .int 0, .int (-1), .int 0, .int 0, .int 0, .int 0, .int 0, .int 0, .int 0, .long 0, .int 0, .int (mp_X12_setPin (xs 1) (xs 2) ((((xs 3)).toUInt32 % 65536).toInt32))]))]) [1] rfl
  have hDc := hD.sub (ws' := [(q_90, .inr (16, [.ref q_97, .ref q_103, .ref q_113, .ref q_92, .ref q_93, .int 0, .int 0, .int 0, .int 105, .int 0, .int 0, .int 0, .int (-1), .int 0, .int 0, .int 0, .int 0, .int 0, .int 0, .int 0, .long 0, .int 0, .int (mp_X12_setPin (xs 1) (xs 2) ((((xs 3)).toUInt32 % 65536).toInt32))]))]) [1] (by decide) rfl
  have hKc := hK.sub (tys' := [(cI, .int), (cZ, .boolean), (cO, .object "java/lang/Object")]) [0, 1, 2] rfl
  have hFc := va_free (wc := [(q_90, .inr (16, [.ref q_97, .ref q_103, .ref q_113, .ref q_92, .ref q_93, .int 0, .int 0, .int 0, .int 105, .int 0, .int 0, .int 0, .int (-1), .int 0, .int 0, .int 0, .int 0, .int 0, .int 0, .int 0, .long 0, .int 0, .int (mp_X12_setPin (xs 1) (xs 2) ((((xs 3)).toUInt32 % 65536).toInt32))]))]) hD hS hA [1] rfl
  refine va_calli (va_runV (As := []) (rest := []) ⟨hx, hb, hml, hown, hts⟩ (c_X12_thrown l dC dI g q_90 (.ref q_97) (.ref q_103) (.ref q_113) (.ref q_92) (.ref q_93) (.int 0) (.int 0) (.int 0) (.int 105) (.int 0) (.int 0) (.int 0) (.int (-1)) (.int 0) (.int 0) (.int 0) (.int 0) (.int 0) (.int 0) (.int 0) (.long 0) (.int 0) cI cZ cO (mp_X12_setPin (xs 1) (xs 2) ((((xs 3)).toUInt32 % 65536).toInt32)) H.size) (cwV 0 hts gL_law_X12_thrown rfl rfl rfl (by decide +kernel) ⟨Nat.le_of_ble_eq_true rfl, Nat.le_of_ble_eq_true rfl⟩) ⟨wIn_blind, va_recv hK hP (ci := 16) (q0 := 1) rfl rfl, wIn_at hPc hKc hDc hG hS hFc⟩ rfl rfl hl.1 rfl (lv_room (Nat.le_of_ble_eq_true rfl)) dL_law_534 ⟨Nat.le_of_ble_eq_true rfl, Nat.le_of_ble_eq_true rfl⟩) hS (fun q _ h => hFc q h) hFc (fun r_126 u t H1 locs ht hvm hw hB hz1 hk1 hS => ?_)
  obtain ⟨hP1, hK1, hD1⟩ := hB
  rw [ht] at hP1
  obtain ⟨hP, hD⟩ := va_join (wr := [(q_116, .inl (cA_117, 1, .inr (.inl v_121)))]) (w1 := [(q_90, .inr (16, [.ref q_97, .ref q_103, .ref q_113, .ref q_92, .ref q_93, .int 0, .int 0, .int 0, .int 105, .int 0, .int 0, .int 0, .int (-1), .int 0, .int 0, .int 0, .int 0, .int 0, .int 0, .int 0, .long 0, .int 0, .int (mp_X12_setPin (xs 1) (xs 2) ((((xs 3)).toUInt32 % 65536).toInt32))]))]) hP hD [1] [0] rfl rfl (by decide) (by decide) hk1 hFc hP1 hD1
  generalize H1 = H at hP hS ⊢
  have hP : va_P (dC, dI) vwCl [(q_116, .inl (cA_117, 1, .inr (.inl v_121))), (q_90, .inr (16, [.ref q_97, .ref q_103, .ref q_113, .ref q_92, .ref q_93, .int 0, .int 0, .int 0, .int 105, .int 0, .int 0, .int 0, .int (-1), .int 0, .int 0, .int 0, .int 0, .int 0, .int 0, .int 0, .long 0, .int 0, .int (mp_X12_setPin (xs 1) (xs 2) ((((xs 3)).toUInt32 % 65536).toInt32))]))] H := hP
  have hD : va_D A [(q_116, .inl (cA_117, 1, .inr (.inl v_121))), (q_90, .inr (16, [.ref q_97, .ref q_103, .ref q_113, .ref q_92, .ref q_93, .int 0, .int 0, .int 0, .int 105, .int 0, .int 0, .int 0, .int (-1), .int 0, .int 0, .int 0, .int 0, .int 0, .int 0, .int 0, .long 0, .int 0, .int (mp_X12_setPin (xs 1) (xs 2) ((((xs 3)).toUInt32 % 65536).toInt32))]))] := hD
  refine lt_ci (y := (mp_X12_setPin (xs 1) (xs 2) ((((xs 3)).toUInt32 % 65536).toInt32))) hw ?_
  refine lt_ci (y := sp_X8_setPin (xs 1) (xs 2) ((((xs 3)).toUInt32 % 65536).toInt32)) (sm_X12_setPin _ _ _) ?_
  refine lv_iload hx hb dL_law_537 (lv_at hl 1 rfl) ?_
  refine lv_icmp_eq (tgt := 544) hx hb dL_law_539 (by decide) (fun _ => ?_) (fun c => absurd (rfl) c)
  refine lv_iload hx hb dL_law_544 (lv_at hl 1 rfl) ?_
  refine lv_if_ne (tgt := 561) hx hb dL_law_546 (by decide) (fun c_546 => ?_) (fun c_546 => ?_)
  · refine lv_goto (tgt := 1976) hx hb dL_law_561 (by decide) ?_
    refine lv_iinc (v := 6) (lv' := [(5, .int 6), (7, .int r_123), (6, .int (sp_X8_setPin (xs 1) (xs 2) ((((xs 3)).toUInt32 % 65536).toInt32))), (4, .ref q_118), (3, .ref q_116), (2, .ref q_90), (1, .ref q_1), (0, .ref b)]) hx hb dL_law_1976 hl (k := 2) rfl (by first | rfl | decide) (by decide) rfl (fun ls hl => ?_)
    refine lv_goto (tgt := 28) hx hb dL_law_1979 (by decide) ?_
    refine lv_iload hx hb dL_law_28 (lv_at hl 0 rfl) ?_
    refine lv_aload_n hx hb dL_law_30 rfl (lv_at hl 7 rfl) ?_
    refine va_slen hx hb hX hbl hbA hS dL_law_31 ?_
    refine lt_ci (y := 6) rfl ?_
    refine lv_bipush (v := 6) hx hb dL_law_32 (by decide) ?_
    refine lv_isub hx hb dL_law_34 ?_
    refine lt_ci (y := 0) (by first | rfl | decide) ?_
    refine lv_icmp_gt (tgt := 1982) hx hb dL_law_35 (by decide) (fun _ => ?_) (fun c => absurd (by decide) c)
    refine lv_iconst (v := 1) hx hb dL_law_1982 (by decide) ?_
    refine W.widen (k := 735603) (n := 6895256) (Nat.le_of_ble_eq_true rfl) (Nat.le_of_ble_eq_true rfl) ?_
    refine va_forget (fun q hq => by have h9 := hS.2.2 q hq; rw [hAe] at h9; exact h9) ?_
    exact W.base (lw_ret (Drawn.sameBut.refl s.drawn lw_cs) hx hb hr hlocks dL_law_1983)
  · refine lv_aload_n hx hb dL_law_549 rfl (lv_at hl 4 rfl) ?_
    refine lv_iconst (v := 0) hx hb dL_law_550 (by decide) ?_
    refine va_lald (D := (dC, dI)) hx hb hK hP 0 3 rfl rfl (by unfold vp_in; decide) dL_law_551 ?_
    refine lt_cl (y := 110) (show _ = (110 : Int64) from hv_122 c_546) ?_
    refine lv_iload hx hb dL_law_552 (lv_at hl 0 rfl) ?_
    refine lt_ci (y := 110) (hv_125 ((sm_X12_setPin _ _ _).trans c_546)) ?_
    refine lv_i2l (v := 110) hx hb dL_law_554 (by first | rfl | decide) ?_
    refine W.lcmp hx hb dL_law_555 ?_
    refine lt_ci (y := 0) (by first | rfl | decide) ?_
    refine lv_if_eq (tgt := 561) hx hb dL_law_556 (by decide) (fun _ => ?_) (fun c => absurd (by decide) c)
    refine lv_goto (tgt := 1976) hx hb dL_law_561 (by decide) ?_
    refine lv_iinc (v := 6) (lv' := [(5, .int 6), (7, .int r_123), (6, .int (sp_X8_setPin (xs 1) (xs 2) ((((xs 3)).toUInt32 % 65536).toInt32))), (4, .ref q_118), (3, .ref q_116), (2, .ref q_90), (1, .ref q_1), (0, .ref b)]) hx hb dL_law_1976 hl (k := 2) rfl (by first | rfl | decide) (by decide) rfl (fun ls hl => ?_)
    refine lv_goto (tgt := 28) hx hb dL_law_1979 (by decide) ?_
    refine lv_iload hx hb dL_law_28 (lv_at hl 0 rfl) ?_
    refine lv_aload_n hx hb dL_law_30 rfl (lv_at hl 7 rfl) ?_
    refine va_slen hx hb hX hbl hbA hS dL_law_31 ?_
    refine lt_ci (y := 6) rfl ?_
    refine lv_bipush (v := 6) hx hb dL_law_32 (by decide) ?_
    refine lv_isub hx hb dL_law_34 ?_
    refine lt_ci (y := 0) (by first | rfl | decide) ?_
    refine lv_icmp_gt (tgt := 1982) hx hb dL_law_35 (by decide) (fun _ => ?_) (fun c => absurd (by decide) c)
    refine lv_iconst (v := 1) hx hb dL_law_1982 (by decide) ?_
    refine W.widen (k := 735603) (n := 6895256) (Nat.le_of_ble_eq_true rfl) (Nat.le_of_ble_eq_true rfl) ?_
    refine va_forget (fun q hq => by have h9 := hS.2.2 q hq; rw [hAe] at h9; exact h9) ?_
    exact W.base (lw_ret (Drawn.sameBut.refl s.drawn lw_cs) hx hb hr hlocks dL_law_1983)
set_option maxHeartbeats 8000000 in
set_option maxRecDepth 100000 in
theorem c_L_law_4 {p : Program} {e : Env} {s : State} {m : MethodId} {below : List Frame} {meth : Method} {c : Code} (l : Launch) (hl9 : l.stackTraces = false) (dC : Nat → ClassId) (dI : Nat → Nat → Nat) (g : Nat × Nat × Nat) (b : Nat) (xs : Nat → Int32) (cI cZ cO : ClassId) (hx : p.tables.exec = Jvm.exec) (hb : c.code = cL_law) (hr : meth.sig.returnType = ret) (hml : c.maxLocals = 9) (hown : s.vm.findClass RL = some m.cls) (hts : ∀ w ∈ wsL_law, w.before #[Value.ref b] s = true) (hX : va_X b 6 xs s s.heap) (hbl : b < s.heap.size) (hlocks : meth.locks = false) (hG : gx g (fun q => s.heap.size ≤ q) s s.heap) (hk : (xs 0 &&& 63) = 4) (cA_117 : ClassId) (cA_119 : ClassId) (q_1 : Nat) (q_3 : Nat) (q_4 : Nat) (q_10 : Nat) (q_11 : Nat) (q_12 : Nat) (q_13 : Nat) (q_14 : Nat) (q_15 : Nat) (q_16 : Nat) (q_17 : Nat) (q_18 : Nat) (q_21 : Nat) (q_27 : Nat) (q_31 : Nat) (q_32 : Nat) (q_61 : Nat) (q_90 : Nat) (q_92 : Nat) (q_93 : Nat) (q_97 : Nat) (q_100 : Nat) (q_101 : Nat) (q_102 : Nat) (q_103 : Nat) (q_104 : Nat) (q_105 : Nat) (q_113 : Nat) (q_116 : Nat) (q_118 : Nat) (H : Heap) (locs : List Loc) (ls : Array Slot) (hK : va_K (dC, dI) vwCl [(cI, .int), (cZ, .boolean), (cO, .object "java/lang/Object"), (cA_117, .long), (cA_119, .double)] s) (hP : va_P (dC, dI) vwCl [(q_1, .inr (12, [.ref q_3, .ref q_32, .ref q_61])), (q_3, .inr (4, [.ref q_4, .ref q_10, .ref q_18, .ref q_21, .ref q_27, .ref q_31, .int 0, .int 0, .long 0])), (q_10, .inr (10, [.ref q_11, .ref q_14, .ref q_15, .ref q_16, .ref q_12, .ref q_13, .ref q_17, .int 0, .int 0])), (q_11, .inl (cI, 4, .inl (cn 0))), (q_12, .inl (cI, 4, .inl (cn 0))), (q_13, .inl (cI, 4, .inl (cn 0))), (q_14, .inl (cI, 4, .inl (cn 10))), (q_15, .inl (cI, 4, .inl (cn 10))), (q_16, .inl (cI, 4, .inl (cn (-1)))), (q_17, .inl (cI, 4, .inl (cn 110))), (q_90, .inr (16, [.ref q_97, .ref q_103, .ref q_113, .ref q_92, .ref q_93, .int 0, .int 0, .int 0, .int 105, .int 0, .int 0, .int 0, .int (-1), .int 0, .int 0, .int 0, .int 0, .int 0, .int 0, .int 0, .long 0, .int 0, .int 0])), (q_100, .inr (15, [.int 0, .int 10, .int 10, .int 114, .int 0, .int 0, .int (-1), .int 0, .int 110, .int 0])), (q_101, .inr (15, [.int 0, .int 10, .int 10, .int 114, .int 0, .int 0, .int (-1), .int 0, .int 110, .int 0])), (q_102, .inr (15, [.int 0, .int 10, .int 10, .int 114, .int 0, .int 0, .int (-1), .int 0, .int 110, .int 0])), (q_103, .inr (3, [.int 4, .ref q_104, .int 4])), (q_104, .inl (cO, 10, .inr (.inr (.inr (.inr (va_up (va_up (va_up (va_up nn 0 (some q_100)) 1 (some q_101)) 2 (some q_102)) 3 (some q_105))))))), (q_105, .inr (15, [.int 0, .int 10, .int 10, .int 114, .int 0, .int 0, .int (-1), .int 0, .int 110, .int 0])), (q_116, .inl (cA_117, 1, .inr (.inl cnL)))] H) (hD : va_D (fun q => s.heap.size ≤ q) [(q_1, .inr (12, [.ref q_3, .ref q_32, .ref q_61])), (q_3, .inr (4, [.ref q_4, .ref q_10, .ref q_18, .ref q_21, .ref q_27, .ref q_31, .int 0, .int 0, .long 0])), (q_10, .inr (10, [.ref q_11, .ref q_14, .ref q_15, .ref q_16, .ref q_12, .ref q_13, .ref q_17, .int 0, .int 0])), (q_11, .inl (cI, 4, .inl (cn 0))), (q_12, .inl (cI, 4, .inl (cn 0))), (q_13, .inl (cI, 4, .inl (cn 0))), (q_14, .inl (cI, 4, .inl (cn 10))), (q_15, .inl (cI, 4, .inl (cn 10))), (q_16, .inl (cI, 4, .inl (cn (-1)))), (q_17, .inl (cI, 4, .inl (cn 110))), (q_90, .inr (16, [.ref q_97, .ref q_103, .ref q_113, .ref q_92, .ref q_93, .int 0, .int 0, .int 0, .int 105, .int 0, .int 0, .int 0, .int (-1), .int 0, .int 0, .int 0, .int 0, .int 0, .int 0, .int 0, .long 0, .int 0, .int 0])), (q_100, .inr (15, [.int 0, .int 10, .int 10, .int 114, .int 0, .int 0, .int (-1), .int 0, .int 110, .int 0])), (q_101, .inr (15, [.int 0, .int 10, .int 10, .int 114, .int 0, .int 0, .int (-1), .int 0, .int 110, .int 0])), (q_102, .inr (15, [.int 0, .int 10, .int 10, .int 114, .int 0, .int 0, .int (-1), .int 0, .int 110, .int 0])), (q_103, .inr (3, [.int 4, .ref q_104, .int 4])), (q_104, .inl (cO, 10, .inr (.inr (.inr (.inr (va_up (va_up (va_up (va_up nn 0 (some q_100)) 1 (some q_101)) 2 (some q_102)) 3 (some q_105))))))), (q_105, .inr (15, [.int 0, .int 10, .int 10, .int 114, .int 0, .int 0, .int (-1), .int 0, .int 110, .int 0])), (q_116, .inl (cA_117, 1, .inr (.inl cnL)))]) (hS : va_S (fun q => s.heap.size ≤ q) s.heap H locs) (hl : lv_has ls 9 [(5, .int 0), (4, .ref q_118), (3, .ref q_116), (2, .ref q_90), (1, .ref q_1), (0, .ref b)]) : W p l e room_1 s m #[Value.ref b] below meth c H locs 115 1854 (lw_Z below #[Value.ref b] s) (F0 m 28 ls []) := by
  have hN := hG.1
  obtain ⟨A, hAe⟩ : ∃ A : Nat → Prop, A = (fun q => s.heap.size ≤ q) := ⟨_, rfl⟩
  rw [← hAe] at hG hD hS
  have hA : ∀ q : Nat, s.heap.size ≤ q → A q := fun q h => by rw [hAe]; exact h
  have hbA : ¬ A b := by rw [hAe]; exact Nat.not_le.mpr hbl
  refine lv_iload hx hb dL_law_28 (lv_at hl 0 rfl) ?_
  refine lv_aload_n hx hb dL_law_30 rfl (lv_at hl 5 rfl) ?_
  refine va_slen hx hb hX hbl hbA hS dL_law_31 ?_
  refine lt_ci (y := 6) rfl ?_
  refine lv_bipush (v := 6) hx hb dL_law_32 (by decide) ?_
  refine lv_isub hx hb dL_law_34 ?_
  refine lt_ci (y := 0) (by first | rfl | decide) ?_
  refine lv_icmp_gt (tgt := 1982) hx hb dL_law_35 (by decide) (fun c => absurd c (by decide)) (fun _ => ?_)
  refine lv_aload_n hx hb dL_law_38 rfl (lv_at hl 5 rfl) ?_
  refine lv_iload hx hb dL_law_39 (lv_at hl 0 rfl) ?_
  refine va_sld hx hb hX hbl hbA hS (by unfold vp_in; decide) dL_law_41 ?_
  refine lt_ci (y := (xs 0)) rfl ?_
  refine lv_bipush (v := 63) hx hb dL_law_42 (by decide) ?_
  refine lv_iand hx hb dL_law_44 ?_
  refine lt_ci (y := 4) hk ?_
  refine lv_tableIn (off := 519) (tgt := 564) hx hb dL_law_45 (by decide) (by decide) (by decide) (by decide) ?_
  refine lv_aload_n hx hb dL_law_564 rfl (lv_at hl 4 rfl) ?_
  refine lv_aload_n hx hb dL_law_565 rfl (lv_at hl 5 rfl) ?_
  refine lv_iload hx hb dL_law_566 (lv_at hl 0 rfl) ?_
  refine lv_iconst (v := 1) hx hb dL_law_568 (by decide) ?_
  refine lv_iadd hx hb dL_law_569 ?_
  refine lt_ci (y := 1) (by first | rfl | decide) ?_
  refine va_sld hx hb hX hbl hbA hS (by unfold vp_in; decide) dL_law_570 ?_
  refine lt_ci (y := (xs 1)) rfl ?_
  refine lv_aload_n hx hb dL_law_571 rfl (lv_at hl 5 rfl) ?_
  refine lv_iload hx hb dL_law_572 (lv_at hl 0 rfl) ?_
  refine lv_iconst (v := 2) hx hb dL_law_574 (by decide) ?_
  refine lv_iadd hx hb dL_law_575 ?_
  refine lt_ci (y := 2) (by first | rfl | decide) ?_
  refine va_sld hx hb hX hbl hbA hS (by unfold vp_in; decide) dL_law_576 ?_
  refine lt_ci (y := (xs 2)) rfl ?_
  refine lv_if_eq (tgt := 584) hx hb dL_law_577 (by decide) (fun c_577 => ?_) (fun c_577 => ?_)
  · refine lv_iconst (v := 0) hx hb dL_law_584 (by decide) ?_
    refine lv_aload_n hx hb dL_law_585 rfl (lv_at hl 2 rfl) ?_
    have hPc := hP.sub (ws' := [(q_1, .inr (12, [.ref q_3, .ref q_32, .ref q_61])), (q_3, .inr (4, [.ref q_4, .ref q_10, .ref q_18, .ref q_21, .ref q_27, .ref q_31, .int 0, .int 0, .long 0])), (q_10, .inr (10, [.ref q_11, .ref q_14, .ref q_15, .ref q_16, .ref q_12, .ref q_13, .ref q_17, .int 0, .int 0])), (q_11, .inl (cI, 4, .inl (cn 0))), (q_14, .inl (cI, 4, .inl (cn 10))), (q_15, .inl (cI, 4, .inl (cn 10))), (q_16, .inl (cI, 4, .inl (cn (-1)))), (q_12, .inl (cI, 4, .inl (cn 0))), (q_13, .inl (cI, 4, .inl (cn 0))), (q_17, .inl (cI, 4, .inl (cn 110))), (q_116, .inl (cA_117, 1, .inr (.inl cnL)))]) [0, 1, 2, 3, 6, 7, 8, 4, 5, 9, 17] rfl
    have hDc := hD.sub (ws' := [(q_1, .inr (12, [.ref q_3, .ref q_32, .ref q_61])), (q_3, .inr (4, [.ref q_4, .ref q_10, .ref q_18, .ref q_21, .ref q_27, .ref q_31, .int 0, .int 0, .long 0])), (q_10, .inr (10, [.ref q_11, .ref q_14, .ref q_15, .ref q_16, .ref q_12, .ref q_13, .ref q_17, .int 0, .int 0])), (q_11, .inl (cI, 4, .inl (cn 0))), (q_14, .inl (cI, 4, .inl (cn 10))), (q_15, .inl (cI, 4, .inl (cn 10))), (q_16, .inl (cI, 4, .inl (cn (-1)))), (q_12, .inl (cI, 4, .inl (cn 0))), (q_13, .inl (cI, 4, .inl (cn 0))), (q_17, .inl (cI, 4, .inl (cn 110))), (q_116, .inl (cA_117, 1, .inr (.inl cnL)))]) [0, 1, 2, 3, 6, 7, 8, 4, 5, 9, 17] (by decide) rfl
    have hKc := hK.sub (tys' := [(cI, .int), (cA_117, .long)]) [0, 3] rfl
    have hFc := va_free (wc := [(q_1, .inr (12, [.ref q_3, .ref q_32, .ref q_61])), (q_3, .inr (4, [.ref q_4, .ref q_10, .ref q_18, .ref q_21, .ref q_27, .ref q_31, .int 0, .int 0, .long 0])), (q_10, .inr (10, [.ref q_11, .ref q_14, .ref q_15, .ref q_16, .ref q_12, .ref q_13, .ref q_17, .int 0, .int 0])), (q_11, .inl (cI, 4, .inl (cn 0))), (q_14, .inl (cI, 4, .inl (cn 10))), (q_15, .inl (cI, 4, .inl (cn 10))), (q_16, .inl (cI, 4, .inl (cn (-1)))), (q_12, .inl (cI, 4, .inl (cn 0))), (q_13, .inl (cI, 4, .inl (cn 0))), (q_17, .inl (cI, 4, .inl (cn 110))), (q_116, .inl (cA_117, 1, .inr (.inl cnL)))]) hD hS hA [0, 1, 2, 3, 6, 7, 8, 4, 5, 9, 17] rfl
    refine vx_calli (vx_runSX (As := [.ref q_1, .int (xs 1), .int 0, .ref q_116]) (rest := []) ⟨hx, hb, hml, hown, hts⟩ (c_L_start l hl9 dC dI g q_1 q_32 q_61 q_3 q_4 q_10 q_11 q_14 q_15 q_16 q_12 q_13 q_17 q_18 q_21 q_27 q_31 cI (xs 1) 0 cnL q_116 cA_117 H.size) (vx_cwSW 4 hts gL_law_L_start rfl rfl rfl (by decide +kernel) ⟨Nat.le_of_ble_eq_true rfl, Nat.le_of_ble_eq_true rfl⟩) ⟨wIn_blind, wIn_at hPc hKc hDc hG hS hFc⟩ rfl rfl hl.1 rfl (lv_room (Nat.le_of_ble_eq_true rfl)) dL_law_586 ⟨Nat.le_of_ble_eq_true rfl, Nat.le_of_ble_eq_true rfl⟩) hS (fun q _ h => hFc q h) hFc (fun q _ h => hFc q h) (fun E9 ce9 q9 u9 t H1 locs ht hvm hx9 hB9 hz1 hk1 hS hce hcv hcl => False.elim hx9) (fun r_120 u t H1 locs ht hvm hw hB hz1 hk1 hS => ?_)
    obtain ⟨v_121, rfl⟩ : ∃ z, z = u := ⟨_, rfl⟩
    obtain ⟨hP1, hK1, hD1⟩ := hB
    rw [ht] at hP1
    obtain ⟨hP, hD⟩ := va_join (wr := [(q_90, .inr (16, [.ref q_97, .ref q_103, .ref q_113, .ref q_92, .ref q_93, .int 0, .int 0, .int 0, .int 105, .int 0, .int 0, .int 0, .int (-1), .int 0, .int 0, .int 0, .int 0, .int 0, .int 0, .int 0, .long 0, .int 0, .int 0])), (q_100, .inr (15, [.int 0, .int 10, .int 10, .int 114, .int 0, .int 0, .int (-1), .int 0, .int 110, .int 0])), (q_101, .inr (15, [.int 0, .int 10, .int 10, .int 114, .int 0, .int 0, .int (-1), .int 0, .int 110, .int 0])), (q_102, .inr (15, [.int 0, .int 10, .int 10, .int 114, .int 0, .int 0, .int (-1), .int 0, .int 110, .int 0])), (q_103, .inr (3, [.int 4, .ref q_104, .int 4])), (q_104, .inl (cO, 10, .inr (.inr (.inr (.inr (va_up (va_up (va_up (va_up nn 0 (some q_100)) 1 (some q_101)) 2 (some q_102)) 3 (some q_105))))))), (q_105, .inr (15, [.int 0, .int 10, .int 10, .int 114, .int 0, .int 0, .int (-1), .int 0, .int 110, .int 0]))]) (w1 := [(q_116, .inl (cA_117, 1, .inr (.inl v_121)))]) hP hD [0, 1, 2, 3, 6, 7, 8, 4, 5, 9, 17] [10, 11, 12, 13, 14, 15, 16] rfl rfl (by decide) (by decide) hk1 hFc hP1 hD1
    generalize H1 = H at hP hS ⊢
    have hP : va_P (dC, dI) vwCl [(q_90, .inr (16, [.ref q_97, .ref q_103, .ref q_113, .ref q_92, .ref q_93, .int 0, .int 0, .int 0, .int 105, .int 0, .int 0, .int 0, .int (-1), .int 0, .int 0, .int 0, .int 0, .int 0, .int 0, .int 0, .long 0, .int 0, .int 0])), (q_100, .inr (15, [.int 0, .int 10, .int 10, .int 114, .int 0, .int 0, .int (-1), .int 0, .int 110, .int 0])), (q_101, .inr (15, [.int 0, .int 10, .int 10, .int 114, .int 0, .int 0, .int (-1), .int 0, .int 110, .int 0])), (q_102, .inr (15, [.int 0, .int 10, .int 10, .int 114, .int 0, .int 0, .int (-1), .int 0, .int 110, .int 0])), (q_103, .inr (3, [.int 4, .ref q_104, .int 4])), (q_104, .inl (cO, 10, .inr (.inr (.inr (.inr (va_up (va_up (va_up (va_up nn 0 (some q_100)) 1 (some q_101)) 2 (some q_102)) 3 (some q_105))))))), (q_105, .inr (15, [.int 0, .int 10, .int 10, .int 114, .int 0, .int 0, .int (-1), .int 0, .int 110, .int 0])), (q_116, .inl (cA_117, 1, .inr (.inl v_121)))] H := hP
    have hD : va_D A [(q_90, .inr (16, [.ref q_97, .ref q_103, .ref q_113, .ref q_92, .ref q_93, .int 0, .int 0, .int 0, .int 105, .int 0, .int 0, .int 0, .int (-1), .int 0, .int 0, .int 0, .int 0, .int 0, .int 0, .int 0, .long 0, .int 0, .int 0])), (q_100, .inr (15, [.int 0, .int 10, .int 10, .int 114, .int 0, .int 0, .int (-1), .int 0, .int 110, .int 0])), (q_101, .inr (15, [.int 0, .int 10, .int 10, .int 114, .int 0, .int 0, .int (-1), .int 0, .int 110, .int 0])), (q_102, .inr (15, [.int 0, .int 10, .int 10, .int 114, .int 0, .int 0, .int (-1), .int 0, .int 110, .int 0])), (q_103, .inr (3, [.int 4, .ref q_104, .int 4])), (q_104, .inl (cO, 10, .inr (.inr (.inr (.inr (va_up (va_up (va_up (va_up nn 0 (some q_100)) 1 (some q_101)) 2 (some q_102)) 3 (some q_105))))))), (q_105, .inr (15, [.int 0, .int 10, .int 10, .int 114, .int 0, .int 0, .int (-1), .int 0, .int 110, .int 0])), (q_116, .inl (cA_117, 1, .inr (.inl v_121)))] := hD
    refine lt_ci (y := sp_X8_start (xs 1)) (hw.1) ?_
    have hv_122 : sp_X8_start (xs 1) = 0 → v_121 0 = 0 := hw.2
    refine W.widen (k := 116) (n := 1860) (Nat.le_of_ble_eq_true rfl) (Nat.le_of_ble_eq_true rfl) ?_
    refine lv_istore (lv' := [(6, .int (sp_X8_start (xs 1))), (5, .int 0), (4, .ref q_118), (3, .ref q_116), (2, .ref q_90), (1, .ref q_1), (0, .ref b)]) hx hb dL_law_589 hl (by decide) rfl (fun ls hl => ?_)
    refine lv_aload_n hx hb dL_law_591 rfl (lv_at hl 4 rfl) ?_
    refine lv_aload_n hx hb dL_law_592 rfl (lv_at hl 6 rfl) ?_
    refine lv_iload hx hb dL_law_593 (lv_at hl 1 rfl) ?_
    refine lv_iconst (v := 1) hx hb dL_law_595 (by decide) ?_
    refine lv_iadd hx hb dL_law_596 ?_
    refine lt_ci (y := 1) (by first | rfl | decide) ?_
    refine va_sld hx hb hX hbl hbA hS (by unfold vp_in; decide) dL_law_597 ?_
    refine lt_ci (y := (xs 1)) rfl ?_
    refine lv_aload_n hx hb dL_law_598 rfl (lv_at hl 6 rfl) ?_
    refine lv_iload hx hb dL_law_599 (lv_at hl 1 rfl) ?_
    refine lv_iconst (v := 2) hx hb dL_law_601 (by decide) ?_
    refine lv_iadd hx hb dL_law_602 ?_
    refine lt_ci (y := 2) (by first | rfl | decide) ?_
    refine va_sld hx hb hX hbl hbA hS (by unfold vp_in; decide) dL_law_603 ?_
    refine lt_ci (y := (xs 2)) rfl ?_
    refine lv_if_eq (tgt := 611) hx hb dL_law_604 (by decide) (fun _ => ?_) (fun c => absurd (c_577) c)
    refine lv_iconst (v := 0) hx hb dL_law_611 (by decide) ?_
    have hPc := hP.sub (ws' := [(q_90, .inr (16, [.ref q_97, .ref q_103, .ref q_113, .ref q_92, .ref q_93, .int 0, .int 0, .int 0, .int 105, .int 0, .int 0, .int 0, .int (-1), .int 0, .int 0, .int 0, .int 0, .int 0, .int 0, .int 0, .long 0, .int 0, .int 0])), (q_103, .inr (3, [.int 4, .ref q_104, .int 4])), (q_104, .inl (cO, 10, .inr (.inr (.inr (.inr (va_up (va_up (va_up (va_up nn 0 (some q_100)) 1 (some q_101)) 2 (some q_102)) 3 (some q_105))))))), (q_100, .inr (15, [.int 0, .int 10, .int 10, .int 114, .int 0, .int 0, .int (-1), .int 0, .int 110, .int 0])), (q_101, .inr (15, [.int 0, .int 10, .int 10, .int 114, .int 0, .int 0, .int (-1), .int 0, .int 110, .int 0])), (q_102, .inr (15, [.int 0, .int 10, .int 10, .int 114, .int 0, .int 0, .int (-1), .int 0, .int 110, .int 0])), (q_105, .inr (15, [.int 0, .int 10, .int 10, .int 114, .int 0, .int 0, .int (-1), .int 0, .int 110, .int 0]))]) [0, 4, 5, 1, 2, 3, 6] rfl
    have hDc := hD.sub (ws' := [(q_90, .inr (16, [.ref q_97, .ref q_103, .ref q_113, .ref q_92, .ref q_93, .int 0, .int 0, .int 0, .int 105, .int 0, .int 0, .int 0, .int (-1), .int 0, .int 0, .int 0, .int 0, .int 0, .int 0, .int 0, .long 0, .int 0, .int 0])), (q_103, .inr (3, [.int 4, .ref q_104, .int 4])), (q_104, .inl (cO, 10, .inr (.inr (.inr (.inr (va_up (va_up (va_up (va_up nn 0 (some q_100)) 1 (some q_101)) 2 (some q_102)) 3 (some q_105))))))), (q_100, .inr (15, [.int 0, .int 10, .int 10, .int 114, .int 0, .int 0, .int (-1), .int 0, .int 110, .int 0])), (q_101, .inr (15, [.int 0, .int 10, .int 10, .int 114, .int 0, .int 0, .int (-1), .int 0, .int 110, .int 0])), (q_102, .inr (15, [.int 0, .int 10, .int 10, .int 114, .int 0, .int 0, .int (-1), .int 0, .int 110, .int 0])), (q_105, .inr (15, [.int 0, .int 10, .int 10, .int 114, .int 0, .int 0, .int (-1), .int 0, .int 110, .int 0]))]) [0, 4, 5, 1, 2, 3, 6] (by decide) rfl
    have hKc := hK.sub (tys' := [(cI, .int), (cZ, .boolean), (cO, .object "java/lang/Object")]) [0, 1, 2] rfl
    have hFc := va_free (wc := [(q_90, .inr (16, [.ref q_97, .ref q_103, .ref q_113, .ref q_92, .ref q_93, .int 0, .int 0, .int 0, .int 105, .int 0, .int 0, .int 0, .int (-1), .int 0, .int 0, .int 0, .int 0, .int 0, .int 0, .int 0, .long 0, .int 0, .int 0])), (q_103, .inr (3, [.int 4, .ref q_104, .int 4])), (q_104, .inl (cO, 10, .inr (.inr (.inr (.inr (va_up (va_up (va_up (va_up nn 0 (some q_100)) 1 (some q_101)) 2 (some q_102)) 3 (some q_105))))))), (q_100, .inr (15, [.int 0, .int 10, .int 10, .int 114, .int 0, .int 0, .int (-1), .int 0, .int 110, .int 0])), (q_101, .inr (15, [.int 0, .int 10, .int 10, .int 114, .int 0, .int 0, .int (-1), .int 0, .int 110, .int 0])), (q_102, .inr (15, [.int 0, .int 10, .int 10, .int 114, .int 0, .int 0, .int (-1), .int 0, .int 110, .int 0])), (q_105, .inr (15, [.int 0, .int 10, .int 10, .int 114, .int 0, .int 0, .int (-1), .int 0, .int 110, .int 0]))]) hD hS hA [0, 4, 5, 1, 2, 3, 6] rfl
    refine va_calli (va_runV (As := [.int (xs 1), .int 0]) (rest := []) ⟨hx, hb, hml, hown, hts⟩ (c_X12_start l dC dI g q_90 q_92 q_93 q_97 q_103 q_104 q_100 q_101 q_102 q_105 q_113 cI cZ cO 0 (xs 1) 0 H.size (by decide) (by decide)) (cwV 2 hts gL_law_X12_start rfl rfl rfl (by decide +kernel) ⟨Nat.le_of_ble_eq_true rfl, Nat.le_of_ble_eq_true rfl⟩) ⟨wIn_blind, va_recv hK hP (ci := 16) (q0 := 0) rfl rfl, wIn_at hPc hKc hDc hG hS hFc⟩ rfl rfl hl.1 rfl (lv_room (Nat.le_of_ble_eq_true rfl)) dL_law_612 ⟨Nat.le_of_ble_eq_true rfl, Nat.le_of_ble_eq_true rfl⟩) hS (fun q _ h => hFc q h) hFc (fun r_123 u t H1 locs ht hvm hw hB hz1 hk1 hS => ?_)
    obtain ⟨v_124, rfl⟩ : ∃ z, z = u := ⟨_, rfl⟩
    have hw : v_124 = mp_X12_start (xs 1) ∧ (mp_X12_start (xs 1) = 0 → r_123 = 0) := hw
    obtain ⟨hm9, hv_125⟩ := hw
    subst hm9
    obtain ⟨hP1, hK1, hD1⟩ := hB
    rw [ht] at hP1
    obtain ⟨hP, hD⟩ := va_join (wr := [(q_116, .inl (cA_117, 1, .inr (.inl v_121)))]) (w1 := [(q_90, .inr (16, [.ref q_97, .ref q_103, .ref q_113, .ref q_92, .ref q_93, .int 0, .int 0, .int 0, .int 105, .int 0, .int 0, .int 0, .int (-1), .int 0, .int 0, .int 0, .int 0, .int 0, .int 0, .int 0, .long 0, .int 0, .int (mp_X12_start (xs 1))]))]) hP hD [0, 4, 5, 1, 2, 3, 6] [7] rfl rfl (by decide) (by decide) hk1 hFc hP1 hD1
    generalize H1 = H at hP hS ⊢
    have hP : va_P (dC, dI) vwCl [(q_116, .inl (cA_117, 1, .inr (.inl v_121))), (q_90, .inr (16, [.ref q_97, .ref q_103, .ref q_113, .ref q_92, .ref q_93, .int 0, .int 0, .int 0, .int 105, .int 0, .int 0, .int 0, .int (-1), .int 0, .int 0, .int 0, .int 0, .int 0, .int 0, .int 0, .long 0, .int 0, .int (mp_X12_start (xs 1))]))] H := hP
    have hD : va_D A [(q_116, .inl (cA_117, 1, .inr (.inl v_121))), (q_90, .inr (16, [.ref q_97, .ref q_103, .ref q_113, .ref q_92, .ref q_93, .int 0, .int 0, .int 0, .int 105, .int 0, .int 0, .int 0, .int (-1), .int 0, .int 0, .int 0, .int 0, .int 0, .int 0, .int 0, .long 0, .int 0, .int (mp_X12_start (xs 1))]))] := hD
    refine lv_istore (lv' := [(7, .int r_123), (6, .int (sp_X8_start (xs 1))), (5, .int 0), (4, .ref q_118), (3, .ref q_116), (2, .ref q_90), (1, .ref q_1), (0, .ref b)]) hx hb dL_law_615 hl (by decide) rfl (fun ls hl => ?_)
    refine lv_aload_n hx hb dL_law_617 rfl (lv_at hl 5 rfl) ?_
    have hPc := hP.sub (ws' := [(q_90, .inr (16, [.ref q_97, .ref q_103, .ref q_113, .ref q_92, .ref q_93, .int 0, .int 0, .int 0, .int 105, .int 0, .int 0, .int 0, .int (-1), .int 0, .int 0, .int 0, .int 0, .int 0, .int 0, .int 0, .long 0, .int 0, .int (mp_X12_start (xs 1))]))]) [1] rfl
    have hDc := hD.sub (ws' := [(q_90, .inr (16, [.ref q_97, .ref q_103, .ref q_113, .ref q_92, .ref q_93, .int 0, .int 0, .int 0, .int 105, .int 0, .int 0, .int 0, .int (-1), .int 0, .int 0, .int 0, .int 0, .int 0, .int 0, .int 0, .long 0, .int 0, .int (mp_X12_start (xs 1))]))]) [1] (by decide) rfl
    have hKc := hK.sub (tys' := [(cI, .int), (cZ, .boolean), (cO, .object "java/lang/Object")]) [0, 1, 2] rfl
    have hFc := va_free (wc := [(q_90, .inr (16, [.ref q_97, .ref q_103, .ref q_113, .ref q_92, .ref q_93, .int 0, .int 0, .int 0, .int 105, .int 0, .int 0, .int 0, .int (-1), .int 0, .int 0, .int 0, .int 0, .int 0, .int 0, .int 0, .long 0, .int 0, .int (mp_X12_start (xs 1))]))]) hD hS hA [1] rfl
    refine va_calli (va_runV (As := []) (rest := []) ⟨hx, hb, hml, hown, hts⟩ (c_X12_thrown l dC dI g q_90 (.ref q_97) (.ref q_103) (.ref q_113) (.ref q_92) (.ref q_93) (.int 0) (.int 0) (.int 0) (.int 105) (.int 0) (.int 0) (.int 0) (.int (-1)) (.int 0) (.int 0) (.int 0) (.int 0) (.int 0) (.int 0) (.int 0) (.long 0) (.int 0) cI cZ cO (mp_X12_start (xs 1)) H.size) (cwV 0 hts gL_law_X12_thrown rfl rfl rfl (by decide +kernel) ⟨Nat.le_of_ble_eq_true rfl, Nat.le_of_ble_eq_true rfl⟩) ⟨wIn_blind, va_recv hK hP (ci := 16) (q0 := 1) rfl rfl, wIn_at hPc hKc hDc hG hS hFc⟩ rfl rfl hl.1 rfl (lv_room (Nat.le_of_ble_eq_true rfl)) dL_law_618 ⟨Nat.le_of_ble_eq_true rfl, Nat.le_of_ble_eq_true rfl⟩) hS (fun q _ h => hFc q h) hFc (fun r_126 u t H1 locs ht hvm hw hB hz1 hk1 hS => ?_)
    obtain ⟨hP1, hK1, hD1⟩ := hB
    rw [ht] at hP1
    obtain ⟨hP, hD⟩ := va_join (wr := [(q_116, .inl (cA_117, 1, .inr (.inl v_121)))]) (w1 := [(q_90, .inr (16, [.ref q_97, .ref q_103, .ref q_113, .ref q_92, .ref q_93, .int 0, .int 0, .int 0, .int 105, .int 0, .int 0, .int 0, .int (-1), .int 0, .int 0, .int 0, .int 0, .int 0, .int 0, .int 0, .long 0, .int 0, .int (mp_X12_start (xs 1))]))]) hP hD [1] [0] rfl rfl (by decide) (by decide) hk1 hFc hP1 hD1
    generalize H1 = H at hP hS ⊢
    have hP : va_P (dC, dI) vwCl [(q_116, .inl (cA_117, 1, .inr (.inl v_121))), (q_90, .inr (16, [.ref q_97, .ref q_103, .ref q_113, .ref q_92, .ref q_93, .int 0, .int 0, .int 0, .int 105, .int 0, .int 0, .int 0, .int (-1), .int 0, .int 0, .int 0, .int 0, .int 0, .int 0, .int 0, .long 0, .int 0, .int (mp_X12_start (xs 1))]))] H := hP
    have hD : va_D A [(q_116, .inl (cA_117, 1, .inr (.inl v_121))), (q_90, .inr (16, [.ref q_97, .ref q_103, .ref q_113, .ref q_92, .ref q_93, .int 0, .int 0, .int 0, .int 105, .int 0, .int 0, .int 0, .int (-1), .int 0, .int 0, .int 0, .int 0, .int 0, .int 0, .int 0, .long 0, .int 0, .int (mp_X12_start (xs 1))]))] := hD
    refine lt_ci (y := (mp_X12_start (xs 1))) hw ?_
    refine lt_ci (y := sp_X8_start (xs 1)) (sm_X12_start _) ?_
    refine lv_iload hx hb dL_law_621 (lv_at hl 1 rfl) ?_
    refine lv_icmp_eq (tgt := 628) hx hb dL_law_623 (by decide) (fun _ => ?_) (fun c => absurd (rfl) c)
    refine lv_iload hx hb dL_law_628 (lv_at hl 1 rfl) ?_
    refine lv_if_ne (tgt := 652) hx hb dL_law_630 (by decide) (fun c_630 => ?_) (fun c_630 => ?_)
    · refine lv_goto (tgt := 1976) hx hb dL_law_652 (by decide) ?_
      refine lv_iinc (v := 6) (lv' := [(5, .int 6), (7, .int r_123), (6, .int (sp_X8_start (xs 1))), (4, .ref q_118), (3, .ref q_116), (2, .ref q_90), (1, .ref q_1), (0, .ref b)]) hx hb dL_law_1976 hl (k := 2) rfl (by first | rfl | decide) (by decide) rfl (fun ls hl => ?_)
      refine lv_goto (tgt := 28) hx hb dL_law_1979 (by decide) ?_
      refine lv_iload hx hb dL_law_28 (lv_at hl 0 rfl) ?_
      refine lv_aload_n hx hb dL_law_30 rfl (lv_at hl 7 rfl) ?_
      refine va_slen hx hb hX hbl hbA hS dL_law_31 ?_
      refine lt_ci (y := 6) rfl ?_
      refine lv_bipush (v := 6) hx hb dL_law_32 (by decide) ?_
      refine lv_isub hx hb dL_law_34 ?_
      refine lt_ci (y := 0) (by first | rfl | decide) ?_
      refine lv_icmp_gt (tgt := 1982) hx hb dL_law_35 (by decide) (fun _ => ?_) (fun c => absurd (by decide) c)
      refine lv_iconst (v := 1) hx hb dL_law_1982 (by decide) ?_
      refine W.widen (k := 735603) (n := 6895256) (Nat.le_of_ble_eq_true rfl) (Nat.le_of_ble_eq_true rfl) ?_
      refine va_forget (fun q hq => by have h9 := hS.2.2 q hq; rw [hAe] at h9; exact h9) ?_
      exact W.base (lw_ret (Drawn.sameBut.refl s.drawn lw_cs) hx hb hr hlocks dL_law_1983)
    · refine lv_aload_n hx hb dL_law_633 rfl (lv_at hl 4 rfl) ?_
      refine lv_iconst (v := 0) hx hb dL_law_634 (by decide) ?_
      refine va_lald (D := (dC, dI)) hx hb hK hP 0 3 rfl rfl (by unfold vp_in; decide) dL_law_635 ?_
      refine lt_cl (y := 0) (show _ = (0 : Int64) from hv_122 c_630) ?_
      refine lv_iload hx hb dL_law_636 (lv_at hl 0 rfl) ?_
      refine lt_ci (y := 0) (hv_125 ((sm_X12_start _).trans c_630)) ?_
      refine lv_if_eq (tgt := 645) hx hb dL_law_638 (by decide) (fun _ => ?_) (fun c => absurd (by decide) c)
      refine lv_lconst (v := 0) hx hb dL_law_645 rfl ?_
      refine W.lcmp hx hb dL_law_646 ?_
      refine lt_ci (y := 0) (by first | rfl | decide) ?_
      refine lv_if_eq (tgt := 652) hx hb dL_law_647 (by decide) (fun _ => ?_) (fun c => absurd (by decide) c)
      refine lv_goto (tgt := 1976) hx hb dL_law_652 (by decide) ?_
      refine lv_iinc (v := 6) (lv' := [(5, .int 6), (7, .int r_123), (6, .int (sp_X8_start (xs 1))), (4, .ref q_118), (3, .ref q_116), (2, .ref q_90), (1, .ref q_1), (0, .ref b)]) hx hb dL_law_1976 hl (k := 2) rfl (by first | rfl | decide) (by decide) rfl (fun ls hl => ?_)
      refine lv_goto (tgt := 28) hx hb dL_law_1979 (by decide) ?_
      refine lv_iload hx hb dL_law_28 (lv_at hl 0 rfl) ?_
      refine lv_aload_n hx hb dL_law_30 rfl (lv_at hl 7 rfl) ?_
      refine va_slen hx hb hX hbl hbA hS dL_law_31 ?_
      refine lt_ci (y := 6) rfl ?_
      refine lv_bipush (v := 6) hx hb dL_law_32 (by decide) ?_
      refine lv_isub hx hb dL_law_34 ?_
      refine lt_ci (y := 0) (by first | rfl | decide) ?_
      refine lv_icmp_gt (tgt := 1982) hx hb dL_law_35 (by decide) (fun _ => ?_) (fun c => absurd (by decide) c)
      refine lv_iconst (v := 1) hx hb dL_law_1982 (by decide) ?_
      refine W.widen (k := 735603) (n := 6895256) (Nat.le_of_ble_eq_true rfl) (Nat.le_of_ble_eq_true rfl) ?_
      refine va_forget (fun q hq => by have h9 := hS.2.2 q hq; rw [hAe] at h9; exact h9) ?_
      exact W.base (lw_ret (Drawn.sameBut.refl s.drawn lw_cs) hx hb hr hlocks dL_law_1983)
  · refine lv_iconst (v := 1) hx hb dL_law_580 (by decide) ?_
    refine lv_goto (tgt := 585) hx hb dL_law_581 (by decide) ?_
    refine lv_aload_n hx hb dL_law_585 rfl (lv_at hl 2 rfl) ?_
    have hPc := hP.sub (ws' := [(q_1, .inr (12, [.ref q_3, .ref q_32, .ref q_61])), (q_3, .inr (4, [.ref q_4, .ref q_10, .ref q_18, .ref q_21, .ref q_27, .ref q_31, .int 0, .int 0, .long 0])), (q_10, .inr (10, [.ref q_11, .ref q_14, .ref q_15, .ref q_16, .ref q_12, .ref q_13, .ref q_17, .int 0, .int 0])), (q_11, .inl (cI, 4, .inl (cn 0))), (q_14, .inl (cI, 4, .inl (cn 10))), (q_15, .inl (cI, 4, .inl (cn 10))), (q_16, .inl (cI, 4, .inl (cn (-1)))), (q_12, .inl (cI, 4, .inl (cn 0))), (q_13, .inl (cI, 4, .inl (cn 0))), (q_17, .inl (cI, 4, .inl (cn 110))), (q_116, .inl (cA_117, 1, .inr (.inl cnL)))]) [0, 1, 2, 3, 6, 7, 8, 4, 5, 9, 17] rfl
    have hDc := hD.sub (ws' := [(q_1, .inr (12, [.ref q_3, .ref q_32, .ref q_61])), (q_3, .inr (4, [.ref q_4, .ref q_10, .ref q_18, .ref q_21, .ref q_27, .ref q_31, .int 0, .int 0, .long 0])), (q_10, .inr (10, [.ref q_11, .ref q_14, .ref q_15, .ref q_16, .ref q_12, .ref q_13, .ref q_17, .int 0, .int 0])), (q_11, .inl (cI, 4, .inl (cn 0))), (q_14, .inl (cI, 4, .inl (cn 10))), (q_15, .inl (cI, 4, .inl (cn 10))), (q_16, .inl (cI, 4, .inl (cn (-1)))), (q_12, .inl (cI, 4, .inl (cn 0))), (q_13, .inl (cI, 4, .inl (cn 0))), (q_17, .inl (cI, 4, .inl (cn 110))), (q_116, .inl (cA_117, 1, .inr (.inl cnL)))]) [0, 1, 2, 3, 6, 7, 8, 4, 5, 9, 17] (by decide) rfl
    have hKc := hK.sub (tys' := [(cI, .int), (cA_117, .long)]) [0, 3] rfl
    have hFc := va_free (wc := [(q_1, .inr (12, [.ref q_3, .ref q_32, .ref q_61])), (q_3, .inr (4, [.ref q_4, .ref q_10, .ref q_18, .ref q_21, .ref q_27, .ref q_31, .int 0, .int 0, .long 0])), (q_10, .inr (10, [.ref q_11, .ref q_14, .ref q_15, .ref q_16, .ref q_12, .ref q_13, .ref q_17, .int 0, .int 0])), (q_11, .inl (cI, 4, .inl (cn 0))), (q_14, .inl (cI, 4, .inl (cn 10))), (q_15, .inl (cI, 4, .inl (cn 10))), (q_16, .inl (cI, 4, .inl (cn (-1)))), (q_12, .inl (cI, 4, .inl (cn 0))), (q_13, .inl (cI, 4, .inl (cn 0))), (q_17, .inl (cI, 4, .inl (cn 110))), (q_116, .inl (cA_117, 1, .inr (.inl cnL)))]) hD hS hA [0, 1, 2, 3, 6, 7, 8, 4, 5, 9, 17] rfl
    refine vx_calli (vx_runSX (As := [.ref q_1, .int (xs 1), .int 1, .ref q_116]) (rest := []) ⟨hx, hb, hml, hown, hts⟩ (c_L_start l hl9 dC dI g q_1 q_32 q_61 q_3 q_4 q_10 q_11 q_14 q_15 q_16 q_12 q_13 q_17 q_18 q_21 q_27 q_31 cI (xs 1) 1 cnL q_116 cA_117 H.size) (vx_cwSW 4 hts gL_law_L_start rfl rfl rfl (by decide +kernel) ⟨Nat.le_of_ble_eq_true rfl, Nat.le_of_ble_eq_true rfl⟩) ⟨wIn_blind, wIn_at hPc hKc hDc hG hS hFc⟩ rfl rfl hl.1 rfl (lv_room (Nat.le_of_ble_eq_true rfl)) dL_law_586 ⟨Nat.le_of_ble_eq_true rfl, Nat.le_of_ble_eq_true rfl⟩) hS (fun q _ h => hFc q h) hFc (fun q _ h => hFc q h) (fun E9 ce9 q9 u9 t H1 locs ht hvm hx9 hB9 hz1 hk1 hS hce hcv hcl => False.elim hx9) (fun r_127 u t H1 locs ht hvm hw hB hz1 hk1 hS => ?_)
    obtain ⟨v_128, rfl⟩ : ∃ z, z = u := ⟨_, rfl⟩
    obtain ⟨hP1, hK1, hD1⟩ := hB
    rw [ht] at hP1
    obtain ⟨hP, hD⟩ := va_join (wr := [(q_90, .inr (16, [.ref q_97, .ref q_103, .ref q_113, .ref q_92, .ref q_93, .int 0, .int 0, .int 0, .int 105, .int 0, .int 0, .int 0, .int (-1), .int 0, .int 0, .int 0, .int 0, .int 0, .int 0, .int 0, .long 0, .int 0, .int 0])), (q_100, .inr (15, [.int 0, .int 10, .int 10, .int 114, .int 0, .int 0, .int (-1), .int 0, .int 110, .int 0])), (q_101, .inr (15, [.int 0, .int 10, .int 10, .int 114, .int 0, .int 0, .int (-1), .int 0, .int 110, .int 0])), (q_102, .inr (15, [.int 0, .int 10, .int 10, .int 114, .int 0, .int 0, .int (-1), .int 0, .int 110, .int 0])), (q_103, .inr (3, [.int 4, .ref q_104, .int 4])), (q_104, .inl (cO, 10, .inr (.inr (.inr (.inr (va_up (va_up (va_up (va_up nn 0 (some q_100)) 1 (some q_101)) 2 (some q_102)) 3 (some q_105))))))), (q_105, .inr (15, [.int 0, .int 10, .int 10, .int 114, .int 0, .int 0, .int (-1), .int 0, .int 110, .int 0]))]) (w1 := [(q_116, .inl (cA_117, 1, .inr (.inl v_128)))]) hP hD [0, 1, 2, 3, 6, 7, 8, 4, 5, 9, 17] [10, 11, 12, 13, 14, 15, 16] rfl rfl (by decide) (by decide) hk1 hFc hP1 hD1
    generalize H1 = H at hP hS ⊢
    have hP : va_P (dC, dI) vwCl [(q_90, .inr (16, [.ref q_97, .ref q_103, .ref q_113, .ref q_92, .ref q_93, .int 0, .int 0, .int 0, .int 105, .int 0, .int 0, .int 0, .int (-1), .int 0, .int 0, .int 0, .int 0, .int 0, .int 0, .int 0, .long 0, .int 0, .int 0])), (q_100, .inr (15, [.int 0, .int 10, .int 10, .int 114, .int 0, .int 0, .int (-1), .int 0, .int 110, .int 0])), (q_101, .inr (15, [.int 0, .int 10, .int 10, .int 114, .int 0, .int 0, .int (-1), .int 0, .int 110, .int 0])), (q_102, .inr (15, [.int 0, .int 10, .int 10, .int 114, .int 0, .int 0, .int (-1), .int 0, .int 110, .int 0])), (q_103, .inr (3, [.int 4, .ref q_104, .int 4])), (q_104, .inl (cO, 10, .inr (.inr (.inr (.inr (va_up (va_up (va_up (va_up nn 0 (some q_100)) 1 (some q_101)) 2 (some q_102)) 3 (some q_105))))))), (q_105, .inr (15, [.int 0, .int 10, .int 10, .int 114, .int 0, .int 0, .int (-1), .int 0, .int 110, .int 0])), (q_116, .inl (cA_117, 1, .inr (.inl v_128)))] H := hP
    have hD : va_D A [(q_90, .inr (16, [.ref q_97, .ref q_103, .ref q_113, .ref q_92, .ref q_93, .int 0, .int 0, .int 0, .int 105, .int 0, .int 0, .int 0, .int (-1), .int 0, .int 0, .int 0, .int 0, .int 0, .int 0, .int 0, .long 0, .int 0, .int 0])), (q_100, .inr (15, [.int 0, .int 10, .int 10, .int 114, .int 0, .int 0, .int (-1), .int 0, .int 110, .int 0])), (q_101, .inr (15, [.int 0, .int 10, .int 10, .int 114, .int 0, .int 0, .int (-1), .int 0, .int 110, .int 0])), (q_102, .inr (15, [.int 0, .int 10, .int 10, .int 114, .int 0, .int 0, .int (-1), .int 0, .int 110, .int 0])), (q_103, .inr (3, [.int 4, .ref q_104, .int 4])), (q_104, .inl (cO, 10, .inr (.inr (.inr (.inr (va_up (va_up (va_up (va_up nn 0 (some q_100)) 1 (some q_101)) 2 (some q_102)) 3 (some q_105))))))), (q_105, .inr (15, [.int 0, .int 10, .int 10, .int 114, .int 0, .int 0, .int (-1), .int 0, .int 110, .int 0])), (q_116, .inl (cA_117, 1, .inr (.inl v_128)))] := hD
    refine lt_ci (y := sp_X8_start (xs 1)) (hw.1) ?_
    have hv_129 : sp_X8_start (xs 1) = 0 → v_128 0 = 0 := hw.2
    refine W.widen (k := 116) (n := 1860) (Nat.le_of_ble_eq_true rfl) (Nat.le_of_ble_eq_true rfl) ?_
    refine lv_istore (lv' := [(6, .int (sp_X8_start (xs 1))), (5, .int 0), (4, .ref q_118), (3, .ref q_116), (2, .ref q_90), (1, .ref q_1), (0, .ref b)]) hx hb dL_law_589 hl (by decide) rfl (fun ls hl => ?_)
    refine lv_aload_n hx hb dL_law_591 rfl (lv_at hl 4 rfl) ?_
    refine lv_aload_n hx hb dL_law_592 rfl (lv_at hl 6 rfl) ?_
    refine lv_iload hx hb dL_law_593 (lv_at hl 1 rfl) ?_
    refine lv_iconst (v := 1) hx hb dL_law_595 (by decide) ?_
    refine lv_iadd hx hb dL_law_596 ?_
    refine lt_ci (y := 1) (by first | rfl | decide) ?_
    refine va_sld hx hb hX hbl hbA hS (by unfold vp_in; decide) dL_law_597 ?_
    refine lt_ci (y := (xs 1)) rfl ?_
    refine lv_aload_n hx hb dL_law_598 rfl (lv_at hl 6 rfl) ?_
    refine lv_iload hx hb dL_law_599 (lv_at hl 1 rfl) ?_
    refine lv_iconst (v := 2) hx hb dL_law_601 (by decide) ?_
    refine lv_iadd hx hb dL_law_602 ?_
    refine lt_ci (y := 2) (by first | rfl | decide) ?_
    refine va_sld hx hb hX hbl hbA hS (by unfold vp_in; decide) dL_law_603 ?_
    refine lt_ci (y := (xs 2)) rfl ?_
    refine lv_if_eq (tgt := 611) hx hb dL_law_604 (by decide) (fun c => absurd c (c_577)) (fun _ => ?_)
    refine lv_iconst (v := 1) hx hb dL_law_607 (by decide) ?_
    refine lv_goto (tgt := 612) hx hb dL_law_608 (by decide) ?_
    have hPc := hP.sub (ws' := [(q_90, .inr (16, [.ref q_97, .ref q_103, .ref q_113, .ref q_92, .ref q_93, .int 0, .int 0, .int 0, .int 105, .int 0, .int 0, .int 0, .int (-1), .int 0, .int 0, .int 0, .int 0, .int 0, .int 0, .int 0, .long 0, .int 0, .int 0])), (q_103, .inr (3, [.int 4, .ref q_104, .int 4])), (q_104, .inl (cO, 10, .inr (.inr (.inr (.inr (va_up (va_up (va_up (va_up nn 0 (some q_100)) 1 (some q_101)) 2 (some q_102)) 3 (some q_105))))))), (q_100, .inr (15, [.int 0, .int 10, .int 10, .int 114, .int 0, .int 0, .int (-1), .int 0, .int 110, .int 0])), (q_101, .inr (15, [.int 0, .int 10, .int 10, .int 114, .int 0, .int 0, .int (-1), .int 0, .int 110, .int 0])), (q_102, .inr (15, [.int 0, .int 10, .int 10, .int 114, .int 0, .int 0, .int (-1), .int 0, .int 110, .int 0])), (q_105, .inr (15, [.int 0, .int 10, .int 10, .int 114, .int 0, .int 0, .int (-1), .int 0, .int 110, .int 0]))]) [0, 4, 5, 1, 2, 3, 6] rfl
    have hDc := hD.sub (ws' := [(q_90, .inr (16, [.ref q_97, .ref q_103, .ref q_113, .ref q_92, .ref q_93, .int 0, .int 0, .int 0, .int 105, .int 0, .int 0, .int 0, .int (-1), .int 0, .int 0, .int 0, .int 0, .int 0, .int 0, .int 0, .long 0, .int 0, .int 0])), (q_103, .inr (3, [.int 4, .ref q_104, .int 4])), (q_104, .inl (cO, 10, .inr (.inr (.inr (.inr (va_up (va_up (va_up (va_up nn 0 (some q_100)) 1 (some q_101)) 2 (some q_102)) 3 (some q_105))))))), (q_100, .inr (15, [.int 0, .int 10, .int 10, .int 114, .int 0, .int 0, .int (-1), .int 0, .int 110, .int 0])), (q_101, .inr (15, [.int 0, .int 10, .int 10, .int 114, .int 0, .int 0, .int (-1), .int 0, .int 110, .int 0])), (q_102, .inr (15, [.int 0, .int 10, .int 10, .int 114, .int 0, .int 0, .int (-1), .int 0, .int 110, .int 0])), (q_105, .inr (15, [.int 0, .int 10, .int 10, .int 114, .int 0, .int 0, .int (-1), .int 0, .int 110, .int 0]))]) [0, 4, 5, 1, 2, 3, 6] (by decide) rfl
    have hKc := hK.sub (tys' := [(cI, .int), (cZ, .boolean), (cO, .object "java/lang/Object")]) [0, 1, 2] rfl
    have hFc := va_free (wc := [(q_90, .inr (16, [.ref q_97, .ref q_103, .ref q_113, .ref q_92, .ref q_93, .int 0, .int 0, .int 0, .int 105, .int 0, .int 0, .int 0, .int (-1), .int 0, .int 0, .int 0, .int 0, .int 0, .int 0, .int 0, .long 0, .int 0, .int 0])), (q_103, .inr (3, [.int 4, .ref q_104, .int 4])), (q_104, .inl (cO, 10, .inr (.inr (.inr (.inr (va_up (va_up (va_up (va_up nn 0 (some q_100)) 1 (some q_101)) 2 (some q_102)) 3 (some q_105))))))), (q_100, .inr (15, [.int 0, .int 10, .int 10, .int 114, .int 0, .int 0, .int (-1), .int 0, .int 110, .int 0])), (q_101, .inr (15, [.int 0, .int 10, .int 10, .int 114, .int 0, .int 0, .int (-1), .int 0, .int 110, .int 0])), (q_102, .inr (15, [.int 0, .int 10, .int 10, .int 114, .int 0, .int 0, .int (-1), .int 0, .int 110, .int 0])), (q_105, .inr (15, [.int 0, .int 10, .int 10, .int 114, .int 0, .int 0, .int (-1), .int 0, .int 110, .int 0]))]) hD hS hA [0, 4, 5, 1, 2, 3, 6] rfl
    refine va_calli (va_runV (As := [.int (xs 1), .int 1]) (rest := []) ⟨hx, hb, hml, hown, hts⟩ (c_X12_start l dC dI g q_90 q_92 q_93 q_97 q_103 q_104 q_100 q_101 q_102 q_105 q_113 cI cZ cO 0 (xs 1) 1 H.size (by decide) (by decide)) (cwV 2 hts gL_law_X12_start rfl rfl rfl (by decide +kernel) ⟨Nat.le_of_ble_eq_true rfl, Nat.le_of_ble_eq_true rfl⟩) ⟨wIn_blind, va_recv hK hP (ci := 16) (q0 := 0) rfl rfl, wIn_at hPc hKc hDc hG hS hFc⟩ rfl rfl hl.1 rfl (lv_room (Nat.le_of_ble_eq_true rfl)) dL_law_612 ⟨Nat.le_of_ble_eq_true rfl, Nat.le_of_ble_eq_true rfl⟩) hS (fun q _ h => hFc q h) hFc (fun r_130 u t H1 locs ht hvm hw hB hz1 hk1 hS => ?_)
    obtain ⟨v_131, rfl⟩ : ∃ z, z = u := ⟨_, rfl⟩
    have hw : v_131 = mp_X12_start (xs 1) ∧ (mp_X12_start (xs 1) = 0 → r_130 = 0) := hw
    obtain ⟨hm9, hv_132⟩ := hw
    subst hm9
    obtain ⟨hP1, hK1, hD1⟩ := hB
    rw [ht] at hP1
    obtain ⟨hP, hD⟩ := va_join (wr := [(q_116, .inl (cA_117, 1, .inr (.inl v_128)))]) (w1 := [(q_90, .inr (16, [.ref q_97, .ref q_103, .ref q_113, .ref q_92, .ref q_93, .int 0, .int 0, .int 0, .int 105, .int 0, .int 0, .int 0, .int (-1), .int 0, .int 0, .int 0, .int 0, .int 0, .int 0, .int 0, .long 0, .int 0, .int (mp_X12_start (xs 1))]))]) hP hD [0, 4, 5, 1, 2, 3, 6] [7] rfl rfl (by decide) (by decide) hk1 hFc hP1 hD1
    generalize H1 = H at hP hS ⊢
    have hP : va_P (dC, dI) vwCl [(q_116, .inl (cA_117, 1, .inr (.inl v_128))), (q_90, .inr (16, [.ref q_97, .ref q_103, .ref q_113, .ref q_92, .ref q_93, .int 0, .int 0, .int 0, .int 105, .int 0, .int 0, .int 0, .int (-1), .int 0, .int 0, .int 0, .int 0, .int 0, .int 0, .int 0, .long 0, .int 0, .int (mp_X12_start (xs 1))]))] H := hP
    have hD : va_D A [(q_116, .inl (cA_117, 1, .inr (.inl v_128))), (q_90, .inr (16, [.ref q_97, .ref q_103, .ref q_113, .ref q_92, .ref q_93, .int 0, .int 0, .int 0, .int 105, .int 0, .int 0, .int 0, .int (-1), .int 0, .int 0, .int 0, .int 0, .int 0, .int 0, .int 0, .long 0, .int 0, .int (mp_X12_start (xs 1))]))] := hD
    refine lv_istore (lv' := [(7, .int r_130), (6, .int (sp_X8_start (xs 1))), (5, .int 0), (4, .ref q_118), (3, .ref q_116), (2, .ref q_90), (1, .ref q_1), (0, .ref b)]) hx hb dL_law_615 hl (by decide) rfl (fun ls hl => ?_)
    refine lv_aload_n hx hb dL_law_617 rfl (lv_at hl 5 rfl) ?_
    have hPc := hP.sub (ws' := [(q_90, .inr (16, [.ref q_97, .ref q_103, .ref q_113, .ref q_92, .ref q_93, .int 0, .int 0, .int 0, .int 105, .int 0, .int 0, .int 0, .int (-1), .int 0, .int 0, .int 0, .int 0, .int 0, .int 0, .int 0, .long 0, .int 0, .int (mp_X12_start (xs 1))]))]) [1] rfl
    have hDc := hD.sub (ws' := [(q_90, .inr (16, [.ref q_97, .ref q_103, .ref q_113, .ref q_92, .ref q_93, .int 0, .int 0, .int 0, .int 105, .int 0, .int 0, .int 0, .int (-1), .int 0, .int 0, .int 0, .int 0, .int 0, .int 0, .int 0, .long 0, .int 0, .int (mp_X12_start (xs 1))]))]) [1] (by decide) rfl
    have hKc := hK.sub (tys' := [(cI, .int), (cZ, .boolean), (cO, .object "java/lang/Object")]) [0, 1, 2] rfl
    have hFc := va_free (wc := [(q_90, .inr (16, [.ref q_97, .ref q_103, .ref q_113, .ref q_92, .ref q_93, .int 0, .int 0, .int 0, .int 105, .int 0, .int 0, .int 0, .int (-1), .int 0, .int 0, .int 0, .int 0, .int 0, .int 0, .int 0, .long 0, .int 0, .int (mp_X12_start (xs 1))]))]) hD hS hA [1] rfl
    refine va_calli (va_runV (As := []) (rest := []) ⟨hx, hb, hml, hown, hts⟩ (c_X12_thrown l dC dI g q_90 (.ref q_97) (.ref q_103) (.ref q_113) (.ref q_92) (.ref q_93) (.int 0) (.int 0) (.int 0) (.int 105) (.int 0) (.int 0) (.int 0) (.int (-1)) (.int 0) (.int 0) (.int 0) (.int 0) (.int 0) (.int 0) (.int 0) (.long 0) (.int 0) cI cZ cO (mp_X12_start (xs 1)) H.size) (cwV 0 hts gL_law_X12_thrown rfl rfl rfl (by decide +kernel) ⟨Nat.le_of_ble_eq_true rfl, Nat.le_of_ble_eq_true rfl⟩) ⟨wIn_blind, va_recv hK hP (ci := 16) (q0 := 1) rfl rfl, wIn_at hPc hKc hDc hG hS hFc⟩ rfl rfl hl.1 rfl (lv_room (Nat.le_of_ble_eq_true rfl)) dL_law_618 ⟨Nat.le_of_ble_eq_true rfl, Nat.le_of_ble_eq_true rfl⟩) hS (fun q _ h => hFc q h) hFc (fun r_133 u t H1 locs ht hvm hw hB hz1 hk1 hS => ?_)
    obtain ⟨hP1, hK1, hD1⟩ := hB
    rw [ht] at hP1
    obtain ⟨hP, hD⟩ := va_join (wr := [(q_116, .inl (cA_117, 1, .inr (.inl v_128)))]) (w1 := [(q_90, .inr (16, [.ref q_97, .ref q_103, .ref q_113, .ref q_92, .ref q_93, .int 0, .int 0, .int 0, .int 105, .int 0, .int 0, .int 0, .int (-1), .int 0, .int 0, .int 0, .int 0, .int 0, .int 0, .int 0, .long 0, .int 0, .int (mp_X12_start (xs 1))]))]) hP hD [1] [0] rfl rfl (by decide) (by decide) hk1 hFc hP1 hD1
    generalize H1 = H at hP hS ⊢
    have hP : va_P (dC, dI) vwCl [(q_116, .inl (cA_117, 1, .inr (.inl v_128))), (q_90, .inr (16, [.ref q_97, .ref q_103, .ref q_113, .ref q_92, .ref q_93, .int 0, .int 0, .int 0, .int 105, .int 0, .int 0, .int 0, .int (-1), .int 0, .int 0, .int 0, .int 0, .int 0, .int 0, .int 0, .long 0, .int 0, .int (mp_X12_start (xs 1))]))] H := hP
    have hD : va_D A [(q_116, .inl (cA_117, 1, .inr (.inl v_128))), (q_90, .inr (16, [.ref q_97, .ref q_103, .ref q_113, .ref q_92, .ref q_93, .int 0, .int 0, .int 0, .int 105, .int 0, .int 0, .int 0, .int (-1), .int 0, .int 0, .int 0, .int 0, .int 0, .int 0, .int 0, .long 0, .int 0, .int (mp_X12_start (xs 1))]))] := hD
    refine lt_ci (y := (mp_X12_start (xs 1))) hw ?_
    refine lt_ci (y := sp_X8_start (xs 1)) (sm_X12_start _) ?_
    refine lv_iload hx hb dL_law_621 (lv_at hl 1 rfl) ?_
    refine lv_icmp_eq (tgt := 628) hx hb dL_law_623 (by decide) (fun _ => ?_) (fun c => absurd (rfl) c)
    refine lv_iload hx hb dL_law_628 (lv_at hl 1 rfl) ?_
    refine lv_if_ne (tgt := 652) hx hb dL_law_630 (by decide) (fun c_630 => ?_) (fun c_630 => ?_)
    · refine lv_goto (tgt := 1976) hx hb dL_law_652 (by decide) ?_
      refine lv_iinc (v := 6) (lv' := [(5, .int 6), (7, .int r_130), (6, .int (sp_X8_start (xs 1))), (4, .ref q_118), (3, .ref q_116), (2, .ref q_90), (1, .ref q_1), (0, .ref b)]) hx hb dL_law_1976 hl (k := 2) rfl (by first | rfl | decide) (by decide) rfl (fun ls hl => ?_)
      refine lv_goto (tgt := 28) hx hb dL_law_1979 (by decide) ?_
      refine lv_iload hx hb dL_law_28 (lv_at hl 0 rfl) ?_
      refine lv_aload_n hx hb dL_law_30 rfl (lv_at hl 7 rfl) ?_
      refine va_slen hx hb hX hbl hbA hS dL_law_31 ?_
      refine lt_ci (y := 6) rfl ?_
      refine lv_bipush (v := 6) hx hb dL_law_32 (by decide) ?_
      refine lv_isub hx hb dL_law_34 ?_
      refine lt_ci (y := 0) (by first | rfl | decide) ?_
      refine lv_icmp_gt (tgt := 1982) hx hb dL_law_35 (by decide) (fun _ => ?_) (fun c => absurd (by decide) c)
      refine lv_iconst (v := 1) hx hb dL_law_1982 (by decide) ?_
      refine W.widen (k := 735603) (n := 6895256) (Nat.le_of_ble_eq_true rfl) (Nat.le_of_ble_eq_true rfl) ?_
      refine va_forget (fun q hq => by have h9 := hS.2.2 q hq; rw [hAe] at h9; exact h9) ?_
      exact W.base (lw_ret (Drawn.sameBut.refl s.drawn lw_cs) hx hb hr hlocks dL_law_1983)
    · refine lv_aload_n hx hb dL_law_633 rfl (lv_at hl 4 rfl) ?_
      refine lv_iconst (v := 0) hx hb dL_law_634 (by decide) ?_
      refine va_lald (D := (dC, dI)) hx hb hK hP 0 3 rfl rfl (by unfold vp_in; decide) dL_law_635 ?_
      refine lt_cl (y := 0) (show _ = (0 : Int64) from hv_129 c_630) ?_
      refine lv_iload hx hb dL_law_636 (lv_at hl 0 rfl) ?_
      refine lt_ci (y := 0) (hv_132 ((sm_X12_start _).trans c_630)) ?_
      refine lv_if_eq (tgt := 645) hx hb dL_law_638 (by decide) (fun _ => ?_) (fun c => absurd (by decide) c)
      refine lv_lconst (v := 0) hx hb dL_law_645 rfl ?_
      refine W.lcmp hx hb dL_law_646 ?_
      refine lt_ci (y := 0) (by first | rfl | decide) ?_
      refine lv_if_eq (tgt := 652) hx hb dL_law_647 (by decide) (fun _ => ?_) (fun c => absurd (by decide) c)
      refine lv_goto (tgt := 1976) hx hb dL_law_652 (by decide) ?_
      refine lv_iinc (v := 6) (lv' := [(5, .int 6), (7, .int r_130), (6, .int (sp_X8_start (xs 1))), (4, .ref q_118), (3, .ref q_116), (2, .ref q_90), (1, .ref q_1), (0, .ref b)]) hx hb dL_law_1976 hl (k := 2) rfl (by first | rfl | decide) (by decide) rfl (fun ls hl => ?_)
      refine lv_goto (tgt := 28) hx hb dL_law_1979 (by decide) ?_
      refine lv_iload hx hb dL_law_28 (lv_at hl 0 rfl) ?_
      refine lv_aload_n hx hb dL_law_30 rfl (lv_at hl 7 rfl) ?_
      refine va_slen hx hb hX hbl hbA hS dL_law_31 ?_
      refine lt_ci (y := 6) rfl ?_
      refine lv_bipush (v := 6) hx hb dL_law_32 (by decide) ?_
      refine lv_isub hx hb dL_law_34 ?_
      refine lt_ci (y := 0) (by first | rfl | decide) ?_
      refine lv_icmp_gt (tgt := 1982) hx hb dL_law_35 (by decide) (fun _ => ?_) (fun c => absurd (by decide) c)
      refine lv_iconst (v := 1) hx hb dL_law_1982 (by decide) ?_
      refine W.widen (k := 735603) (n := 6895256) (Nat.le_of_ble_eq_true rfl) (Nat.le_of_ble_eq_true rfl) ?_
      refine va_forget (fun q hq => by have h9 := hS.2.2 q hq; rw [hAe] at h9; exact h9) ?_
      exact W.base (lw_ret (Drawn.sameBut.refl s.drawn lw_cs) hx hb hr hlocks dL_law_1983)
set_option maxHeartbeats 8000000 in
set_option maxRecDepth 100000 in
theorem c_L_law_5 {p : Program} {e : Env} {s : State} {m : MethodId} {below : List Frame} {meth : Method} {c : Code} (l : Launch) (hl9 : l.stackTraces = false) (dC : Nat → ClassId) (dI : Nat → Nat → Nat) (g : Nat × Nat × Nat) (b : Nat) (xs : Nat → Int32) (cI cZ cO : ClassId) (hx : p.tables.exec = Jvm.exec) (hb : c.code = cL_law) (hr : meth.sig.returnType = ret) (hml : c.maxLocals = 9) (hown : s.vm.findClass RL = some m.cls) (hts : ∀ w ∈ wsL_law, w.before #[Value.ref b] s = true) (hX : va_X b 6 xs s s.heap) (hbl : b < s.heap.size) (hlocks : meth.locks = false) (hG : gx g (fun q => s.heap.size ≤ q) s s.heap) (hk : (xs 0 &&& 63) = 5) (cA_117 : ClassId) (cA_119 : ClassId) (q_1 : Nat) (q_3 : Nat) (q_4 : Nat) (q_10 : Nat) (q_18 : Nat) (q_21 : Nat) (q_22 : Nat) (q_23 : Nat) (q_24 : Nat) (q_25 : Nat) (q_26 : Nat) (q_27 : Nat) (q_31 : Nat) (q_32 : Nat) (q_61 : Nat) (q_90 : Nat) (q_92 : Nat) (q_93 : Nat) (q_97 : Nat) (q_103 : Nat) (q_106 : Nat) (q_107 : Nat) (q_108 : Nat) (q_109 : Nat) (q_110 : Nat) (q_111 : Nat) (q_112 : Nat) (q_113 : Nat) (q_114 : Nat) (q_115 : Nat) (q_116 : Nat) (q_118 : Nat) (H : Heap) (locs : List Loc) (ls : Array Slot) (hK : va_K (dC, dI) vwCl [(cI, .int), (cZ, .boolean), (cO, .object "java/lang/Object"), (cA_117, .long), (cA_119, .double)] s) (hP : va_P (dC, dI) vwCl [(q_1, .inr (12, [.ref q_3, .ref q_32, .ref q_61])), (q_3, .inr (4, [.ref q_4, .ref q_10, .ref q_18, .ref q_21, .ref q_27, .ref q_31, .int 0, .int 0, .long 0])), (q_21, .inr (6, [.ref q_24, .ref q_25, .ref q_26, .ref q_22, .ref q_23, .int 0, .int 0])), (q_22, .inl (cI, 8, .inl (cn 0))), (q_23, .inl (cI, 8, .inl (cn 0))), (q_24, .inl (cI, 8, .inl (cn 7))), (q_25, .inl (cI, 8, .inl (cn 1))), (q_26, .inl (cI, 8, .inl (cn 110))), (q_90, .inr (16, [.ref q_97, .ref q_103, .ref q_113, .ref q_92, .ref q_93, .int 0, .int 0, .int 0, .int 105, .int 0, .int 0, .int 0, .int (-1), .int 0, .int 0, .int 0, .int 0, .int 0, .int 0, .int 0, .long 0, .int 0, .int 0])), (q_106, .inr (14, [.int 0, .int 7, .int 0, .int 1, .int 110, .int 0, .int 0])), (q_107, .inr (14, [.int 0, .int 7, .int 0, .int 1, .int 110, .int 0, .int 0])), (q_108, .inr (14, [.int 0, .int 7, .int 0, .int 1, .int 110, .int 0, .int 0])), (q_109, .inr (14, [.int 0, .int 7, .int 0, .int 1, .int 110, .int 0, .int 0])), (q_110, .inr (14, [.int 0, .int 7, .int 0, .int 1, .int 110, .int 0, .int 0])), (q_111, .inr (14, [.int 0, .int 7, .int 0, .int 1, .int 110, .int 0, .int 0])), (q_112, .inr (14, [.int 0, .int 7, .int 0, .int 1, .int 110, .int 0, .int 0])), (q_113, .inr (3, [.int 8, .ref q_114, .int 8])), (q_114, .inl (cO, 10, .inr (.inr (.inr (.inr (va_up (va_up (va_up (va_up (va_up (va_up (va_up (va_up nn 0 (some q_106)) 1 (some q_107)) 2 (some q_108)) 3 (some q_109)) 4 (some q_110)) 5 (some q_111)) 6 (some q_112)) 7 (some q_115))))))), (q_115, .inr (14, [.int 0, .int 7, .int 0, .int 1, .int 110, .int 0, .int 0])), (q_116, .inl (cA_117, 1, .inr (.inl cnL)))] H) (hD : va_D (fun q => s.heap.size ≤ q) [(q_1, .inr (12, [.ref q_3, .ref q_32, .ref q_61])), (q_3, .inr (4, [.ref q_4, .ref q_10, .ref q_18, .ref q_21, .ref q_27, .ref q_31, .int 0, .int 0, .long 0])), (q_21, .inr (6, [.ref q_24, .ref q_25, .ref q_26, .ref q_22, .ref q_23, .int 0, .int 0])), (q_22, .inl (cI, 8, .inl (cn 0))), (q_23, .inl (cI, 8, .inl (cn 0))), (q_24, .inl (cI, 8, .inl (cn 7))), (q_25, .inl (cI, 8, .inl (cn 1))), (q_26, .inl (cI, 8, .inl (cn 110))), (q_90, .inr (16, [.ref q_97, .ref q_103, .ref q_113, .ref q_92, .ref q_93, .int 0, .int 0, .int 0, .int 105, .int 0, .int 0, .int 0, .int (-1), .int 0, .int 0, .int 0, .int 0, .int 0, .int 0, .int 0, .long 0, .int 0, .int 0])), (q_106, .inr (14, [.int 0, .int 7, .int 0, .int 1, .int 110, .int 0, .int 0])), (q_107, .inr (14, [.int 0, .int 7, .int 0, .int 1, .int 110, .int 0, .int 0])), (q_108, .inr (14, [.int 0, .int 7, .int 0, .int 1, .int 110, .int 0, .int 0])), (q_109, .inr (14, [.int 0, .int 7, .int 0, .int 1, .int 110, .int 0, .int 0])), (q_110, .inr (14, [.int 0, .int 7, .int 0, .int 1, .int 110, .int 0, .int 0])), (q_111, .inr (14, [.int 0, .int 7, .int 0, .int 1, .int 110, .int 0, .int 0])), (q_112, .inr (14, [.int 0, .int 7, .int 0, .int 1, .int 110, .int 0, .int 0])), (q_113, .inr (3, [.int 8, .ref q_114, .int 8])), (q_114, .inl (cO, 10, .inr (.inr (.inr (.inr (va_up (va_up (va_up (va_up (va_up (va_up (va_up (va_up nn 0 (some q_106)) 1 (some q_107)) 2 (some q_108)) 3 (some q_109)) 4 (some q_110)) 5 (some q_111)) 6 (some q_112)) 7 (some q_115))))))), (q_115, .inr (14, [.int 0, .int 7, .int 0, .int 1, .int 110, .int 0, .int 0])), (q_116, .inl (cA_117, 1, .inr (.inl cnL)))]) (hS : va_S (fun q => s.heap.size ≤ q) s.heap H locs) (hl : lv_has ls 9 [(5, .int 0), (4, .ref q_118), (3, .ref q_116), (2, .ref q_90), (1, .ref q_1), (0, .ref b)]) : W p l e room_1 s m #[Value.ref b] below meth c H locs 115 1854 (lw_Z below #[Value.ref b] s) (F0 m 28 ls []) := by
  have hN := hG.1
  obtain ⟨A, hAe⟩ : ∃ A : Nat → Prop, A = (fun q => s.heap.size ≤ q) := ⟨_, rfl⟩
  rw [← hAe] at hG hD hS
  have hA : ∀ q : Nat, s.heap.size ≤ q → A q := fun q h => by rw [hAe]; exact h
  have hbA : ¬ A b := by rw [hAe]; exact Nat.not_le.mpr hbl
  refine lv_iload hx hb dL_law_28 (lv_at hl 0 rfl) ?_
  refine lv_aload_n hx hb dL_law_30 rfl (lv_at hl 5 rfl) ?_
  refine va_slen hx hb hX hbl hbA hS dL_law_31 ?_
  refine lt_ci (y := 6) rfl ?_
  refine lv_bipush (v := 6) hx hb dL_law_32 (by decide) ?_
  refine lv_isub hx hb dL_law_34 ?_
  refine lt_ci (y := 0) (by first | rfl | decide) ?_
  refine lv_icmp_gt (tgt := 1982) hx hb dL_law_35 (by decide) (fun c => absurd c (by decide)) (fun _ => ?_)
  refine lv_aload_n hx hb dL_law_38 rfl (lv_at hl 5 rfl) ?_
  refine lv_iload hx hb dL_law_39 (lv_at hl 0 rfl) ?_
  refine va_sld hx hb hX hbl hbA hS (by unfold vp_in; decide) dL_law_41 ?_
  refine lt_ci (y := (xs 0)) rfl ?_
  refine lv_bipush (v := 63) hx hb dL_law_42 (by decide) ?_
  refine lv_iand hx hb dL_law_44 ?_
  refine lt_ci (y := 5) hk ?_
  refine lv_tableIn (off := 610) (tgt := 655) hx hb dL_law_45 (by decide) (by decide) (by decide) (by decide) ?_
  refine lv_aload_n hx hb dL_law_655 rfl (lv_at hl 4 rfl) ?_
  refine lv_aload_n hx hb dL_law_656 rfl (lv_at hl 5 rfl) ?_
  refine lv_iload hx hb dL_law_657 (lv_at hl 0 rfl) ?_
  refine lv_iconst (v := 1) hx hb dL_law_659 (by decide) ?_
  refine lv_iadd hx hb dL_law_660 ?_
  refine lt_ci (y := 1) (by first | rfl | decide) ?_
  refine va_sld hx hb hX hbl hbA hS (by unfold vp_in; decide) dL_law_661 ?_
  refine lt_ci (y := (xs 1)) rfl ?_
  refine lv_aload_n hx hb dL_law_662 rfl (lv_at hl 5 rfl) ?_
  refine lv_iload hx hb dL_law_663 (lv_at hl 0 rfl) ?_
  refine lv_iconst (v := 2) hx hb dL_law_665 (by decide) ?_
  refine lv_iadd hx hb dL_law_666 ?_
  refine lt_ci (y := 2) (by first | rfl | decide) ?_
  refine va_sld hx hb hX hbl hbA hS (by unfold vp_in; decide) dL_law_667 ?_
  refine lt_ci (y := (xs 2)) rfl ?_
  refine lv_aload_n hx hb dL_law_668 rfl (lv_at hl 5 rfl) ?_
  refine lv_iload hx hb dL_law_669 (lv_at hl 0 rfl) ?_
  refine lv_iconst (v := 3) hx hb dL_law_671 (by decide) ?_
  refine lv_iadd hx hb dL_law_672 ?_
  refine lt_ci (y := 3) (by first | rfl | decide) ?_
  refine va_sld hx hb hX hbl hbA hS (by unfold vp_in; decide) dL_law_673 ?_
  refine lt_ci (y := (xs 3)) rfl ?_
  refine lv_if_eq (tgt := 681) hx hb dL_law_674 (by decide) (fun c_674 => ?_) (fun c_674 => ?_)
  · refine lv_iconst (v := 0) hx hb dL_law_681 (by decide) ?_
    refine lv_aload_n hx hb dL_law_682 rfl (lv_at hl 2 rfl) ?_
    have hPc := hP.sub (ws' := [(q_1, .inr (12, [.ref q_3, .ref q_32, .ref q_61])), (q_3, .inr (4, [.ref q_4, .ref q_10, .ref q_18, .ref q_21, .ref q_27, .ref q_31, .int 0, .int 0, .long 0])), (q_21, .inr (6, [.ref q_24, .ref q_25, .ref q_26, .ref q_22, .ref q_23, .int 0, .int 0])), (q_24, .inl (cI, 8, .inl (cn 7))), (q_25, .inl (cI, 8, .inl (cn 1))), (q_26, .inl (cI, 8, .inl (cn 110))), (q_22, .inl (cI, 8, .inl (cn 0))), (q_23, .inl (cI, 8, .inl (cn 0))), (q_116, .inl (cA_117, 1, .inr (.inl cnL)))]) [0, 1, 2, 5, 6, 7, 3, 4, 19] rfl
    have hDc := hD.sub (ws' := [(q_1, .inr (12, [.ref q_3, .ref q_32, .ref q_61])), (q_3, .inr (4, [.ref q_4, .ref q_10, .ref q_18, .ref q_21, .ref q_27, .ref q_31, .int 0, .int 0, .long 0])), (q_21, .inr (6, [.ref q_24, .ref q_25, .ref q_26, .ref q_22, .ref q_23, .int 0, .int 0])), (q_24, .inl (cI, 8, .inl (cn 7))), (q_25, .inl (cI, 8, .inl (cn 1))), (q_26, .inl (cI, 8, .inl (cn 110))), (q_22, .inl (cI, 8, .inl (cn 0))), (q_23, .inl (cI, 8, .inl (cn 0))), (q_116, .inl (cA_117, 1, .inr (.inl cnL)))]) [0, 1, 2, 5, 6, 7, 3, 4, 19] (by decide) rfl
    have hKc := hK.sub (tys' := [(cI, .int), (cA_117, .long)]) [0, 3] rfl
    have hFc := va_free (wc := [(q_1, .inr (12, [.ref q_3, .ref q_32, .ref q_61])), (q_3, .inr (4, [.ref q_4, .ref q_10, .ref q_18, .ref q_21, .ref q_27, .ref q_31, .int 0, .int 0, .long 0])), (q_21, .inr (6, [.ref q_24, .ref q_25, .ref q_26, .ref q_22, .ref q_23, .int 0, .int 0])), (q_24, .inl (cI, 8, .inl (cn 7))), (q_25, .inl (cI, 8, .inl (cn 1))), (q_26, .inl (cI, 8, .inl (cn 110))), (q_22, .inl (cI, 8, .inl (cn 0))), (q_23, .inl (cI, 8, .inl (cn 0))), (q_116, .inl (cA_117, 1, .inr (.inl cnL)))]) hD hS hA [0, 1, 2, 5, 6, 7, 3, 4, 19] rfl
    refine vx_calli (vx_runSX (As := [.ref q_1, .int (xs 1), .int (xs 2), .int 0, .ref q_116]) (rest := []) ⟨hx, hb, hml, hown, hts⟩ (c_L_setLine l hl9 dC dI g q_1 q_32 q_61 q_3 q_4 q_10 q_18 q_21 q_24 q_25 q_26 q_22 q_23 q_27 q_31 cI (xs 1) (xs 2) 0 cnL q_116 cA_117 H.size) (vx_cwSW 5 hts gL_law_L_setLine rfl rfl rfl (by decide +kernel) ⟨Nat.le_of_ble_eq_true rfl, Nat.le_of_ble_eq_true rfl⟩) ⟨wIn_blind, wIn_at hPc hKc hDc hG hS hFc⟩ rfl rfl hl.1 rfl (lv_room (Nat.le_of_ble_eq_true rfl)) dL_law_683 ⟨Nat.le_of_ble_eq_true rfl, Nat.le_of_ble_eq_true rfl⟩) hS (fun q _ h => hFc q h) hFc (fun q _ h => hFc q h) (fun E9 ce9 q9 u9 t H1 locs ht hvm hx9 hB9 hz1 hk1 hS hce hcv hcl => False.elim hx9) (fun r_120 u t H1 locs ht hvm hw hB hz1 hk1 hS => ?_)
    obtain ⟨v_121, rfl⟩ : ∃ z, z = u := ⟨_, rfl⟩
    obtain ⟨hP1, hK1, hD1⟩ := hB
    rw [ht] at hP1
    obtain ⟨hP, hD⟩ := va_join (wr := [(q_90, .inr (16, [.ref q_97, .ref q_103, .ref q_113, .ref q_92, .ref q_93, .int 0, .int 0, .int 0, .int 105, .int 0, .int 0, .int 0, .int (-1), .int 0, .int 0, .int 0, .int 0, .int 0, .int 0, .int 0, .long 0, .int 0, .int 0])), (q_106, .inr (14, [.int 0, .int 7, .int 0, .int 1, .int 110, .int 0, .int 0])), (q_107, .inr (14, [.int 0, .int 7, .int 0, .int 1, .int 110, .int 0, .int 0])), (q_108, .inr (14, [.int 0, .int 7, .int 0, .int 1, .int 110, .int 0, .int 0])), (q_109, .inr (14, [.int 0, .int 7, .int 0, .int 1, .int 110, .int 0, .int 0])), (q_110, .inr (14, [.int 0, .int 7, .int 0, .int 1, .int 110, .int 0, .int 0])), (q_111, .inr (14, [.int 0, .int 7, .int 0, .int 1, .int 110, .int 0, .int 0])), (q_112, .inr (14, [.int 0, .int 7, .int 0, .int 1, .int 110, .int 0, .int 0])), (q_113, .inr (3, [.int 8, .ref q_114, .int 8])), (q_114, .inl (cO, 10, .inr (.inr (.inr (.inr (va_up (va_up (va_up (va_up (va_up (va_up (va_up (va_up nn 0 (some q_106)) 1 (some q_107)) 2 (some q_108)) 3 (some q_109)) 4 (some q_110)) 5 (some q_111)) 6 (some q_112)) 7 (some q_115))))))), (q_115, .inr (14, [.int 0, .int 7, .int 0, .int 1, .int 110, .int 0, .int 0]))]) (w1 := [(q_116, .inl (cA_117, 1, .inr (.inl v_121)))]) hP hD [0, 1, 2, 5, 6, 7, 3, 4, 19] [8, 9, 10, 11, 12, 13, 14, 15, 16, 17, 18] rfl rfl (by decide) (by decide) hk1 hFc hP1 hD1
    generalize H1 = H at hP hS ⊢
    have hP : va_P (dC, dI) vwCl [(q_90, .inr (16, [.ref q_97, .ref q_103, .ref q_113, .ref q_92, .ref q_93, .int 0, .int 0, .int 0, .int 105, .int 0, .int 0, .int 0, .int (-1), .int 0, .int 0, .int 0, .int 0, .int 0, .int 0, .int 0, .long 0, .int 0, .int 0])), (q_106, .inr (14, [.int 0, .int 7, .int 0, .int 1, .int 110, .int 0, .int 0])), (q_107, .inr (14, [.int 0, .int 7, .int 0, .int 1, .int 110, .int 0, .int 0])), (q_108, .inr (14, [.int 0, .int 7, .int 0, .int 1, .int 110, .int 0, .int 0])), (q_109, .inr (14, [.int 0, .int 7, .int 0, .int 1, .int 110, .int 0, .int 0])), (q_110, .inr (14, [.int 0, .int 7, .int 0, .int 1, .int 110, .int 0, .int 0])), (q_111, .inr (14, [.int 0, .int 7, .int 0, .int 1, .int 110, .int 0, .int 0])), (q_112, .inr (14, [.int 0, .int 7, .int 0, .int 1, .int 110, .int 0, .int 0])), (q_113, .inr (3, [.int 8, .ref q_114, .int 8])), (q_114, .inl (cO, 10, .inr (.inr (.inr (.inr (va_up (va_up (va_up (va_up (va_up (va_up (va_up (va_up nn 0 (some q_106)) 1 (some q_107)) 2 (some q_108)) 3 (some q_109)) 4 (some q_110)) 5 (some q_111)) 6 (some q_112)) 7 (some q_115))))))), (q_115, .inr (14, [.int 0, .int 7, .int 0, .int 1, .int 110, .int 0, .int 0])), (q_116, .inl (cA_117, 1, .inr (.inl v_121)))] H := hP
    have hD : va_D A [(q_90, .inr (16, [.ref q_97, .ref q_103, .ref q_113, .ref q_92, .ref q_93, .int 0, .int 0, .int 0, .int 105, .int 0, .int 0, .int 0, .int (-1), .int 0, .int 0, .int 0, .int 0, .int 0, .int 0, .int 0, .long 0, .int 0, .int 0])), (q_106, .inr (14, [.int 0, .int 7, .int 0, .int 1, .int 110, .int 0, .int 0])), (q_107, .inr (14, [.int 0, .int 7, .int 0, .int 1, .int 110, .int 0, .int 0])), (q_108, .inr (14, [.int 0, .int 7, .int 0, .int 1, .int 110, .int 0, .int 0])), (q_109, .inr (14, [.int 0, .int 7, .int 0, .int 1, .int 110, .int 0, .int 0])), (q_110, .inr (14, [.int 0, .int 7, .int 0, .int 1, .int 110, .int 0, .int 0])), (q_111, .inr (14, [.int 0, .int 7, .int 0, .int 1, .int 110, .int 0, .int 0])), (q_112, .inr (14, [.int 0, .int 7, .int 0, .int 1, .int 110, .int 0, .int 0])), (q_113, .inr (3, [.int 8, .ref q_114, .int 8])), (q_114, .inl (cO, 10, .inr (.inr (.inr (.inr (va_up (va_up (va_up (va_up (va_up (va_up (va_up (va_up nn 0 (some q_106)) 1 (some q_107)) 2 (some q_108)) 3 (some q_109)) 4 (some q_110)) 5 (some q_111)) 6 (some q_112)) 7 (some q_115))))))), (q_115, .inr (14, [.int 0, .int 7, .int 0, .int 1, .int 110, .int 0, .int 0])), (q_116, .inl (cA_117, 1, .inr (.inl v_121)))] := hD
    refine lt_ci (y := sp_X8_setLine (xs 1) (xs 2)) (hw.1) ?_
    have hv_122 : sp_X8_setLine (xs 1) (xs 2) = 0 → v_121 0 = 7 := hw.2
    refine W.widen (k := 116) (n := 1860) (Nat.le_of_ble_eq_true rfl) (Nat.le_of_ble_eq_true rfl) ?_
    refine lv_istore (lv' := [(6, .int (sp_X8_setLine (xs 1) (xs 2))), (5, .int 0), (4, .ref q_118), (3, .ref q_116), (2, .ref q_90), (1, .ref q_1), (0, .ref b)]) hx hb dL_law_686 hl (by decide) rfl (fun ls hl => ?_)
    refine lv_aload_n hx hb dL_law_688 rfl (lv_at hl 4 rfl) ?_
    refine lv_aload_n hx hb dL_law_689 rfl (lv_at hl 6 rfl) ?_
    refine lv_iload hx hb dL_law_690 (lv_at hl 1 rfl) ?_
    refine lv_iconst (v := 1) hx hb dL_law_692 (by decide) ?_
    refine lv_iadd hx hb dL_law_693 ?_
    refine lt_ci (y := 1) (by first | rfl | decide) ?_
    refine va_sld hx hb hX hbl hbA hS (by unfold vp_in; decide) dL_law_694 ?_
    refine lt_ci (y := (xs 1)) rfl ?_
    refine lv_aload_n hx hb dL_law_695 rfl (lv_at hl 6 rfl) ?_
    refine lv_iload hx hb dL_law_696 (lv_at hl 1 rfl) ?_
    refine lv_iconst (v := 2) hx hb dL_law_698 (by decide) ?_
    refine lv_iadd hx hb dL_law_699 ?_
    refine lt_ci (y := 2) (by first | rfl | decide) ?_
    refine va_sld hx hb hX hbl hbA hS (by unfold vp_in; decide) dL_law_700 ?_
    refine lt_ci (y := (xs 2)) rfl ?_
    refine lv_aload_n hx hb dL_law_701 rfl (lv_at hl 6 rfl) ?_
    refine lv_iload hx hb dL_law_702 (lv_at hl 1 rfl) ?_
    refine lv_iconst (v := 3) hx hb dL_law_704 (by decide) ?_
    refine lv_iadd hx hb dL_law_705 ?_
    refine lt_ci (y := 3) (by first | rfl | decide) ?_
    refine va_sld hx hb hX hbl hbA hS (by unfold vp_in; decide) dL_law_706 ?_
    refine lt_ci (y := (xs 3)) rfl ?_
    refine lv_if_eq (tgt := 714) hx hb dL_law_707 (by decide) (fun _ => ?_) (fun c => absurd (c_674) c)
    refine lv_iconst (v := 0) hx hb dL_law_714 (by decide) ?_
    have hPc := hP.sub (ws' := [(q_90, .inr (16, [.ref q_97, .ref q_103, .ref q_113, .ref q_92, .ref q_93, .int 0, .int 0, .int 0, .int 105, .int 0, .int 0, .int 0, .int (-1), .int 0, .int 0, .int 0, .int 0, .int 0, .int 0, .int 0, .long 0, .int 0, .int 0])), (q_113, .inr (3, [.int 8, .ref q_114, .int 8])), (q_114, .inl (cO, 10, .inr (.inr (.inr (.inr (va_up (va_up (va_up (va_up (va_up (va_up (va_up (va_up nn 0 (some q_106)) 1 (some q_107)) 2 (some q_108)) 3 (some q_109)) 4 (some q_110)) 5 (some q_111)) 6 (some q_112)) 7 (some q_115))))))), (q_106, .inr (14, [.int 0, .int 7, .int 0, .int 1, .int 110, .int 0, .int 0])), (q_107, .inr (14, [.int 0, .int 7, .int 0, .int 1, .int 110, .int 0, .int 0])), (q_108, .inr (14, [.int 0, .int 7, .int 0, .int 1, .int 110, .int 0, .int 0])), (q_109, .inr (14, [.int 0, .int 7, .int 0, .int 1, .int 110, .int 0, .int 0])), (q_110, .inr (14, [.int 0, .int 7, .int 0, .int 1, .int 110, .int 0, .int 0])), (q_111, .inr (14, [.int 0, .int 7, .int 0, .int 1, .int 110, .int 0, .int 0])), (q_112, .inr (14, [.int 0, .int 7, .int 0, .int 1, .int 110, .int 0, .int 0])), (q_115, .inr (14, [.int 0, .int 7, .int 0, .int 1, .int 110, .int 0, .int 0]))]) [0, 8, 9, 1, 2, 3, 4, 5, 6, 7, 10] rfl
    have hDc := hD.sub (ws' := [(q_90, .inr (16, [.ref q_97, .ref q_103, .ref q_113, .ref q_92, .ref q_93, .int 0, .int 0, .int 0, .int 105, .int 0, .int 0, .int 0, .int (-1), .int 0, .int 0, .int 0, .int 0, .int 0, .int 0, .int 0, .long 0, .int 0, .int 0])), (q_113, .inr (3, [.int 8, .ref q_114, .int 8])), (q_114, .inl (cO, 10, .inr (.inr (.inr (.inr (va_up (va_up (va_up (va_up (va_up (va_up (va_up (va_up nn 0 (some q_106)) 1 (some q_107)) 2 (some q_108)) 3 (some q_109)) 4 (some q_110)) 5 (some q_111)) 6 (some q_112)) 7 (some q_115))))))), (q_106, .inr (14, [.int 0, .int 7, .int 0, .int 1, .int 110, .int 0, .int 0])), (q_107, .inr (14, [.int 0, .int 7, .int 0, .int 1, .int 110, .int 0, .int 0])), (q_108, .inr (14, [.int 0, .int 7, .int 0, .int 1, .int 110, .int 0, .int 0])), (q_109, .inr (14, [.int 0, .int 7, .int 0, .int 1, .int 110, .int 0, .int 0])), (q_110, .inr (14, [.int 0, .int 7, .int 0, .int 1, .int 110, .int 0, .int 0])), (q_111, .inr (14, [.int 0, .int 7, .int 0, .int 1, .int 110, .int 0, .int 0])), (q_112, .inr (14, [.int 0, .int 7, .int 0, .int 1, .int 110, .int 0, .int 0])), (q_115, .inr (14, [.int 0, .int 7, .int 0, .int 1, .int 110, .int 0, .int 0]))]) [0, 8, 9, 1, 2, 3, 4, 5, 6, 7, 10] (by decide) rfl
    have hKc := hK.sub (tys' := [(cI, .int), (cZ, .boolean), (cO, .object "java/lang/Object")]) [0, 1, 2] rfl
    have hFc := va_free (wc := [(q_90, .inr (16, [.ref q_97, .ref q_103, .ref q_113, .ref q_92, .ref q_93, .int 0, .int 0, .int 0, .int 105, .int 0, .int 0, .int 0, .int (-1), .int 0, .int 0, .int 0, .int 0, .int 0, .int 0, .int 0, .long 0, .int 0, .int 0])), (q_113, .inr (3, [.int 8, .ref q_114, .int 8])), (q_114, .inl (cO, 10, .inr (.inr (.inr (.inr (va_up (va_up (va_up (va_up (va_up (va_up (va_up (va_up nn 0 (some q_106)) 1 (some q_107)) 2 (some q_108)) 3 (some q_109)) 4 (some q_110)) 5 (some q_111)) 6 (some q_112)) 7 (some q_115))))))), (q_106, .inr (14, [.int 0, .int 7, .int 0, .int 1, .int 110, .int 0, .int 0])), (q_107, .inr (14, [.int 0, .int 7, .int 0, .int 1, .int 110, .int 0, .int 0])), (q_108, .inr (14, [.int 0, .int 7, .int 0, .int 1, .int 110, .int 0, .int 0])), (q_109, .inr (14, [.int 0, .int 7, .int 0, .int 1, .int 110, .int 0, .int 0])), (q_110, .inr (14, [.int 0, .int 7, .int 0, .int 1, .int 110, .int 0, .int 0])), (q_111, .inr (14, [.int 0, .int 7, .int 0, .int 1, .int 110, .int 0, .int 0])), (q_112, .inr (14, [.int 0, .int 7, .int 0, .int 1, .int 110, .int 0, .int 0])), (q_115, .inr (14, [.int 0, .int 7, .int 0, .int 1, .int 110, .int 0, .int 0]))]) hD hS hA [0, 8, 9, 1, 2, 3, 4, 5, 6, 7, 10] rfl
    refine va_calli (va_runV (As := [.int (xs 1), .int (xs 2), .int 0]) (rest := []) ⟨hx, hb, hml, hown, hts⟩ (c_X12_setLine l dC dI g q_90 q_92 q_93 q_97 q_103 q_113 q_114 q_106 q_107 q_108 q_109 q_110 q_111 q_112 q_115 cI cZ cO 0 (xs 1) (xs 2) 0 H.size (by decide) (by decide)) (cwV 3 hts gL_law_X12_setLine rfl rfl rfl (by decide +kernel) ⟨Nat.le_of_ble_eq_true rfl, Nat.le_of_ble_eq_true rfl⟩) ⟨wIn_blind, va_recv hK hP (ci := 16) (q0 := 0) rfl rfl, wIn_at hPc hKc hDc hG hS hFc⟩ rfl rfl hl.1 rfl (lv_room (Nat.le_of_ble_eq_true rfl)) dL_law_715 ⟨Nat.le_of_ble_eq_true rfl, Nat.le_of_ble_eq_true rfl⟩) hS (fun q _ h => hFc q h) hFc (fun r_123 u t H1 locs ht hvm hw hB hz1 hk1 hS => ?_)
    obtain ⟨v_124, rfl⟩ : ∃ z, z = u := ⟨_, rfl⟩
    have hw : v_124 = mp_X12_setLine (xs 1) (xs 2) ∧ (mp_X12_setLine (xs 1) (xs 2) = 0 → r_123 = 7) := hw
    obtain ⟨hm9, hv_125⟩ := hw
    subst hm9
    obtain ⟨hP1, hK1, hD1⟩ := hB
    rw [ht] at hP1
    obtain ⟨hP, hD⟩ := va_join (wr := [(q_116, .inl (cA_117, 1, .inr (.inl v_121)))]) (w1 := [(q_90, .inr (16, [.ref q_97, .ref q_103, .ref q_113, .ref q_92, .ref q_93, .int 0, .int 0, .int 0, .int 105, .int 0, .int 0, .int 0, .int (-1), .int 0, .int 0, .int 0, .int 0, .int 0, .int 0, .int 0, .long 0, .int 0, .int (mp_X12_setLine (xs 1) (xs 2))]))]) hP hD [0, 8, 9, 1, 2, 3, 4, 5, 6, 7, 10] [11] rfl rfl (by decide) (by decide) hk1 hFc hP1 hD1
    generalize H1 = H at hP hS ⊢
    have hP : va_P (dC, dI) vwCl [(q_116, .inl (cA_117, 1, .inr (.inl v_121))), (q_90, .inr (16, [.ref q_97, .ref q_103, .ref q_113, .ref q_92, .ref q_93, .int 0, .int 0, .int 0, .int 105, .int 0, .int 0, .int 0, .int (-1), .int 0, .int 0, .int 0, .int 0, .int 0, .int 0, .int 0, .long 0, .int 0, .int (mp_X12_setLine (xs 1) (xs 2))]))] H := hP
    have hD : va_D A [(q_116, .inl (cA_117, 1, .inr (.inl v_121))), (q_90, .inr (16, [.ref q_97, .ref q_103, .ref q_113, .ref q_92, .ref q_93, .int 0, .int 0, .int 0, .int 105, .int 0, .int 0, .int 0, .int (-1), .int 0, .int 0, .int 0, .int 0, .int 0, .int 0, .int 0, .long 0, .int 0, .int (mp_X12_setLine (xs 1) (xs 2))]))] := hD
    refine lv_istore (lv' := [(7, .int r_123), (6, .int (sp_X8_setLine (xs 1) (xs 2))), (5, .int 0), (4, .ref q_118), (3, .ref q_116), (2, .ref q_90), (1, .ref q_1), (0, .ref b)]) hx hb dL_law_718 hl (by decide) rfl (fun ls hl => ?_)
    refine lv_aload_n hx hb dL_law_720 rfl (lv_at hl 5 rfl) ?_
    have hPc := hP.sub (ws' := [(q_90, .inr (16, [.ref q_97, .ref q_103, .ref q_113, .ref q_92, .ref q_93, .int 0, .int 0, .int 0, .int 105, .int 0, .int 0, .int 0, .int (-1), .int 0, .int 0, .int 0, .int 0, .int 0, .int 0, .int 0, .long 0, .int 0, .int (mp_X12_setLine (xs 1) (xs 2))]))]) [1] rfl
    have hDc := hD.sub (ws' := [(q_90, .inr (16, [.ref q_97, .ref q_103, .ref q_113, .ref q_92, .ref q_93, .int 0, .int 0, .int 0, .int 105, .int 0, .int 0, .int 0, .int (-1), .int 0, .int 0, .int 0, .int 0, .int 0, .int 0, .int 0, .long 0, .int 0, .int (mp_X12_setLine (xs 1) (xs 2))]))]) [1] (by decide) rfl
    have hKc := hK.sub (tys' := [(cI, .int), (cZ, .boolean), (cO, .object "java/lang/Object")]) [0, 1, 2] rfl
    have hFc := va_free (wc := [(q_90, .inr (16, [.ref q_97, .ref q_103, .ref q_113, .ref q_92, .ref q_93, .int 0, .int 0, .int 0, .int 105, .int 0, .int 0, .int 0, .int (-1), .int 0, .int 0, .int 0, .int 0, .int 0, .int 0, .int 0, .long 0, .int 0, .int (mp_X12_setLine (xs 1) (xs 2))]))]) hD hS hA [1] rfl
    refine va_calli (va_runV (As := []) (rest := []) ⟨hx, hb, hml, hown, hts⟩ (c_X12_thrown l dC dI g q_90 (.ref q_97) (.ref q_103) (.ref q_113) (.ref q_92) (.ref q_93) (.int 0) (.int 0) (.int 0) (.int 105) (.int 0) (.int 0) (.int 0) (.int (-1)) (.int 0) (.int 0) (.int 0) (.int 0) (.int 0) (.int 0) (.int 0) (.long 0) (.int 0) cI cZ cO (mp_X12_setLine (xs 1) (xs 2)) H.size) (cwV 0 hts gL_law_X12_thrown rfl rfl rfl (by decide +kernel) ⟨Nat.le_of_ble_eq_true rfl, Nat.le_of_ble_eq_true rfl⟩) ⟨wIn_blind, va_recv hK hP (ci := 16) (q0 := 1) rfl rfl, wIn_at hPc hKc hDc hG hS hFc⟩ rfl rfl hl.1 rfl (lv_room (Nat.le_of_ble_eq_true rfl)) dL_law_721 ⟨Nat.le_of_ble_eq_true rfl, Nat.le_of_ble_eq_true rfl⟩) hS (fun q _ h => hFc q h) hFc (fun r_126 u t H1 locs ht hvm hw hB hz1 hk1 hS => ?_)
    obtain ⟨hP1, hK1, hD1⟩ := hB
    rw [ht] at hP1
    obtain ⟨hP, hD⟩ := va_join (wr := [(q_116, .inl (cA_117, 1, .inr (.inl v_121)))]) (w1 := [(q_90, .inr (16, [.ref q_97, .ref q_103, .ref q_113, .ref q_92, .ref q_93, .int 0, .int 0, .int 0, .int 105, .int 0, .int 0, .int 0, .int (-1), .int 0, .int 0, .int 0, .int 0, .int 0, .int 0, .int 0, .long 0, .int 0, .int (mp_X12_setLine (xs 1) (xs 2))]))]) hP hD [1] [0] rfl rfl (by decide) (by decide) hk1 hFc hP1 hD1
    generalize H1 = H at hP hS ⊢
    have hP : va_P (dC, dI) vwCl [(q_116, .inl (cA_117, 1, .inr (.inl v_121))), (q_90, .inr (16, [.ref q_97, .ref q_103, .ref q_113, .ref q_92, .ref q_93, .int 0, .int 0, .int 0, .int 105, .int 0, .int 0, .int 0, .int (-1), .int 0, .int 0, .int 0, .int 0, .int 0, .int 0, .int 0, .long 0, .int 0, .int (mp_X12_setLine (xs 1) (xs 2))]))] H := hP
    have hD : va_D A [(q_116, .inl (cA_117, 1, .inr (.inl v_121))), (q_90, .inr (16, [.ref q_97, .ref q_103, .ref q_113, .ref q_92, .ref q_93, .int 0, .int 0, .int 0, .int 105, .int 0, .int 0, .int 0, .int (-1), .int 0, .int 0, .int 0, .int 0, .int 0, .int 0, .int 0, .long 0, .int 0, .int (mp_X12_setLine (xs 1) (xs 2))]))] := hD
    refine lt_ci (y := (mp_X12_setLine (xs 1) (xs 2))) hw ?_
    refine lt_ci (y := sp_X8_setLine (xs 1) (xs 2)) (sm_X12_setLine _ _) ?_
    refine lv_iload hx hb dL_law_724 (lv_at hl 1 rfl) ?_
    refine lv_icmp_eq (tgt := 731) hx hb dL_law_726 (by decide) (fun _ => ?_) (fun c => absurd (rfl) c)
    refine lv_iload hx hb dL_law_731 (lv_at hl 1 rfl) ?_
    refine lv_if_ne (tgt := 748) hx hb dL_law_733 (by decide) (fun c_733 => ?_) (fun c_733 => ?_)
    · refine lv_goto (tgt := 1976) hx hb dL_law_748 (by decide) ?_
      refine lv_iinc (v := 6) (lv' := [(5, .int 6), (7, .int r_123), (6, .int (sp_X8_setLine (xs 1) (xs 2))), (4, .ref q_118), (3, .ref q_116), (2, .ref q_90), (1, .ref q_1), (0, .ref b)]) hx hb dL_law_1976 hl (k := 2) rfl (by first | rfl | decide) (by decide) rfl (fun ls hl => ?_)
      refine lv_goto (tgt := 28) hx hb dL_law_1979 (by decide) ?_
      refine lv_iload hx hb dL_law_28 (lv_at hl 0 rfl) ?_
      refine lv_aload_n hx hb dL_law_30 rfl (lv_at hl 7 rfl) ?_
      refine va_slen hx hb hX hbl hbA hS dL_law_31 ?_
      refine lt_ci (y := 6) rfl ?_
      refine lv_bipush (v := 6) hx hb dL_law_32 (by decide) ?_
      refine lv_isub hx hb dL_law_34 ?_
      refine lt_ci (y := 0) (by first | rfl | decide) ?_
      refine lv_icmp_gt (tgt := 1982) hx hb dL_law_35 (by decide) (fun _ => ?_) (fun c => absurd (by decide) c)
      refine lv_iconst (v := 1) hx hb dL_law_1982 (by decide) ?_
      refine W.widen (k := 735603) (n := 6895256) (Nat.le_of_ble_eq_true rfl) (Nat.le_of_ble_eq_true rfl) ?_
      refine va_forget (fun q hq => by have h9 := hS.2.2 q hq; rw [hAe] at h9; exact h9) ?_
      exact W.base (lw_ret (Drawn.sameBut.refl s.drawn lw_cs) hx hb hr hlocks dL_law_1983)
    · refine lv_aload_n hx hb dL_law_736 rfl (lv_at hl 4 rfl) ?_
      refine lv_iconst (v := 0) hx hb dL_law_737 (by decide) ?_
      refine va_lald (D := (dC, dI)) hx hb hK hP 0 3 rfl rfl (by unfold vp_in; decide) dL_law_738 ?_
      refine lt_cl (y := 7) (show _ = (7 : Int64) from hv_122 c_733) ?_
      refine lv_iload hx hb dL_law_739 (lv_at hl 0 rfl) ?_
      refine lt_ci (y := 7) (hv_125 ((sm_X12_setLine _ _).trans c_733)) ?_
      refine lv_i2l (v := 7) hx hb dL_law_741 (by first | rfl | decide) ?_
      refine W.lcmp hx hb dL_law_742 ?_
      refine lt_ci (y := 0) (by first | rfl | decide) ?_
      refine lv_if_eq (tgt := 748) hx hb dL_law_743 (by decide) (fun _ => ?_) (fun c => absurd (by decide) c)
      refine lv_goto (tgt := 1976) hx hb dL_law_748 (by decide) ?_
      refine lv_iinc (v := 6) (lv' := [(5, .int 6), (7, .int r_123), (6, .int (sp_X8_setLine (xs 1) (xs 2))), (4, .ref q_118), (3, .ref q_116), (2, .ref q_90), (1, .ref q_1), (0, .ref b)]) hx hb dL_law_1976 hl (k := 2) rfl (by first | rfl | decide) (by decide) rfl (fun ls hl => ?_)
      refine lv_goto (tgt := 28) hx hb dL_law_1979 (by decide) ?_
      refine lv_iload hx hb dL_law_28 (lv_at hl 0 rfl) ?_
      refine lv_aload_n hx hb dL_law_30 rfl (lv_at hl 7 rfl) ?_
      refine va_slen hx hb hX hbl hbA hS dL_law_31 ?_
      refine lt_ci (y := 6) rfl ?_
      refine lv_bipush (v := 6) hx hb dL_law_32 (by decide) ?_
      refine lv_isub hx hb dL_law_34 ?_
      refine lt_ci (y := 0) (by first | rfl | decide) ?_
      refine lv_icmp_gt (tgt := 1982) hx hb dL_law_35 (by decide) (fun _ => ?_) (fun c => absurd (by decide) c)
      refine lv_iconst (v := 1) hx hb dL_law_1982 (by decide) ?_
      refine W.widen (k := 735603) (n := 6895256) (Nat.le_of_ble_eq_true rfl) (Nat.le_of_ble_eq_true rfl) ?_
      refine va_forget (fun q hq => by have h9 := hS.2.2 q hq; rw [hAe] at h9; exact h9) ?_
      exact W.base (lw_ret (Drawn.sameBut.refl s.drawn lw_cs) hx hb hr hlocks dL_law_1983)
  · refine lv_iconst (v := 1) hx hb dL_law_677 (by decide) ?_
    refine lv_goto (tgt := 682) hx hb dL_law_678 (by decide) ?_
    refine lv_aload_n hx hb dL_law_682 rfl (lv_at hl 2 rfl) ?_
    have hPc := hP.sub (ws' := [(q_1, .inr (12, [.ref q_3, .ref q_32, .ref q_61])), (q_3, .inr (4, [.ref q_4, .ref q_10, .ref q_18, .ref q_21, .ref q_27, .ref q_31, .int 0, .int 0, .long 0])), (q_21, .inr (6, [.ref q_24, .ref q_25, .ref q_26, .ref q_22, .ref q_23, .int 0, .int 0])), (q_24, .inl (cI, 8, .inl (cn 7))), (q_25, .inl (cI, 8, .inl (cn 1))), (q_26, .inl (cI, 8, .inl (cn 110))), (q_22, .inl (cI, 8, .inl (cn 0))), (q_23, .inl (cI, 8, .inl (cn 0))), (q_116, .inl (cA_117, 1, .inr (.inl cnL)))]) [0, 1, 2, 5, 6, 7, 3, 4, 19] rfl
    have hDc := hD.sub (ws' := [(q_1, .inr (12, [.ref q_3, .ref q_32, .ref q_61])), (q_3, .inr (4, [.ref q_4, .ref q_10, .ref q_18, .ref q_21, .ref q_27, .ref q_31, .int 0, .int 0, .long 0])), (q_21, .inr (6, [.ref q_24, .ref q_25, .ref q_26, .ref q_22, .ref q_23, .int 0, .int 0])), (q_24, .inl (cI, 8, .inl (cn 7))), (q_25, .inl (cI, 8, .inl (cn 1))), (q_26, .inl (cI, 8, .inl (cn 110))), (q_22, .inl (cI, 8, .inl (cn 0))), (q_23, .inl (cI, 8, .inl (cn 0))), (q_116, .inl (cA_117, 1, .inr (.inl cnL)))]) [0, 1, 2, 5, 6, 7, 3, 4, 19] (by decide) rfl
    have hKc := hK.sub (tys' := [(cI, .int), (cA_117, .long)]) [0, 3] rfl
    have hFc := va_free (wc := [(q_1, .inr (12, [.ref q_3, .ref q_32, .ref q_61])), (q_3, .inr (4, [.ref q_4, .ref q_10, .ref q_18, .ref q_21, .ref q_27, .ref q_31, .int 0, .int 0, .long 0])), (q_21, .inr (6, [.ref q_24, .ref q_25, .ref q_26, .ref q_22, .ref q_23, .int 0, .int 0])), (q_24, .inl (cI, 8, .inl (cn 7))), (q_25, .inl (cI, 8, .inl (cn 1))), (q_26, .inl (cI, 8, .inl (cn 110))), (q_22, .inl (cI, 8, .inl (cn 0))), (q_23, .inl (cI, 8, .inl (cn 0))), (q_116, .inl (cA_117, 1, .inr (.inl cnL)))]) hD hS hA [0, 1, 2, 5, 6, 7, 3, 4, 19] rfl
    refine vx_calli (vx_runSX (As := [.ref q_1, .int (xs 1), .int (xs 2), .int 1, .ref q_116]) (rest := []) ⟨hx, hb, hml, hown, hts⟩ (c_L_setLine l hl9 dC dI g q_1 q_32 q_61 q_3 q_4 q_10 q_18 q_21 q_24 q_25 q_26 q_22 q_23 q_27 q_31 cI (xs 1) (xs 2) 1 cnL q_116 cA_117 H.size) (vx_cwSW 5 hts gL_law_L_setLine rfl rfl rfl (by decide +kernel) ⟨Nat.le_of_ble_eq_true rfl, Nat.le_of_ble_eq_true rfl⟩) ⟨wIn_blind, wIn_at hPc hKc hDc hG hS hFc⟩ rfl rfl hl.1 rfl (lv_room (Nat.le_of_ble_eq_true rfl)) dL_law_683 ⟨Nat.le_of_ble_eq_true rfl, Nat.le_of_ble_eq_true rfl⟩) hS (fun q _ h => hFc q h) hFc (fun q _ h => hFc q h) (fun E9 ce9 q9 u9 t H1 locs ht hvm hx9 hB9 hz1 hk1 hS hce hcv hcl => False.elim hx9) (fun r_127 u t H1 locs ht hvm hw hB hz1 hk1 hS => ?_)
    obtain ⟨v_128, rfl⟩ : ∃ z, z = u := ⟨_, rfl⟩
    obtain ⟨hP1, hK1, hD1⟩ := hB
    rw [ht] at hP1
    obtain ⟨hP, hD⟩ := va_join (wr := [(q_90, .inr (16, [.ref q_97, .ref q_103, .ref q_113, .ref q_92, .ref q_93, .int 0, .int 0, .int 0, .int 105, .int 0, .int 0, .int 0, .int (-1), .int 0, .int 0, .int 0, .int 0, .int 0, .int 0, .int 0, .long 0, .int 0, .int 0])), (q_106, .inr (14, [.int 0, .int 7, .int 0, .int 1, .int 110, .int 0, .int 0])), (q_107, .inr (14, [.int 0, .int 7, .int 0, .int 1, .int 110, .int 0, .int 0])), (q_108, .inr (14, [.int 0, .int 7, .int 0, .int 1, .int 110, .int 0, .int 0])), (q_109, .inr (14, [.int 0, .int 7, .int 0, .int 1, .int 110, .int 0, .int 0])), (q_110, .inr (14, [.int 0, .int 7, .int 0, .int 1, .int 110, .int 0, .int 0])), (q_111, .inr (14, [.int 0, .int 7, .int 0, .int 1, .int 110, .int 0, .int 0])), (q_112, .inr (14, [.int 0, .int 7, .int 0, .int 1, .int 110, .int 0, .int 0])), (q_113, .inr (3, [.int 8, .ref q_114, .int 8])), (q_114, .inl (cO, 10, .inr (.inr (.inr (.inr (va_up (va_up (va_up (va_up (va_up (va_up (va_up (va_up nn 0 (some q_106)) 1 (some q_107)) 2 (some q_108)) 3 (some q_109)) 4 (some q_110)) 5 (some q_111)) 6 (some q_112)) 7 (some q_115))))))), (q_115, .inr (14, [.int 0, .int 7, .int 0, .int 1, .int 110, .int 0, .int 0]))]) (w1 := [(q_116, .inl (cA_117, 1, .inr (.inl v_128)))]) hP hD [0, 1, 2, 5, 6, 7, 3, 4, 19] [8, 9, 10, 11, 12, 13, 14, 15, 16, 17, 18] rfl rfl (by decide) (by decide) hk1 hFc hP1 hD1
    generalize H1 = H at hP hS ⊢
    have hP : va_P (dC, dI) vwCl [(q_90, .inr (16, [.ref q_97, .ref q_103, .ref q_113, .ref q_92, .ref q_93, .int 0, .int 0, .int 0, .int 105, .int 0, .int 0, .int 0, .int (-1), .int 0, .int 0, .int 0, .int 0, .int 0, .int 0, .int 0, .long 0, .int 0, .int 0])), (q_106, .inr (14, [.int 0, .int 7, .int 0, .int 1, .int 110, .int 0, .int 0])), (q_107, .inr (14, [.int 0, .int 7, .int 0, .int 1, .int 110, .int 0, .int 0])), (q_108, .inr (14, [.int 0, .int 7, .int 0, .int 1, .int 110, .int 0, .int 0])), (q_109, .inr (14, [.int 0, .int 7, .int 0, .int 1, .int 110, .int 0, .int 0])), (q_110, .inr (14, [.int 0, .int 7, .int 0, .int 1, .int 110, .int 0, .int 0])), (q_111, .inr (14, [.int 0, .int 7, .int 0, .int 1, .int 110, .int 0, .int 0])), (q_112, .inr (14, [.int 0, .int 7, .int 0, .int 1, .int 110, .int 0, .int 0])), (q_113, .inr (3, [.int 8, .ref q_114, .int 8])), (q_114, .inl (cO, 10, .inr (.inr (.inr (.inr (va_up (va_up (va_up (va_up (va_up (va_up (va_up (va_up nn 0 (some q_106)) 1 (some q_107)) 2 (some q_108)) 3 (some q_109)) 4 (some q_110)) 5 (some q_111)) 6 (some q_112)) 7 (some q_115))))))), (q_115, .inr (14, [.int 0, .int 7, .int 0, .int 1, .int 110, .int 0, .int 0])), (q_116, .inl (cA_117, 1, .inr (.inl v_128)))] H := hP
    have hD : va_D A [(q_90, .inr (16, [.ref q_97, .ref q_103, .ref q_113, .ref q_92, .ref q_93, .int 0, .int 0, .int 0, .int 105, .int 0, .int 0, .int 0, .int (-1), .int 0, .int 0, .int 0, .int 0, .int 0, .int 0, .int 0, .long 0, .int 0, .int 0])), (q_106, .inr (14, [.int 0, .int 7, .int 0, .int 1, .int 110, .int 0, .int 0])), (q_107, .inr (14, [.int 0, .int 7, .int 0, .int 1, .int 110, .int 0, .int 0])), (q_108, .inr (14, [.int 0, .int 7, .int 0, .int 1, .int 110, .int 0, .int 0])), (q_109, .inr (14, [.int 0, .int 7, .int 0, .int 1, .int 110, .int 0, .int 0])), (q_110, .inr (14, [.int 0, .int 7, .int 0, .int 1, .int 110, .int 0, .int 0])), (q_111, .inr (14, [.int 0, .int 7, .int 0, .int 1, .int 110, .int 0, .int 0])), (q_112, .inr (14, [.int 0, .int 7, .int 0, .int 1, .int 110, .int 0, .int 0])), (q_113, .inr (3, [.int 8, .ref q_114, .int 8])), (q_114, .inl (cO, 10, .inr (.inr (.inr (.inr (va_up (va_up (va_up (va_up (va_up (va_up (va_up (va_up nn 0 (some q_106)) 1 (some q_107)) 2 (some q_108)) 3 (some q_109)) 4 (some q_110)) 5 (some q_111)) 6 (some q_112)) 7 (some q_115))))))), (q_115, .inr (14, [.int 0, .int 7, .int 0, .int 1, .int 110, .int 0, .int 0])), (q_116, .inl (cA_117, 1, .inr (.inl v_128)))] := hD
    refine lt_ci (y := sp_X8_setLine (xs 1) (xs 2)) (hw.1) ?_
    have hv_129 : sp_X8_setLine (xs 1) (xs 2) = 0 → v_128 0 = 7 := hw.2
    refine W.widen (k := 116) (n := 1860) (Nat.le_of_ble_eq_true rfl) (Nat.le_of_ble_eq_true rfl) ?_
    refine lv_istore (lv' := [(6, .int (sp_X8_setLine (xs 1) (xs 2))), (5, .int 0), (4, .ref q_118), (3, .ref q_116), (2, .ref q_90), (1, .ref q_1), (0, .ref b)]) hx hb dL_law_686 hl (by decide) rfl (fun ls hl => ?_)
    refine lv_aload_n hx hb dL_law_688 rfl (lv_at hl 4 rfl) ?_
    refine lv_aload_n hx hb dL_law_689 rfl (lv_at hl 6 rfl) ?_
    refine lv_iload hx hb dL_law_690 (lv_at hl 1 rfl) ?_
    refine lv_iconst (v := 1) hx hb dL_law_692 (by decide) ?_
    refine lv_iadd hx hb dL_law_693 ?_
    refine lt_ci (y := 1) (by first | rfl | decide) ?_
    refine va_sld hx hb hX hbl hbA hS (by unfold vp_in; decide) dL_law_694 ?_
    refine lt_ci (y := (xs 1)) rfl ?_
    refine lv_aload_n hx hb dL_law_695 rfl (lv_at hl 6 rfl) ?_
    refine lv_iload hx hb dL_law_696 (lv_at hl 1 rfl) ?_
    refine lv_iconst (v := 2) hx hb dL_law_698 (by decide) ?_
    refine lv_iadd hx hb dL_law_699 ?_
    refine lt_ci (y := 2) (by first | rfl | decide) ?_
    refine va_sld hx hb hX hbl hbA hS (by unfold vp_in; decide) dL_law_700 ?_
    refine lt_ci (y := (xs 2)) rfl ?_
    refine lv_aload_n hx hb dL_law_701 rfl (lv_at hl 6 rfl) ?_
    refine lv_iload hx hb dL_law_702 (lv_at hl 1 rfl) ?_
    refine lv_iconst (v := 3) hx hb dL_law_704 (by decide) ?_
    refine lv_iadd hx hb dL_law_705 ?_
    refine lt_ci (y := 3) (by first | rfl | decide) ?_
    refine va_sld hx hb hX hbl hbA hS (by unfold vp_in; decide) dL_law_706 ?_
    refine lt_ci (y := (xs 3)) rfl ?_
    refine lv_if_eq (tgt := 714) hx hb dL_law_707 (by decide) (fun c => absurd c (c_674)) (fun _ => ?_)
    refine lv_iconst (v := 1) hx hb dL_law_710 (by decide) ?_
    refine lv_goto (tgt := 715) hx hb dL_law_711 (by decide) ?_
    have hPc := hP.sub (ws' := [(q_90, .inr (16, [.ref q_97, .ref q_103, .ref q_113, .ref q_92, .ref q_93, .int 0, .int 0, .int 0, .int 105, .int 0, .int 0, .int 0, .int (-1), .int 0, .int 0, .int 0, .int 0, .int 0, .int 0, .int 0, .long 0, .int 0, .int 0])), (q_113, .inr (3, [.int 8, .ref q_114, .int 8])), (q_114, .inl (cO, 10, .inr (.inr (.inr (.inr (va_up (va_up (va_up (va_up (va_up (va_up (va_up (va_up nn 0 (some q_106)) 1 (some q_107)) 2 (some q_108)) 3 (some q_109)) 4 (some q_110)) 5 (some q_111)) 6 (some q_112)) 7 (some q_115))))))), (q_106, .inr (14, [.int 0, .int 7, .int 0, .int 1, .int 110, .int 0, .int 0])), (q_107, .inr (14, [.int 0, .int 7, .int 0, .int 1, .int 110, .int 0, .int 0])), (q_108, .inr (14, [.int 0, .int 7, .int 0, .int 1, .int 110, .int 0, .int 0])), (q_109, .inr (14, [.int 0, .int 7, .int 0, .int 1, .int 110, .int 0, .int 0])), (q_110, .inr (14, [.int 0, .int 7, .int 0, .int 1, .int 110, .int 0, .int 0])), (q_111, .inr (14, [.int 0, .int 7, .int 0, .int 1, .int 110, .int 0, .int 0])), (q_112, .inr (14, [.int 0, .int 7, .int 0, .int 1, .int 110, .int 0, .int 0])), (q_115, .inr (14, [.int 0, .int 7, .int 0, .int 1, .int 110, .int 0, .int 0]))]) [0, 8, 9, 1, 2, 3, 4, 5, 6, 7, 10] rfl
    have hDc := hD.sub (ws' := [(q_90, .inr (16, [.ref q_97, .ref q_103, .ref q_113, .ref q_92, .ref q_93, .int 0, .int 0, .int 0, .int 105, .int 0, .int 0, .int 0, .int (-1), .int 0, .int 0, .int 0, .int 0, .int 0, .int 0, .int 0, .long 0, .int 0, .int 0])), (q_113, .inr (3, [.int 8, .ref q_114, .int 8])), (q_114, .inl (cO, 10, .inr (.inr (.inr (.inr (va_up (va_up (va_up (va_up (va_up (va_up (va_up (va_up nn 0 (some q_106)) 1 (some q_107)) 2 (some q_108)) 3 (some q_109)) 4 (some q_110)) 5 (some q_111)) 6 (some q_112)) 7 (some q_115))))))), (q_106, .inr (14, [.int 0, .int 7, .int 0, .int 1, .int 110, .int 0, .int 0])), (q_107, .inr (14, [.int 0, .int 7, .int 0, .int 1, .int 110, .int 0, .int 0])), (q_108, .inr (14, [.int 0, .int 7, .int 0, .int 1, .int 110, .int 0, .int 0])), (q_109, .inr (14, [.int 0, .int 7, .int 0, .int 1, .int 110, .int 0, .int 0])), (q_110, .inr (14, [.int 0, .int 7, .int 0, .int 1, .int 110, .int 0, .int 0])), (q_111, .inr (14, [.int 0, .int 7, .int 0, .int 1, .int 110, .int 0, .int 0])), (q_112, .inr (14, [.int 0, .int 7, .int 0, .int 1, .int 110, .int 0, .int 0])), (q_115, .inr (14, [.int 0, .int 7, .int 0, .int 1, .int 110, .int 0, .int 0]))]) [0, 8, 9, 1, 2, 3, 4, 5, 6, 7, 10] (by decide) rfl
    have hKc := hK.sub (tys' := [(cI, .int), (cZ, .boolean), (cO, .object "java/lang/Object")]) [0, 1, 2] rfl
    have hFc := va_free (wc := [(q_90, .inr (16, [.ref q_97, .ref q_103, .ref q_113, .ref q_92, .ref q_93, .int 0, .int 0, .int 0, .int 105, .int 0, .int 0, .int 0, .int (-1), .int 0, .int 0, .int 0, .int 0, .int 0, .int 0, .int 0, .long 0, .int 0, .int 0])), (q_113, .inr (3, [.int 8, .ref q_114, .int 8])), (q_114, .inl (cO, 10, .inr (.inr (.inr (.inr (va_up (va_up (va_up (va_up (va_up (va_up (va_up (va_up nn 0 (some q_106)) 1 (some q_107)) 2 (some q_108)) 3 (some q_109)) 4 (some q_110)) 5 (some q_111)) 6 (some q_112)) 7 (some q_115))))))), (q_106, .inr (14, [.int 0, .int 7, .int 0, .int 1, .int 110, .int 0, .int 0])), (q_107, .inr (14, [.int 0, .int 7, .int 0, .int 1, .int 110, .int 0, .int 0])), (q_108, .inr (14, [.int 0, .int 7, .int 0, .int 1, .int 110, .int 0, .int 0])), (q_109, .inr (14, [.int 0, .int 7, .int 0, .int 1, .int 110, .int 0, .int 0])), (q_110, .inr (14, [.int 0, .int 7, .int 0, .int 1, .int 110, .int 0, .int 0])), (q_111, .inr (14, [.int 0, .int 7, .int 0, .int 1, .int 110, .int 0, .int 0])), (q_112, .inr (14, [.int 0, .int 7, .int 0, .int 1, .int 110, .int 0, .int 0])), (q_115, .inr (14, [.int 0, .int 7, .int 0, .int 1, .int 110, .int 0, .int 0]))]) hD hS hA [0, 8, 9, 1, 2, 3, 4, 5, 6, 7, 10] rfl
    refine va_calli (va_runV (As := [.int (xs 1), .int (xs 2), .int 1]) (rest := []) ⟨hx, hb, hml, hown, hts⟩ (c_X12_setLine l dC dI g q_90 q_92 q_93 q_97 q_103 q_113 q_114 q_106 q_107 q_108 q_109 q_110 q_111 q_112 q_115 cI cZ cO 0 (xs 1) (xs 2) 1 H.size (by decide) (by decide)) (cwV 3 hts gL_law_X12_setLine rfl rfl rfl (by decide +kernel) ⟨Nat.le_of_ble_eq_true rfl, Nat.le_of_ble_eq_true rfl⟩) ⟨wIn_blind, va_recv hK hP (ci := 16) (q0 := 0) rfl rfl, wIn_at hPc hKc hDc hG hS hFc⟩ rfl rfl hl.1 rfl (lv_room (Nat.le_of_ble_eq_true rfl)) dL_law_715 ⟨Nat.le_of_ble_eq_true rfl, Nat.le_of_ble_eq_true rfl⟩) hS (fun q _ h => hFc q h) hFc (fun r_130 u t H1 locs ht hvm hw hB hz1 hk1 hS => ?_)
    obtain ⟨v_131, rfl⟩ : ∃ z, z = u := ⟨_, rfl⟩
    have hw : v_131 = mp_X12_setLine (xs 1) (xs 2) ∧ (mp_X12_setLine (xs 1) (xs 2) = 0 → r_130 = 7) := hw
    obtain ⟨hm9, hv_132⟩ := hw
    subst hm9
    obtain ⟨hP1, hK1, hD1⟩ := hB
    rw [ht] at hP1
    obtain ⟨hP, hD⟩ := va_join (wr := [(q_116, .inl (cA_117, 1, .inr (.inl v_128)))]) (w1 := [(q_90, .inr (16, [.ref q_97, .ref q_103, .ref q_113, .ref q_92, .ref q_93, .int 0, .int 0, .int 0, .int 105, .int 0, .int 0, .int 0, .int (-1), .int 0, .int 0, .int 0, .int 0, .int 0, .int 0, .int 0, .long 0, .int 0, .int (mp_X12_setLine (xs 1) (xs 2))]))]) hP hD [0, 8, 9, 1, 2, 3, 4, 5, 6, 7, 10] [11] rfl rfl (by decide) (by decide) hk1 hFc hP1 hD1
    generalize H1 = H at hP hS ⊢
    have hP : va_P (dC, dI) vwCl [(q_116, .inl (cA_117, 1, .inr (.inl v_128))), (q_90, .inr (16, [.ref q_97, .ref q_103, .ref q_113, .ref q_92, .ref q_93, .int 0, .int 0, .int 0, .int 105, .int 0, .int 0, .int 0, .int (-1), .int 0, .int 0, .int 0, .int 0, .int 0, .int 0, .int 0, .long 0, .int 0, .int (mp_X12_setLine (xs 1) (xs 2))]))] H := hP
    have hD : va_D A [(q_116, .inl (cA_117, 1, .inr (.inl v_128))), (q_90, .inr (16, [.ref q_97, .ref q_103, .ref q_113, .ref q_92, .ref q_93, .int 0, .int 0, .int 0, .int 105, .int 0, .int 0, .int 0, .int (-1), .int 0, .int 0, .int 0, .int 0, .int 0, .int 0, .int 0, .long 0, .int 0, .int (mp_X12_setLine (xs 1) (xs 2))]))] := hD
    refine lv_istore (lv' := [(7, .int r_130), (6, .int (sp_X8_setLine (xs 1) (xs 2))), (5, .int 0), (4, .ref q_118), (3, .ref q_116), (2, .ref q_90), (1, .ref q_1), (0, .ref b)]) hx hb dL_law_718 hl (by decide) rfl (fun ls hl => ?_)
    refine lv_aload_n hx hb dL_law_720 rfl (lv_at hl 5 rfl) ?_
    have hPc := hP.sub (ws' := [(q_90, .inr (16, [.ref q_97, .ref q_103, .ref q_113, .ref q_92, .ref q_93, .int 0, .int 0, .int 0, .int 105, .int 0, .int 0, .int 0, .int (-1), .int 0, .int 0, .int 0, .int 0, .int 0, .int 0, .int 0, .long 0, .int 0, .int (mp_X12_setLine (xs 1) (xs 2))]))]) [1] rfl
    have hDc := hD.sub (ws' := [(q_90, .inr (16, [.ref q_97, .ref q_103, .ref q_113, .ref q_92, .ref q_93, .int 0, .int 0, .int 0, .int 105, .int 0, .int 0, .int 0, .int (-1), .int 0, .int 0, .int 0, .int 0, .int 0, .int 0, .int 0, .long 0, .int 0, .int (mp_X12_setLine (xs 1) (xs 2))]))]) [1] (by decide) rfl
    have hKc := hK.sub (tys' := [(cI, .int), (cZ, .boolean), (cO, .object "java/lang/Object")]) [0, 1, 2] rfl
    have hFc := va_free (wc := [(q_90, .inr (16, [.ref q_97, .ref q_103, .ref q_113, .ref q_92, .ref q_93, .int 0, .int 0, .int 0, .int 105, .int 0, .int 0, .int 0, .int (-1), .int 0, .int 0, .int 0, .int 0, .int 0, .int 0, .int 0, .long 0, .int 0, .int (mp_X12_setLine (xs 1) (xs 2))]))]) hD hS hA [1] rfl
    refine va_calli (va_runV (As := []) (rest := []) ⟨hx, hb, hml, hown, hts⟩ (c_X12_thrown l dC dI g q_90 (.ref q_97) (.ref q_103) (.ref q_113) (.ref q_92) (.ref q_93) (.int 0) (.int 0) (.int 0) (.int 105) (.int 0) (.int 0) (.int 0) (.int (-1)) (.int 0) (.int 0) (.int 0) (.int 0) (.int 0) (.int 0) (.int 0) (.long 0) (.int 0) cI cZ cO (mp_X12_setLine (xs 1) (xs 2)) H.size) (cwV 0 hts gL_law_X12_thrown rfl rfl rfl (by decide +kernel) ⟨Nat.le_of_ble_eq_true rfl, Nat.le_of_ble_eq_true rfl⟩) ⟨wIn_blind, va_recv hK hP (ci := 16) (q0 := 1) rfl rfl, wIn_at hPc hKc hDc hG hS hFc⟩ rfl rfl hl.1 rfl (lv_room (Nat.le_of_ble_eq_true rfl)) dL_law_721 ⟨Nat.le_of_ble_eq_true rfl, Nat.le_of_ble_eq_true rfl⟩) hS (fun q _ h => hFc q h) hFc (fun r_133 u t H1 locs ht hvm hw hB hz1 hk1 hS => ?_)
    obtain ⟨hP1, hK1, hD1⟩ := hB
    rw [ht] at hP1
    obtain ⟨hP, hD⟩ := va_join (wr := [(q_116, .inl (cA_117, 1, .inr (.inl v_128)))]) (w1 := [(q_90, .inr (16, [.ref q_97, .ref q_103, .ref q_113, .ref q_92, .ref q_93, .int 0, .int 0, .int 0, .int 105, .int 0, .int 0, .int 0, .int (-1), .int 0, .int 0, .int 0, .int 0, .int 0, .int 0, .int 0, .long 0, .int 0, .int (mp_X12_setLine (xs 1) (xs 2))]))]) hP hD [1] [0] rfl rfl (by decide) (by decide) hk1 hFc hP1 hD1
    generalize H1 = H at hP hS ⊢
    have hP : va_P (dC, dI) vwCl [(q_116, .inl (cA_117, 1, .inr (.inl v_128))), (q_90, .inr (16, [.ref q_97, .ref q_103, .ref q_113, .ref q_92, .ref q_93, .int 0, .int 0, .int 0, .int 105, .int 0, .int 0, .int 0, .int (-1), .int 0, .int 0, .int 0, .int 0, .int 0, .int 0, .int 0, .long 0, .int 0, .int (mp_X12_setLine (xs 1) (xs 2))]))] H := hP
    have hD : va_D A [(q_116, .inl (cA_117, 1, .inr (.inl v_128))), (q_90, .inr (16, [.ref q_97, .ref q_103, .ref q_113, .ref q_92, .ref q_93, .int 0, .int 0, .int 0, .int 105, .int 0, .int 0, .int 0, .int (-1), .int 0, .int 0, .int 0, .int 0, .int 0, .int 0, .int 0, .long 0, .int 0, .int (mp_X12_setLine (xs 1) (xs 2))]))] := hD
    refine lt_ci (y := (mp_X12_setLine (xs 1) (xs 2))) hw ?_
    refine lt_ci (y := sp_X8_setLine (xs 1) (xs 2)) (sm_X12_setLine _ _) ?_
    refine lv_iload hx hb dL_law_724 (lv_at hl 1 rfl) ?_
    refine lv_icmp_eq (tgt := 731) hx hb dL_law_726 (by decide) (fun _ => ?_) (fun c => absurd (rfl) c)
    refine lv_iload hx hb dL_law_731 (lv_at hl 1 rfl) ?_
    refine lv_if_ne (tgt := 748) hx hb dL_law_733 (by decide) (fun c_733 => ?_) (fun c_733 => ?_)
    · refine lv_goto (tgt := 1976) hx hb dL_law_748 (by decide) ?_
      refine lv_iinc (v := 6) (lv' := [(5, .int 6), (7, .int r_130), (6, .int (sp_X8_setLine (xs 1) (xs 2))), (4, .ref q_118), (3, .ref q_116), (2, .ref q_90), (1, .ref q_1), (0, .ref b)]) hx hb dL_law_1976 hl (k := 2) rfl (by first | rfl | decide) (by decide) rfl (fun ls hl => ?_)
      refine lv_goto (tgt := 28) hx hb dL_law_1979 (by decide) ?_
      refine lv_iload hx hb dL_law_28 (lv_at hl 0 rfl) ?_
      refine lv_aload_n hx hb dL_law_30 rfl (lv_at hl 7 rfl) ?_
      refine va_slen hx hb hX hbl hbA hS dL_law_31 ?_
      refine lt_ci (y := 6) rfl ?_
      refine lv_bipush (v := 6) hx hb dL_law_32 (by decide) ?_
      refine lv_isub hx hb dL_law_34 ?_
      refine lt_ci (y := 0) (by first | rfl | decide) ?_
      refine lv_icmp_gt (tgt := 1982) hx hb dL_law_35 (by decide) (fun _ => ?_) (fun c => absurd (by decide) c)
      refine lv_iconst (v := 1) hx hb dL_law_1982 (by decide) ?_
      refine W.widen (k := 735603) (n := 6895256) (Nat.le_of_ble_eq_true rfl) (Nat.le_of_ble_eq_true rfl) ?_
      refine va_forget (fun q hq => by have h9 := hS.2.2 q hq; rw [hAe] at h9; exact h9) ?_
      exact W.base (lw_ret (Drawn.sameBut.refl s.drawn lw_cs) hx hb hr hlocks dL_law_1983)
    · refine lv_aload_n hx hb dL_law_736 rfl (lv_at hl 4 rfl) ?_
      refine lv_iconst (v := 0) hx hb dL_law_737 (by decide) ?_
      refine va_lald (D := (dC, dI)) hx hb hK hP 0 3 rfl rfl (by unfold vp_in; decide) dL_law_738 ?_
      refine lt_cl (y := 7) (show _ = (7 : Int64) from hv_129 c_733) ?_
      refine lv_iload hx hb dL_law_739 (lv_at hl 0 rfl) ?_
      refine lt_ci (y := 7) (hv_132 ((sm_X12_setLine _ _).trans c_733)) ?_
      refine lv_i2l (v := 7) hx hb dL_law_741 (by first | rfl | decide) ?_
      refine W.lcmp hx hb dL_law_742 ?_
      refine lt_ci (y := 0) (by first | rfl | decide) ?_
      refine lv_if_eq (tgt := 748) hx hb dL_law_743 (by decide) (fun _ => ?_) (fun c => absurd (by decide) c)
      refine lv_goto (tgt := 1976) hx hb dL_law_748 (by decide) ?_
      refine lv_iinc (v := 6) (lv' := [(5, .int 6), (7, .int r_130), (6, .int (sp_X8_setLine (xs 1) (xs 2))), (4, .ref q_118), (3, .ref q_116), (2, .ref q_90), (1, .ref q_1), (0, .ref b)]) hx hb dL_law_1976 hl (k := 2) rfl (by first | rfl | decide) (by decide) rfl (fun ls hl => ?_)
      refine lv_goto (tgt := 28) hx hb dL_law_1979 (by decide) ?_
      refine lv_iload hx hb dL_law_28 (lv_at hl 0 rfl) ?_
      refine lv_aload_n hx hb dL_law_30 rfl (lv_at hl 7 rfl) ?_
      refine va_slen hx hb hX hbl hbA hS dL_law_31 ?_
      refine lt_ci (y := 6) rfl ?_
      refine lv_bipush (v := 6) hx hb dL_law_32 (by decide) ?_
      refine lv_isub hx hb dL_law_34 ?_
      refine lt_ci (y := 0) (by first | rfl | decide) ?_
      refine lv_icmp_gt (tgt := 1982) hx hb dL_law_35 (by decide) (fun _ => ?_) (fun c => absurd (by decide) c)
      refine lv_iconst (v := 1) hx hb dL_law_1982 (by decide) ?_
      refine W.widen (k := 735603) (n := 6895256) (Nat.le_of_ble_eq_true rfl) (Nat.le_of_ble_eq_true rfl) ?_
      refine va_forget (fun q hq => by have h9 := hS.2.2 q hq; rw [hAe] at h9; exact h9) ?_
      exact W.base (lw_ret (Drawn.sameBut.refl s.drawn lw_cs) hx hb hr hlocks dL_law_1983)
set_option maxHeartbeats 8000000 in
set_option maxRecDepth 100000 in
theorem c_L_law_6 {p : Program} {e : Env} {s : State} {m : MethodId} {below : List Frame} {meth : Method} {c : Code} (l : Launch) (hl9 : l.stackTraces = false) (dC : Nat → ClassId) (dI : Nat → Nat → Nat) (g : Nat × Nat × Nat) (b : Nat) (xs : Nat → Int32) (cI cZ cO : ClassId) (hx : p.tables.exec = Jvm.exec) (hb : c.code = cL_law) (hr : meth.sig.returnType = ret) (hml : c.maxLocals = 9) (hown : s.vm.findClass RL = some m.cls) (hts : ∀ w ∈ wsL_law, w.before #[Value.ref b] s = true) (hX : va_X b 6 xs s s.heap) (hbl : b < s.heap.size) (hlocks : meth.locks = false) (hG : gx g (fun q => s.heap.size ≤ q) s s.heap) (hk : (xs 0 &&& 63) = 6) (cA_117 : ClassId) (cA_119 : ClassId) (q_1 : Nat) (q_3 : Nat) (q_4 : Nat) (q_10 : Nat) (q_18 : Nat) (q_21 : Nat) (q_22 : Nat) (q_23 : Nat) (q_24 : Nat) (q_25 : Nat) (q_26 : Nat) (q_27 : Nat) (q_31 : Nat) (q_32 : Nat) (q_61 : Nat) (q_90 : Nat) (q_92 : Nat) (q_93 : Nat) (q_97 : Nat) (q_103 : Nat) (q_106 : Nat) (q_107 : Nat) (q_108 : Nat) (q_109 : Nat) (q_110 : Nat) (q_111 : Nat) (q_112 : Nat) (q_113 : Nat) (q_114 : Nat) (q_115 : Nat) (q_116 : Nat) (q_118 : Nat) (H : Heap) (locs : List Loc) (ls : Array Slot) (hK : va_K (dC, dI) vwCl [(cI, .int), (cZ, .boolean), (cO, .object "java/lang/Object"), (cA_117, .long), (cA_119, .double)] s) (hP : va_P (dC, dI) vwCl [(q_1, .inr (12, [.ref q_3, .ref q_32, .ref q_61])), (q_3, .inr (4, [.ref q_4, .ref q_10, .ref q_18, .ref q_21, .ref q_27, .ref q_31, .int 0, .int 0, .long 0])), (q_21, .inr (6, [.ref q_24, .ref q_25, .ref q_26, .ref q_22, .ref q_23, .int 0, .int 0])), (q_22, .inl (cI, 8, .inl (cn 0))), (q_23, .inl (cI, 8, .inl (cn 0))), (q_24, .inl (cI, 8, .inl (cn 7))), (q_25, .inl (cI, 8, .inl (cn 1))), (q_26, .inl (cI, 8, .inl (cn 110))), (q_90, .inr (16, [.ref q_97, .ref q_103, .ref q_113, .ref q_92, .ref q_93, .int 0, .int 0, .int 0, .int 105, .int 0, .int 0, .int 0, .int (-1), .int 0, .int 0, .int 0, .int 0, .int 0, .int 0, .int 0, .long 0, .int 0, .int 0])), (q_106, .inr (14, [.int 0, .int 7, .int 0, .int 1, .int 110, .int 0, .int 0])), (q_107, .inr (14, [.int 0, .int 7, .int 0, .int 1, .int 110, .int 0, .int 0])), (q_108, .inr (14, [.int 0, .int 7, .int 0, .int 1, .int 110, .int 0, .int 0])), (q_109, .inr (14, [.int 0, .int 7, .int 0, .int 1, .int 110, .int 0, .int 0])), (q_110, .inr (14, [.int 0, .int 7, .int 0, .int 1, .int 110, .int 0, .int 0])), (q_111, .inr (14, [.int 0, .int 7, .int 0, .int 1, .int 110, .int 0, .int 0])), (q_112, .inr (14, [.int 0, .int 7, .int 0, .int 1, .int 110, .int 0, .int 0])), (q_113, .inr (3, [.int 8, .ref q_114, .int 8])), (q_114, .inl (cO, 10, .inr (.inr (.inr (.inr (va_up (va_up (va_up (va_up (va_up (va_up (va_up (va_up nn 0 (some q_106)) 1 (some q_107)) 2 (some q_108)) 3 (some q_109)) 4 (some q_110)) 5 (some q_111)) 6 (some q_112)) 7 (some q_115))))))), (q_115, .inr (14, [.int 0, .int 7, .int 0, .int 1, .int 110, .int 0, .int 0])), (q_116, .inl (cA_117, 1, .inr (.inl cnL)))] H) (hD : va_D (fun q => s.heap.size ≤ q) [(q_1, .inr (12, [.ref q_3, .ref q_32, .ref q_61])), (q_3, .inr (4, [.ref q_4, .ref q_10, .ref q_18, .ref q_21, .ref q_27, .ref q_31, .int 0, .int 0, .long 0])), (q_21, .inr (6, [.ref q_24, .ref q_25, .ref q_26, .ref q_22, .ref q_23, .int 0, .int 0])), (q_22, .inl (cI, 8, .inl (cn 0))), (q_23, .inl (cI, 8, .inl (cn 0))), (q_24, .inl (cI, 8, .inl (cn 7))), (q_25, .inl (cI, 8, .inl (cn 1))), (q_26, .inl (cI, 8, .inl (cn 110))), (q_90, .inr (16, [.ref q_97, .ref q_103, .ref q_113, .ref q_92, .ref q_93, .int 0, .int 0, .int 0, .int 105, .int 0, .int 0, .int 0, .int (-1), .int 0, .int 0, .int 0, .int 0, .int 0, .int 0, .int 0, .long 0, .int 0, .int 0])), (q_106, .inr (14, [.int 0, .int 7, .int 0, .int 1, .int 110, .int 0, .int 0])), (q_107, .inr (14, [.int 0, .int 7, .int 0, .int 1, .int 110, .int 0, .int 0])), (q_108, .inr (14, [.int 0, .int 7, .int 0, .int 1, .int 110, .int 0, .int 0])), (q_109, .inr (14, [.int 0, .int 7, .int 0, .int 1, .int 110, .int 0, .int 0])), (q_110, .inr (14, [.int 0, .int 7, .int 0, .int 1, .int 110, .int 0, .int 0])), (q_111, .inr (14, [.int 0, .int 7, .int 0, .int 1, .int 110, .int 0, .int 0])), (q_112, .inr (14, [.int 0, .int 7, .int 0, .int 1, .int 110, .int 0, .int 0])), (q_113, .inr (3, [.int 8, .ref q_114, .int 8])), (q_114, .inl (cO, 10, .inr (.inr (.inr (.inr (va_up (va_up (va_up (va_up (va_up (va_up (va_up (va_up nn 0 (some q_106)) 1 (some q_107)) 2 (some q_108)) 3 (some q_109)) 4 (some q_110)) 5 (some q_111)) 6 (some q_112)) 7 (some q_115))))))), (q_115, .inr (14, [.int 0, .int 7, .int 0, .int 1, .int 110, .int 0, .int 0])), (q_116, .inl (cA_117, 1, .inr (.inl cnL)))]) (hS : va_S (fun q => s.heap.size ≤ q) s.heap H locs) (hl : lv_has ls 9 [(5, .int 0), (4, .ref q_118), (3, .ref q_116), (2, .ref q_90), (1, .ref q_1), (0, .ref b)]) : W p l e room_1 s m #[Value.ref b] below meth c H locs 115 1854 (lw_Z below #[Value.ref b] s) (F0 m 28 ls []) := by
  have hN := hG.1
  obtain ⟨A, hAe⟩ : ∃ A : Nat → Prop, A = (fun q => s.heap.size ≤ q) := ⟨_, rfl⟩
  rw [← hAe] at hG hD hS
  have hA : ∀ q : Nat, s.heap.size ≤ q → A q := fun q h => by rw [hAe]; exact h
  have hbA : ¬ A b := by rw [hAe]; exact Nat.not_le.mpr hbl
  refine lv_iload hx hb dL_law_28 (lv_at hl 0 rfl) ?_
  refine lv_aload_n hx hb dL_law_30 rfl (lv_at hl 5 rfl) ?_
  refine va_slen hx hb hX hbl hbA hS dL_law_31 ?_
  refine lt_ci (y := 6) rfl ?_
  refine lv_bipush (v := 6) hx hb dL_law_32 (by decide) ?_
  refine lv_isub hx hb dL_law_34 ?_
  refine lt_ci (y := 0) (by first | rfl | decide) ?_
  refine lv_icmp_gt (tgt := 1982) hx hb dL_law_35 (by decide) (fun c => absurd c (by decide)) (fun _ => ?_)
  refine lv_aload_n hx hb dL_law_38 rfl (lv_at hl 5 rfl) ?_
  refine lv_iload hx hb dL_law_39 (lv_at hl 0 rfl) ?_
  refine va_sld hx hb hX hbl hbA hS (by unfold vp_in; decide) dL_law_41 ?_
  refine lt_ci (y := (xs 0)) rfl ?_
  refine lv_bipush (v := 63) hx hb dL_law_42 (by decide) ?_
  refine lv_iand hx hb dL_law_44 ?_
  refine lt_ci (y := 6) hk ?_
  refine lv_tableIn (off := 706) (tgt := 751) hx hb dL_law_45 (by decide) (by decide) (by decide) (by decide) ?_
  refine lv_aload_n hx hb dL_law_751 rfl (lv_at hl 4 rfl) ?_
  refine lv_aload_n hx hb dL_law_752 rfl (lv_at hl 5 rfl) ?_
  refine lv_iload hx hb dL_law_753 (lv_at hl 0 rfl) ?_
  refine lv_iconst (v := 1) hx hb dL_law_755 (by decide) ?_
  refine lv_iadd hx hb dL_law_756 ?_
  refine lt_ci (y := 1) (by first | rfl | decide) ?_
  refine va_sld hx hb hX hbl hbA hS (by unfold vp_in; decide) dL_law_757 ?_
  refine lt_ci (y := (xs 1)) rfl ?_
  refine lv_aload_n hx hb dL_law_758 rfl (lv_at hl 5 rfl) ?_
  refine lv_iload hx hb dL_law_759 (lv_at hl 0 rfl) ?_
  refine lv_iconst (v := 2) hx hb dL_law_761 (by decide) ?_
  refine lv_iadd hx hb dL_law_762 ?_
  refine lt_ci (y := 2) (by first | rfl | decide) ?_
  refine va_sld hx hb hX hbl hbA hS (by unfold vp_in; decide) dL_law_763 ?_
  refine lt_ci (y := (xs 2)) rfl ?_
  refine lv_aload_n hx hb dL_law_764 rfl (lv_at hl 5 rfl) ?_
  refine lv_iload hx hb dL_law_765 (lv_at hl 0 rfl) ?_
  refine lv_iconst (v := 3) hx hb dL_law_767 (by decide) ?_
  refine lv_iadd hx hb dL_law_768 ?_
  refine lt_ci (y := 3) (by first | rfl | decide) ?_
  refine va_sld hx hb hX hbl hbA hS (by unfold vp_in; decide) dL_law_769 ?_
  refine lt_ci (y := (xs 3)) rfl ?_
  refine lv_i2c (v := (((xs 3)).toUInt32 % 65536).toInt32) hx hb dL_law_770 (by first | rfl | decide) ?_
  refine lv_aload_n hx hb dL_law_771 rfl (lv_at hl 5 rfl) ?_
  refine lv_iload hx hb dL_law_772 (lv_at hl 0 rfl) ?_
  refine lv_iconst (v := 4) hx hb dL_law_774 (by decide) ?_
  refine lv_iadd hx hb dL_law_775 ?_
  refine lt_ci (y := 4) (by first | rfl | decide) ?_
  refine va_sld hx hb hX hbl hbA hS (by unfold vp_in; decide) dL_law_776 ?_
  refine lt_ci (y := (xs 4)) rfl ?_
  refine lv_aload_n hx hb dL_law_777 rfl (lv_at hl 2 rfl) ?_
  have hPc := hP.sub (ws' := [(q_1, .inr (12, [.ref q_3, .ref q_32, .ref q_61])), (q_3, .inr (4, [.ref q_4, .ref q_10, .ref q_18, .ref q_21, .ref q_27, .ref q_31, .int 0, .int 0, .long 0])), (q_21, .inr (6, [.ref q_24, .ref q_25, .ref q_26, .ref q_22, .ref q_23, .int 0, .int 0])), (q_24, .inl (cI, 8, .inl (cn 7))), (q_25, .inl (cI, 8, .inl (cn 1))), (q_26, .inl (cI, 8, .inl (cn 110))), (q_22, .inl (cI, 8, .inl (cn 0))), (q_23, .inl (cI, 8, .inl (cn 0))), (q_116, .inl (cA_117, 1, .inr (.inl cnL)))]) [0, 1, 2, 5, 6, 7, 3, 4, 19] rfl
  have hDc := hD.sub (ws' := [(q_1, .inr (12, [.ref q_3, .ref q_32, .ref q_61])), (q_3, .inr (4, [.ref q_4, .ref q_10, .ref q_18, .ref q_21, .ref q_27, .ref q_31, .int 0, .int 0, .long 0])), (q_21, .inr (6, [.ref q_24, .ref q_25, .ref q_26, .ref q_22, .ref q_23, .int 0, .int 0])), (q_24, .inl (cI, 8, .inl (cn 7))), (q_25, .inl (cI, 8, .inl (cn 1))), (q_26, .inl (cI, 8, .inl (cn 110))), (q_22, .inl (cI, 8, .inl (cn 0))), (q_23, .inl (cI, 8, .inl (cn 0))), (q_116, .inl (cA_117, 1, .inr (.inl cnL)))]) [0, 1, 2, 5, 6, 7, 3, 4, 19] (by decide) rfl
  have hKc := hK.sub (tys' := [(cI, .int), (cA_117, .long)]) [0, 3] rfl
  have hFc := va_free (wc := [(q_1, .inr (12, [.ref q_3, .ref q_32, .ref q_61])), (q_3, .inr (4, [.ref q_4, .ref q_10, .ref q_18, .ref q_21, .ref q_27, .ref q_31, .int 0, .int 0, .long 0])), (q_21, .inr (6, [.ref q_24, .ref q_25, .ref q_26, .ref q_22, .ref q_23, .int 0, .int 0])), (q_24, .inl (cI, 8, .inl (cn 7))), (q_25, .inl (cI, 8, .inl (cn 1))), (q_26, .inl (cI, 8, .inl (cn 110))), (q_22, .inl (cI, 8, .inl (cn 0))), (q_23, .inl (cI, 8, .inl (cn 0))), (q_116, .inl (cA_117, 1, .inr (.inl cnL)))]) hD hS hA [0, 1, 2, 5, 6, 7, 3, 4, 19] rfl
  refine vx_calli (vx_runSX (As := [.ref q_1, .int (xs 1), .int (xs 2), .int ((((xs 3)).toUInt32 % 65536).toInt32), .int (xs 4), .ref q_116]) (rest := []) ⟨hx, hb, hml, hown, hts⟩ (c_L_setHandler l hl9 dC dI g q_1 q_32 q_61 q_3 q_4 q_10 q_18 q_21 q_24 q_25 q_26 q_22 q_23 q_27 q_31 cI (xs 1) (xs 2) ((((xs 3)).toUInt32 % 65536).toInt32) (xs 4) cnL q_116 cA_117 H.size) (vx_cwSW 6 hts gL_law_L_setHandler rfl rfl rfl (by decide +kernel) ⟨Nat.le_of_ble_eq_true rfl, Nat.le_of_ble_eq_true rfl⟩) ⟨wIn_blind, wIn_at hPc hKc hDc hG hS hFc⟩ rfl rfl hl.1 rfl (lv_room (Nat.le_of_ble_eq_true rfl)) dL_law_778 ⟨Nat.le_of_ble_eq_true rfl, Nat.le_of_ble_eq_true rfl⟩) hS (fun q _ h => hFc q h) hFc (fun q _ h => hFc q h) (fun E9 ce9 q9 u9 t H1 locs ht hvm hx9 hB9 hz1 hk1 hS hce hcv hcl => False.elim hx9) (fun r_120 u t H1 locs ht hvm hw hB hz1 hk1 hS => ?_)
  obtain ⟨v_121, rfl⟩ : ∃ z, z = u := ⟨_, rfl⟩
  obtain ⟨hP1, hK1, hD1⟩ := hB
  rw [ht] at hP1
  obtain ⟨hP, hD⟩ := va_join (wr := [(q_90, .inr (16, [.ref q_97, .ref q_103, .ref q_113, .ref q_92, .ref q_93, .int 0, .int 0, .int 0, .int 105, .int 0, .int 0, .int 0, .int (-1), .int 0, .int 0, .int 0, .int 0, .int 0, .int 0, .int 0, .long 0, .int 0, .int 0])), (q_106, .inr (14, [.int 0, .int 7, .int 0, .int 1, .int 110, .int 0, .int 0])), (q_107, .inr (14, [.int 0, .int 7, .int 0, .int 1, .int 110, .int 0, .int 0])), (q_108, .inr (14, [.int 0, .int 7, .int 0, .int 1, .int 110, .int 0, .int 0])), (q_109, .inr (14, [.int 0, .int 7, .int 0, .int 1, .int 110, .int 0, .int 0])), (q_110, .inr (14, [.int 0, .int 7, .int 0, .int 1, .int 110, .int 0, .int 0])), (q_111, .inr (14, [.int 0, .int 7, .int 0, .int 1, .int 110, .int 0, .int 0])), (q_112, .inr (14, [.int 0, .int 7, .int 0, .int 1, .int 110, .int 0, .int 0])), (q_113, .inr (3, [.int 8, .ref q_114, .int 8])), (q_114, .inl (cO, 10, .inr (.inr (.inr (.inr (va_up (va_up (va_up (va_up (va_up (va_up (va_up (va_up nn 0 (some q_106)) 1 (some q_107)) 2 (some q_108)) 3 (some q_109)) 4 (some q_110)) 5 (some q_111)) 6 (some q_112)) 7 (some q_115))))))), (q_115, .inr (14, [.int 0, .int 7, .int 0, .int 1, .int 110, .int 0, .int 0]))]) (w1 := [(q_116, .inl (cA_117, 1, .inr (.inl v_121)))]) hP hD [0, 1, 2, 5, 6, 7, 3, 4, 19] [8, 9, 10, 11, 12, 13, 14, 15, 16, 17, 18] rfl rfl (by decide) (by decide) hk1 hFc hP1 hD1
  generalize H1 = H at hP hS ⊢
  have hP : va_P (dC, dI) vwCl [(q_90, .inr (16, [.ref q_97, .ref q_103, .ref q_113, .ref q_92, .ref q_93, .int 0, .int 0, .int 0, .int 105, .int 0, .int 0, .int 0, .int (-1), .int 0, .int 0, .int 0, .int 0, .int 0, .int 0, .int 0, .long 0, .int 0, .int 0])), (q_106, .inr (14, [.int 0, .int 7, .int 0, .int 1, .int 110, .int 0, .int 0])), (q_107, .inr (14, [.int 0, .int 7, .int 0, .int 1, .int 110, .int 0, .int 0])), (q_108, .inr (14, [.int 0, .int 7, .int 0, .int 1, .int 110, .int 0, .int 0])), (q_109, .inr (14, [.int 0, .int 7, .int 0, .int 1, .int 110, .int 0, .int 0])), (q_110, .inr (14, [.int 0, .int 7, .int 0, .int 1, .int 110, .int 0, .int 0])), (q_111, .inr (14, [.int 0, .int 7, .int 0, .int 1, .int 110, .int 0, .int 0])), (q_112, .inr (14, [.int 0, .int 7, .int 0, .int 1, .int 110, .int 0, .int 0])), (q_113, .inr (3, [.int 8, .ref q_114, .int 8])), (q_114, .inl (cO, 10, .inr (.inr (.inr (.inr (va_up (va_up (va_up (va_up (va_up (va_up (va_up (va_up nn 0 (some q_106)) 1 (some q_107)) 2 (some q_108)) 3 (some q_109)) 4 (some q_110)) 5 (some q_111)) 6 (some q_112)) 7 (some q_115))))))), (q_115, .inr (14, [.int 0, .int 7, .int 0, .int 1, .int 110, .int 0, .int 0])), (q_116, .inl (cA_117, 1, .inr (.inl v_121)))] H := hP
  have hD : va_D A [(q_90, .inr (16, [.ref q_97, .ref q_103, .ref q_113, .ref q_92, .ref q_93, .int 0, .int 0, .int 0, .int 105, .int 0, .int 0, .int 0, .int (-1), .int 0, .int 0, .int 0, .int 0, .int 0, .int 0, .int 0, .long 0, .int 0, .int 0])), (q_106, .inr (14, [.int 0, .int 7, .int 0, .int 1, .int 110, .int 0, .int 0])), (q_107, .inr (14, [.int 0, .int 7, .int 0, .int 1, .int 110, .int 0, .int 0])), (q_108, .inr (14, [.int 0, .int 7, .int 0, .int 1, .int 110, .int 0, .int 0])), (q_109, .inr (14, [.int 0, .int 7, .int 0, .int 1, .int 110, .int 0, .int 0])), (q_110, .inr (14, [.int 0, .int 7, .int 0, .int 1, .int 110, .int 0, .int 0])), (q_111, .inr (14, [.int 0, .int 7, .int 0, .int 1, .int 110, .int 0, .int 0])), (q_112, .inr (14, [.int 0, .int 7, .int 0, .int 1, .int 110, .int 0, .int 0])), (q_113, .inr (3, [.int 8, .ref q_114, .int 8])), (q_114, .inl (cO, 10, .inr (.inr (.inr (.inr (va_up (va_up (va_up (va_up (va_up (va_up (va_up (va_up nn 0 (some q_106)) 1 (some q_107)) 2 (some q_108)) 3 (some q_109)) 4 (some q_110)) 5 (some q_111)) 6 (some q_112)) 7 (some q_115))))))), (q_115, .inr (14, [.int 0, .int 7, .int 0, .int 1, .int 110, .int 0, .int 0])), (q_116, .inl (cA_117, 1, .inr (.inl v_121)))] := hD
  refine lt_ci (y := sp_X8_setHandler (xs 1) (xs 2) ((((xs 3)).toUInt32 % 65536).toInt32) (xs 4)) (hw.1) ?_
  have hv_122 : sp_X8_setHandler (xs 1) (xs 2) ((((xs 3)).toUInt32 % 65536).toInt32) (xs 4) = 0 → v_121 0 = 1 := hw.2
  refine W.widen (k := 116) (n := 1860) (Nat.le_of_ble_eq_true rfl) (Nat.le_of_ble_eq_true rfl) ?_
  refine lv_istore (lv' := [(6, .int (sp_X8_setHandler (xs 1) (xs 2) ((((xs 3)).toUInt32 % 65536).toInt32) (xs 4))), (5, .int 0), (4, .ref q_118), (3, .ref q_116), (2, .ref q_90), (1, .ref q_1), (0, .ref b)]) hx hb dL_law_781 hl (by decide) rfl (fun ls hl => ?_)
  refine lv_aload_n hx hb dL_law_783 rfl (lv_at hl 4 rfl) ?_
  refine lv_aload_n hx hb dL_law_784 rfl (lv_at hl 6 rfl) ?_
  refine lv_iload hx hb dL_law_785 (lv_at hl 1 rfl) ?_
  refine lv_iconst (v := 1) hx hb dL_law_787 (by decide) ?_
  refine lv_iadd hx hb dL_law_788 ?_
  refine lt_ci (y := 1) (by first | rfl | decide) ?_
  refine va_sld hx hb hX hbl hbA hS (by unfold vp_in; decide) dL_law_789 ?_
  refine lt_ci (y := (xs 1)) rfl ?_
  refine lv_aload_n hx hb dL_law_790 rfl (lv_at hl 6 rfl) ?_
  refine lv_iload hx hb dL_law_791 (lv_at hl 1 rfl) ?_
  refine lv_iconst (v := 2) hx hb dL_law_793 (by decide) ?_
  refine lv_iadd hx hb dL_law_794 ?_
  refine lt_ci (y := 2) (by first | rfl | decide) ?_
  refine va_sld hx hb hX hbl hbA hS (by unfold vp_in; decide) dL_law_795 ?_
  refine lt_ci (y := (xs 2)) rfl ?_
  refine lv_aload_n hx hb dL_law_796 rfl (lv_at hl 6 rfl) ?_
  refine lv_iload hx hb dL_law_797 (lv_at hl 1 rfl) ?_
  refine lv_iconst (v := 3) hx hb dL_law_799 (by decide) ?_
  refine lv_iadd hx hb dL_law_800 ?_
  refine lt_ci (y := 3) (by first | rfl | decide) ?_
  refine va_sld hx hb hX hbl hbA hS (by unfold vp_in; decide) dL_law_801 ?_
  refine lt_ci (y := (xs 3)) rfl ?_
  refine lv_i2c (v := (((xs 3)).toUInt32 % 65536).toInt32) hx hb dL_law_802 (by first | rfl | decide) ?_
  refine lv_aload_n hx hb dL_law_803 rfl (lv_at hl 6 rfl) ?_
  refine lv_iload hx hb dL_law_804 (lv_at hl 1 rfl) ?_
  refine lv_iconst (v := 4) hx hb dL_law_806 (by decide) ?_
  refine lv_iadd hx hb dL_law_807 ?_
  refine lt_ci (y := 4) (by first | rfl | decide) ?_
  refine va_sld hx hb hX hbl hbA hS (by unfold vp_in; decide) dL_law_808 ?_
  refine lt_ci (y := (xs 4)) rfl ?_
  have hPc := hP.sub (ws' := [(q_90, .inr (16, [.ref q_97, .ref q_103, .ref q_113, .ref q_92, .ref q_93, .int 0, .int 0, .int 0, .int 105, .int 0, .int 0, .int 0, .int (-1), .int 0, .int 0, .int 0, .int 0, .int 0, .int 0, .int 0, .long 0, .int 0, .int 0])), (q_113, .inr (3, [.int 8, .ref q_114, .int 8])), (q_114, .inl (cO, 10, .inr (.inr (.inr (.inr (va_up (va_up (va_up (va_up (va_up (va_up (va_up (va_up nn 0 (some q_106)) 1 (some q_107)) 2 (some q_108)) 3 (some q_109)) 4 (some q_110)) 5 (some q_111)) 6 (some q_112)) 7 (some q_115))))))), (q_106, .inr (14, [.int 0, .int 7, .int 0, .int 1, .int 110, .int 0, .int 0])), (q_107, .inr (14, [.int 0, .int 7, .int 0, .int 1, .int 110, .int 0, .int 0])), (q_108, .inr (14, [.int 0, .int 7, .int 0, .int 1, .int 110, .int 0, .int 0])), (q_109, .inr (14, [.int 0, .int 7, .int 0, .int 1, .int 110, .int 0, .int 0])), (q_110, .inr (14, [.int 0, .int 7, .int 0, .int 1, .int 110, .int 0, .int 0])), (q_111, .inr (14, [.int 0, .int 7, .int 0, .int 1, .int 110, .int 0, .int 0])), (q_112, .inr (14, [.int 0, .int 7, .int 0, .int 1, .int 110, .int 0, .int 0])), (q_115, .inr (14, [.int 0, .int 7, .int 0, .int 1, .int 110, .int 0, .int 0]))]) [0, 8, 9, 1, 2, 3, 4, 5, 6, 7, 10] rfl
  have hDc := hD.sub (ws' := [(q_90, .inr (16, [.ref q_97, .ref q_103, .ref q_113, .ref q_92, .ref q_93, .int 0, .int 0, .int 0, .int 105, .int 0, .int 0, .int 0, .int (-1), .int 0, .int 0, .int 0, .int 0, .int 0, .int 0, .int 0, .long 0, .int 0, .int 0])), (q_113, .inr (3, [.int 8, .ref q_114, .int 8])), (q_114, .inl (cO, 10, .inr (.inr (.inr (.inr (va_up (va_up (va_up (va_up (va_up (va_up (va_up (va_up nn 0 (some q_106)) 1 (some q_107)) 2 (some q_108)) 3 (some q_109)) 4 (some q_110)) 5 (some q_111)) 6 (some q_112)) 7 (some q_115))))))), (q_106, .inr (14, [.int 0, .int 7, .int 0, .int 1, .int 110, .int 0, .int 0])), (q_107, .inr (14, [.int 0, .int 7, .int 0, .int 1, .int 110, .int 0, .int 0])), (q_108, .inr (14, [.int 0, .int 7, .int 0, .int 1, .int 110, .int 0, .int 0])), (q_109, .inr (14, [.int 0, .int 7, .int 0, .int 1, .int 110, .int 0, .int 0])), (q_110, .inr (14, [.int 0, .int 7, .int 0, .int 1, .int 110, .int 0, .int 0])), (q_111, .inr (14, [.int 0, .int 7, .int 0, .int 1, .int 110, .int 0, .int 0])), (q_112, .inr (14, [.int 0, .int 7, .int 0, .int 1, .int 110, .int 0, .int 0])), (q_115, .inr (14, [.int 0, .int 7, .int 0, .int 1, .int 110, .int 0, .int 0]))]) [0, 8, 9, 1, 2, 3, 4, 5, 6, 7, 10] (by decide) rfl
  have hKc := hK.sub (tys' := [(cI, .int), (cZ, .boolean), (cO, .object "java/lang/Object")]) [0, 1, 2] rfl
  have hFc := va_free (wc := [(q_90, .inr (16, [.ref q_97, .ref q_103, .ref q_113, .ref q_92, .ref q_93, .int 0, .int 0, .int 0, .int 105, .int 0, .int 0, .int 0, .int (-1), .int 0, .int 0, .int 0, .int 0, .int 0, .int 0, .int 0, .long 0, .int 0, .int 0])), (q_113, .inr (3, [.int 8, .ref q_114, .int 8])), (q_114, .inl (cO, 10, .inr (.inr (.inr (.inr (va_up (va_up (va_up (va_up (va_up (va_up (va_up (va_up nn 0 (some q_106)) 1 (some q_107)) 2 (some q_108)) 3 (some q_109)) 4 (some q_110)) 5 (some q_111)) 6 (some q_112)) 7 (some q_115))))))), (q_106, .inr (14, [.int 0, .int 7, .int 0, .int 1, .int 110, .int 0, .int 0])), (q_107, .inr (14, [.int 0, .int 7, .int 0, .int 1, .int 110, .int 0, .int 0])), (q_108, .inr (14, [.int 0, .int 7, .int 0, .int 1, .int 110, .int 0, .int 0])), (q_109, .inr (14, [.int 0, .int 7, .int 0, .int 1, .int 110, .int 0, .int 0])), (q_110, .inr (14, [.int 0, .int 7, .int 0, .int 1, .int 110, .int 0, .int 0])), (q_111, .inr (14, [.int 0, .int 7, .int 0, .int 1, .int 110, .int 0, .int 0])), (q_112, .inr (14, [.int 0, .int 7, .int 0, .int 1, .int 110, .int 0, .int 0])), (q_115, .inr (14, [.int 0, .int 7, .int 0, .int 1, .int 110, .int 0, .int 0]))]) hD hS hA [0, 8, 9, 1, 2, 3, 4, 5, 6, 7, 10] rfl
  refine va_calli (va_runV (As := [.int (xs 1), .int (xs 2), .int ((((xs 3)).toUInt32 % 65536).toInt32), .int (xs 4)]) (rest := []) ⟨hx, hb, hml, hown, hts⟩ (c_X12_setHandler l dC dI g q_90 q_92 q_93 q_97 q_103 q_113 q_114 q_106 q_107 q_108 q_109 q_110 q_111 q_112 q_115 cI cZ cO 0 (xs 1) (xs 2) ((((xs 3)).toUInt32 % 65536).toInt32) (xs 4) H.size (pk_nc _) (pk_fc _)) (cwV 4 hts gL_law_X12_setHandler rfl rfl rfl (by decide +kernel) ⟨Nat.le_of_ble_eq_true rfl, Nat.le_of_ble_eq_true rfl⟩) ⟨wIn_blind, va_recv hK hP (ci := 16) (q0 := 0) rfl rfl, wIn_at hPc hKc hDc hG hS hFc⟩ rfl rfl hl.1 rfl (lv_room (Nat.le_of_ble_eq_true rfl)) dL_law_809 ⟨Nat.le_of_ble_eq_true rfl, Nat.le_of_ble_eq_true rfl⟩) hS (fun q _ h => hFc q h) hFc (fun r_123 u t H1 locs ht hvm hw hB hz1 hk1 hS => ?_)
  obtain ⟨v_124, rfl⟩ : ∃ z, z = u := ⟨_, rfl⟩
  have hw : v_124 = mp_X12_setHandler (xs 1) (xs 2) ((((xs 3)).toUInt32 % 65536).toInt32) (xs 4) ∧ (mp_X12_setHandler (xs 1) (xs 2) ((((xs 3)).toUInt32 % 65536).toInt32) (xs 4) = 0 → r_123 = 1) := hw
  obtain ⟨hm9, hv_125⟩ := hw
  subst hm9
  obtain ⟨hP1, hK1, hD1⟩ := hB
  rw [ht] at hP1
  obtain ⟨hP, hD⟩ := va_join (wr := [(q_116, .inl (cA_117, 1, .inr (.inl v_121)))]) (w1 := [(q_90, .inr (16, [.ref q_97, .ref q_103, .ref q_113, .ref q_92, .ref q_93, .int 0, .int 0, .int 0, .int 105, .int 0, .int 0, .int 0, .int (-1), .int 0, .int 0, .int 0, .int 0, .int 0, .int 0, .int 0, .long 0, .int 0, .int (mp_X12_setHandler (xs 1) (xs 2) ((((xs 3)).toUInt32 % 65536).toInt32) (xs 4))]))]) hP hD [0, 8, 9, 1, 2, 3, 4, 5, 6, 7, 10] [11] rfl rfl (by decide) (by decide) hk1 hFc hP1 hD1
  generalize H1 = H at hP hS ⊢
  have hP : va_P (dC, dI) vwCl [(q_116, .inl (cA_117, 1, .inr (.inl v_121))), (q_90, .inr (16, [.ref q_97, .ref q_103, .ref q_113, .ref q_92, .ref q_93, .int 0, .int 0, .int 0, .int 105, .int 0, .int 0, .int 0, .int (-1), .int 0, .int 0, .int 0, .int 0, .int 0, .int 0, .int 0, .long 0, .int 0, .int (mp_X12_setHandler (xs 1) (xs 2) ((((xs 3)).toUInt32 % 65536).toInt32) (xs 4))]))] H := hP
  have hD : va_D A [(q_116, .inl (cA_117, 1, .inr (.inl v_121))), (q_90, .inr (16, [.ref q_97, .ref q_103, .ref q_113, .ref q_92, .ref q_93, .int 0, .int 0, .int 0, .int 105, .int 0, .int 0, .int 0, .int (-1), .int 0, .int 0, .int 0, .int 0, .int 0, .int 0, .int 0, .long 0, .int 0, .int (mp_X12_setHandler (xs 1) (xs 2) ((((xs 3)).toUInt32 % 65536).toInt32) (xs 4))]))] := hD
  refine lv_istore (lv' := [(7, .int r_123), (6, .int (sp_X8_setHandler (xs 1) (xs 2) ((((xs 3)).toUInt32 % 65536).toInt32) (xs 4))), (5, .int 0), (4, .ref q_118), (3, .ref q_116), (2, .ref q_90), (1, .ref q_1), (0, .ref b)]) hx hb dL_law_812 hl (by decide) rfl (fun ls hl => ?_)
  refine lv_aload_n hx hb dL_law_814 rfl (lv_at hl 5 rfl) ?_
  have hPc := hP.sub (ws' := [(q_90, .inr (16, [.ref q_97, .ref q_103, .ref q_113, .ref q_92, .ref q_93, .int 0, .int 0, .int 0, .int 105, .int 0, .int 0, .int 0, .int (-1), .int 0, .int 0, .int 0, .int 0, .int 0, .int 0, .int 0, .long 0, .int 0, .int (mp_X12_setHandler (xs 1) (xs 2) ((((xs 3)).toUInt32 % 65536).toInt32) (xs 4))]))]) [1] rfl
  have hDc := hD.sub (ws' := [(q_90, .inr (16, [.ref q_97, .ref q_103, .ref q_113, .ref q_92, .ref q_93, .int 0, .int 0, .int 0, .int 105, .int 0, .int 0, .int 0, .int (-1), .int 0, .int 0, .int 0, .int 0, .int 0, .int 0, .int 0, .long 0, .int 0, .int (mp_X12_setHandler (xs 1) (xs 2) ((((xs 3)).toUInt32 % 65536).toInt32) (xs 4))]))]) [1] (by decide) rfl
  have hKc := hK.sub (tys' := [(cI, .int), (cZ, .boolean), (cO, .object "java/lang/Object")]) [0, 1, 2] rfl
  have hFc := va_free (wc := [(q_90, .inr (16, [.ref q_97, .ref q_103, .ref q_113, .ref q_92, .ref q_93, .int 0, .int 0, .int 0, .int 105, .int 0, .int 0, .int 0, .int (-1), .int 0, .int 0, .int 0, .int 0, .int 0, .int 0, .int 0, .long 0, .int 0, .int (mp_X12_setHandler (xs 1) (xs 2) ((((xs 3)).toUInt32 % 65536).toInt32) (xs 4))]))]) hD hS hA [1] rfl
  refine va_calli (va_runV (As := []) (rest := []) ⟨hx, hb, hml, hown, hts⟩ (c_X12_thrown l dC dI g q_90 (.ref q_97) (.ref q_103) (.ref q_113) (.ref q_92) (.ref q_93) (.int 0) (.int 0) (.int 0) (.int 105) (.int 0) (.int 0) (.int 0) (.int (-1)) (.int 0) (.int 0) (.int 0) (.int 0) (.int 0) (.int 0) (.int 0) (.long 0) (.int 0) cI cZ cO (mp_X12_setHandler (xs 1) (xs 2) ((((xs 3)).toUInt32 % 65536).toInt32) (xs 4)) H.size) (cwV 0 hts gL_law_X12_thrown rfl rfl rfl (by decide +kernel) ⟨Nat.le_of_ble_eq_true rfl, Nat.le_of_ble_eq_true rfl⟩) ⟨wIn_blind, va_recv hK hP (ci := 16) (q0 := 1) rfl rfl, wIn_at hPc hKc hDc hG hS hFc⟩ rfl rfl hl.1 rfl (lv_room (Nat.le_of_ble_eq_true rfl)) dL_law_815 ⟨Nat.le_of_ble_eq_true rfl, Nat.le_of_ble_eq_true rfl⟩) hS (fun q _ h => hFc q h) hFc (fun r_126 u t H1 locs ht hvm hw hB hz1 hk1 hS => ?_)
  obtain ⟨hP1, hK1, hD1⟩ := hB
  rw [ht] at hP1
  obtain ⟨hP, hD⟩ := va_join (wr := [(q_116, .inl (cA_117, 1, .inr (.inl v_121)))]) (w1 := [(q_90, .inr (16, [.ref q_97, .ref q_103, .ref q_113, .ref q_92, .ref q_93, .int 0, .int 0, .int 0, .int 105, .int 0, .int 0, .int 0, .int (-1), .int 0, .int 0, .int 0, .int 0, .int 0, .int 0, .int 0, .long 0, .int 0, .int (mp_X12_setHandler (xs 1) (xs 2) ((((xs 3)).toUInt32 % 65536).toInt32) (xs 4))]))]) hP hD [1] [0] rfl rfl (by decide) (by decide) hk1 hFc hP1 hD1
  generalize H1 = H at hP hS ⊢
  have hP : va_P (dC, dI) vwCl [(q_116, .inl (cA_117, 1, .inr (.inl v_121))), (q_90, .inr (16, [.ref q_97, .ref q_103, .ref q_113, .ref q_92, .ref q_93, .int 0, .int 0, .int 0, .int 105, .int 0, .int 0, .int 0, .int (-1), .int 0, .int 0, .int 0, .int 0, .int 0, .int 0, .int 0, .long 0, .int 0, .int (mp_X12_setHandler (xs 1) (xs 2) ((((xs 3)).toUInt32 % 65536).toInt32) (xs 4))]))] H := hP
  have hD : va_D A [(q_116, .inl (cA_117, 1, .inr (.inl v_121))), (q_90, .inr (16, [.ref q_97, .ref q_103, .ref q_113, .ref q_92, .ref q_93, .int 0, .int 0, .int 0, .int 105, .int 0, .int 0, .int 0, .int (-1), .int 0, .int 0, .int 0, .int 0, .int 0, .int 0, .int 0, .long 0, .int 0, .int (mp_X12_setHandler (xs 1) (xs 2) ((((xs 3)).toUInt32 % 65536).toInt32) (xs 4))]))] := hD
  refine lt_ci (y := (mp_X12_setHandler (xs 1) (xs 2) ((((xs 3)).toUInt32 % 65536).toInt32) (xs 4))) hw ?_
  refine lt_ci (y := sp_X8_setHandler (xs 1) (xs 2) ((((xs 3)).toUInt32 % 65536).toInt32) (xs 4)) (sm_X12_setHandler _ _ _ _) ?_
  refine lv_iload hx hb dL_law_818 (lv_at hl 1 rfl) ?_
  refine lv_icmp_eq (tgt := 825) hx hb dL_law_820 (by decide) (fun _ => ?_) (fun c => absurd (rfl) c)
  refine lv_iload hx hb dL_law_825 (lv_at hl 1 rfl) ?_
  refine lv_if_ne (tgt := 842) hx hb dL_law_827 (by decide) (fun c_827 => ?_) (fun c_827 => ?_)
  · refine lv_goto (tgt := 1976) hx hb dL_law_842 (by decide) ?_
    refine lv_iinc (v := 6) (lv' := [(5, .int 6), (7, .int r_123), (6, .int (sp_X8_setHandler (xs 1) (xs 2) ((((xs 3)).toUInt32 % 65536).toInt32) (xs 4))), (4, .ref q_118), (3, .ref q_116), (2, .ref q_90), (1, .ref q_1), (0, .ref b)]) hx hb dL_law_1976 hl (k := 2) rfl (by first | rfl | decide) (by decide) rfl (fun ls hl => ?_)
    refine lv_goto (tgt := 28) hx hb dL_law_1979 (by decide) ?_
    refine lv_iload hx hb dL_law_28 (lv_at hl 0 rfl) ?_
    refine lv_aload_n hx hb dL_law_30 rfl (lv_at hl 7 rfl) ?_
    refine va_slen hx hb hX hbl hbA hS dL_law_31 ?_
    refine lt_ci (y := 6) rfl ?_
    refine lv_bipush (v := 6) hx hb dL_law_32 (by decide) ?_
    refine lv_isub hx hb dL_law_34 ?_
    refine lt_ci (y := 0) (by first | rfl | decide) ?_
    refine lv_icmp_gt (tgt := 1982) hx hb dL_law_35 (by decide) (fun _ => ?_) (fun c => absurd (by decide) c)
    refine lv_iconst (v := 1) hx hb dL_law_1982 (by decide) ?_
    refine W.widen (k := 735603) (n := 6895256) (Nat.le_of_ble_eq_true rfl) (Nat.le_of_ble_eq_true rfl) ?_
    refine va_forget (fun q hq => by have h9 := hS.2.2 q hq; rw [hAe] at h9; exact h9) ?_
    exact W.base (lw_ret (Drawn.sameBut.refl s.drawn lw_cs) hx hb hr hlocks dL_law_1983)
  · refine lv_aload_n hx hb dL_law_830 rfl (lv_at hl 4 rfl) ?_
    refine lv_iconst (v := 0) hx hb dL_law_831 (by decide) ?_
    refine va_lald (D := (dC, dI)) hx hb hK hP 0 3 rfl rfl (by unfold vp_in; decide) dL_law_832 ?_
    refine lt_cl (y := 1) (show _ = (1 : Int64) from hv_122 c_827) ?_
    refine lv_iload hx hb dL_law_833 (lv_at hl 0 rfl) ?_
    refine lt_ci (y := 1) (hv_125 ((sm_X12_setHandler _ _ _ _).trans c_827)) ?_
    refine lv_i2l (v := 1) hx hb dL_law_835 (by first | rfl | decide) ?_
    refine W.lcmp hx hb dL_law_836 ?_
    refine lt_ci (y := 0) (by first | rfl | decide) ?_
    refine lv_if_eq (tgt := 842) hx hb dL_law_837 (by decide) (fun _ => ?_) (fun c => absurd (by decide) c)
    refine lv_goto (tgt := 1976) hx hb dL_law_842 (by decide) ?_
    refine lv_iinc (v := 6) (lv' := [(5, .int 6), (7, .int r_123), (6, .int (sp_X8_setHandler (xs 1) (xs 2) ((((xs 3)).toUInt32 % 65536).toInt32) (xs 4))), (4, .ref q_118), (3, .ref q_116), (2, .ref q_90), (1, .ref q_1), (0, .ref b)]) hx hb dL_law_1976 hl (k := 2) rfl (by first | rfl | decide) (by decide) rfl (fun ls hl => ?_)
    refine lv_goto (tgt := 28) hx hb dL_law_1979 (by decide) ?_
    refine lv_iload hx hb dL_law_28 (lv_at hl 0 rfl) ?_
    refine lv_aload_n hx hb dL_law_30 rfl (lv_at hl 7 rfl) ?_
    refine va_slen hx hb hX hbl hbA hS dL_law_31 ?_
    refine lt_ci (y := 6) rfl ?_
    refine lv_bipush (v := 6) hx hb dL_law_32 (by decide) ?_
    refine lv_isub hx hb dL_law_34 ?_
    refine lt_ci (y := 0) (by first | rfl | decide) ?_
    refine lv_icmp_gt (tgt := 1982) hx hb dL_law_35 (by decide) (fun _ => ?_) (fun c => absurd (by decide) c)
    refine lv_iconst (v := 1) hx hb dL_law_1982 (by decide) ?_
    refine W.widen (k := 735603) (n := 6895256) (Nat.le_of_ble_eq_true rfl) (Nat.le_of_ble_eq_true rfl) ?_
    refine va_forget (fun q hq => by have h9 := hS.2.2 q hq; rw [hAe] at h9; exact h9) ?_
    exact W.base (lw_ret (Drawn.sameBut.refl s.drawn lw_cs) hx hb hr hlocks dL_law_1983)
