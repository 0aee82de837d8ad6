set_option maxHeartbeats 8000000 in
set_option maxRecDepth 100000 in
theorem c_L_law_25 {p : Program} {e : Env} {s : State} {m : MethodId} {below : List Frame} {meth : Method} {c : Code} (l : Launch) (hl9 : l.stackTraces = false) (dC : Nat → ClassId) (dI : Nat → Nat → Nat) (g : Nat × Nat × Nat) (b : Nat) (xs : Nat → Int32) (cI cZ cO : ClassId) (hx : p.tables.exec = Jvm.exec) (hb : c.code = cL_law) (hr : meth.sig.returnType = ret) (hml : c.maxLocals = 9) (hown : s.vm.findClass RL = some m.cls) (hts : ∀ w ∈ wsL_law, w.before #[Value.ref b] s = true) (hX : va_X b 6 xs s s.heap) (hbl : b < s.heap.size) (hlocks : meth.locks = false) (hG : gx g (fun q => s.heap.size ≤ q) s s.heap) (hk : (xs 0 &&& 63) = 25) (cA_117 : ClassId) (cA_119 : ClassId) (q_1 : Nat) (q_3 : Nat) (q_4 : Nat) (q_10 : Nat) (q_18 : Nat) (q_21 : Nat) (q_27 : Nat) (q_28 : Nat) (q_29 : Nat) (q_30 : Nat) (q_31 : Nat) (q_32 : Nat) (q_61 : Nat) (q_90 : Nat) (q_92 : Nat) (q_93 : Nat) (q_97 : Nat) (q_103 : Nat) (q_113 : Nat) (q_116 : Nat) (q_118 : Nat) (H : Heap) (locs : List Loc) (ls : Array Slot) (hK : va_K (dC, dI) vwCl [(cI, .int), (cZ, .boolean), (cO, .object "java/lang/Object"), (cA_117, .long), (cA_119, .double)] s) (hP : va_P (dC, dI) vwCl [(q_1, .inr (12, [.ref q_3, .ref q_32, .ref q_61])), (q_3, .inr (4, [.ref q_4, .ref q_10, .ref q_18, .ref q_21, .ref q_27, .ref q_31, .int 0, .int 0, .long 0])), (q_27, .inr (8, [.ref q_28, .int 105, .int 0, .int (-1), .int 0, .int 0, .int 0])), (q_28, .inr (9, [.ref q_29, .ref q_30, .int 0])), (q_90, .inr (16, [.ref q_97, .ref q_103, .ref q_113, .ref q_92, .ref q_93, .int 0, .int 0, .int 0, .int 105, .int 0, .int 0, .int 0, .int (-1), .int 0, .int 0, .int 0, .int 0, .int 0, .int 0, .int 0, .long 0, .int 0, .int 0])), (q_92, .inr (3, [.int 0, .ref g.1, .int 0])), (q_116, .inl (cA_117, 1, .inr (.inl cnL)))] H) (hD : va_D (fun q => s.heap.size ≤ q) [(q_1, .inr (12, [.ref q_3, .ref q_32, .ref q_61])), (q_3, .inr (4, [.ref q_4, .ref q_10, .ref q_18, .ref q_21, .ref q_27, .ref q_31, .int 0, .int 0, .long 0])), (q_27, .inr (8, [.ref q_28, .int 105, .int 0, .int (-1), .int 0, .int 0, .int 0])), (q_28, .inr (9, [.ref q_29, .ref q_30, .int 0])), (q_90, .inr (16, [.ref q_97, .ref q_103, .ref q_113, .ref q_92, .ref q_93, .int 0, .int 0, .int 0, .int 105, .int 0, .int 0, .int 0, .int (-1), .int 0, .int 0, .int 0, .int 0, .int 0, .int 0, .int 0, .long 0, .int 0, .int 0])), (q_92, .inr (3, [.int 0, .ref g.1, .int 0])), (q_116, .inl (cA_117, 1, .inr (.inl cnL)))]) (hS : va_S (fun q => s.heap.size ≤ q) s.heap H locs) (hl : lv_has ls 9 [(5, .int 0), (4, .ref q_118), (3, .ref q_116), (2, .ref q_90), (1, .ref q_1), (0, .ref b)]) : W p l e room_1 s m #[Value.ref b] below meth c H locs 115 1854 (lw_Z below #[Value.ref b] s) (F0 m 28 ls []) := by
  have hN := hG.1
  obtain ⟨A, hAe⟩ : ∃ A : Nat → Prop, A = (fun q => s.heap.size ≤ q) := ⟨_, rfl⟩
  rw [← hAe] at hG hD hS
  have hA : ∀ q : Nat, s.heap.size ≤ q → A q := fun q h => by rw [hAe]; exact h
  have hbA : ¬ A b := by rw [hAe]; exact Nat.not_le.mpr hbl
  refine lv_iload hx hb dL_law_28 (lv_at hl 0 rfl) ?_
  refine lv_aload_n hx hb dL_law_30 rfl (lv_at hl 5 rfl) ?_
  refine va_slen hx hb hX hbl hbA hS dL_law_31 ?_
  refine lt_ci (y := 6) rfl ?_
  refine lv_bipush (v := 6) hx hb dL_law_32 (by decide) ?_
  refine lv_isub hx hb dL_law_34 ?_
  refine lt_ci (y := 0) (by first | rfl | decide) ?_
  refine lv_icmp_gt (tgt := 1982) hx hb dL_law_35 (by decide) (fun c => absurd c (by decide)) (fun _ => ?_)
  refine lv_aload_n hx hb dL_law_38 rfl (lv_at hl 5 rfl) ?_
  refine lv_iload hx hb dL_law_39 (lv_at hl 0 rfl) ?_
  refine va_sld hx hb hX hbl hbA hS (by unfold vp_in; decide) dL_law_41 ?_
  refine lt_ci (y := (xs 0)) rfl ?_
  refine lv_bipush (v := 63) hx hb dL_law_42 (by decide) ?_
  refine lv_iand hx hb dL_law_44 ?_
  refine lt_ci (y := 25) hk ?_
  refine lv_tableIn (off := 1590) (tgt := 1635) hx hb dL_law_45 (by decide) (by decide) (by decide) (by decide) ?_
  refine lv_aload_n hx hb dL_law_1635 rfl (lv_at hl 4 rfl) ?_
  refine lv_aload_n hx hb dL_law_1636 rfl (lv_at hl 2 rfl) ?_
  have hPc := hP.sub (ws' := [(q_1, .inr (12, [.ref q_3, .ref q_32, .ref q_61])), (q_3, .inr (4, [.ref q_4, .ref q_10, .ref q_18, .ref q_21, .ref q_27, .ref q_31, .int 0, .int 0, .long 0])), (q_27, .inr (8, [.ref q_28, .int 105, .int 0, .int (-1), .int 0, .int 0, .int 0])), (q_28, .inr (9, [.ref q_29, .ref q_30, .int 0])), (q_116, .inl (cA_117, 1, .inr (.inl cnL)))]) [0, 1, 2, 3, 6] rfl
  have hDc := hD.sub (ws' := [(q_1, .inr (12, [.ref q_3, .ref q_32, .ref q_61])), (q_3, .inr (4, [.ref q_4, .ref q_10, .ref q_18, .ref q_21, .ref q_27, .ref q_31, .int 0, .int 0, .long 0])), (q_27, .inr (8, [.ref q_28, .int 105, .int 0, .int (-1), .int 0, .int 0, .int 0])), (q_28, .inr (9, [.ref q_29, .ref q_30, .int 0])), (q_116, .inl (cA_117, 1, .inr (.inl cnL)))]) [0, 1, 2, 3, 6] (by decide) rfl
  have hKc := hK.sub (tys' := [(cI, .int), (cA_117, .long)]) [0, 3] rfl
  have hFc := va_free (wc := [(q_1, .inr (12, [.ref q_3, .ref q_32, .ref q_61])), (q_3, .inr (4, [.ref q_4, .ref q_10, .ref q_18, .ref q_21, .ref q_27, .ref q_31, .int 0, .int 0, .long 0])), (q_27, .inr (8, [.ref q_28, .int 105, .int 0, .int (-1), .int 0, .int 0, .int 0])), (q_28, .inr (9, [.ref q_29, .ref q_30, .int 0])), (q_116, .inl (cA_117, 1, .inr (.inl cnL)))]) hD hS hA [0, 1, 2, 3, 6] rfl
  refine vx_calli (vx_runSX (As := [.ref q_1, .ref q_116]) (rest := []) ⟨hx, hb, hml, hown, hts⟩ (c_L_onTop l hl9 dC dI g q_1 q_32 q_61 q_3 q_4 q_10 q_18 q_21 q_28 q_29 q_30 q_27 q_31 cI cnL q_116 cA_117 H.size) (vx_cwSW 2 hts gL_law_L_onTop rfl rfl rfl (by decide +kernel) ⟨Nat.le_of_ble_eq_true rfl, Nat.le_of_ble_eq_true rfl⟩) ⟨wIn_blind, wIn_at hPc hKc hDc hG hS hFc⟩ rfl rfl hl.1 rfl (lv_room (Nat.le_of_ble_eq_true rfl)) dL_law_1637 ⟨Nat.le_of_ble_eq_true rfl, Nat.le_of_ble_eq_true rfl⟩) hS (fun q _ h => hFc q h) hFc (fun q _ h => hFc q h) (fun E9 ce9 q9 u9 t H1 locs ht hvm hx9 hB9 hz1 hk1 hS hce hcv hcl => False.elim hx9) (fun r_120 u t H1 locs ht hvm hw hB hz1 hk1 hS => ?_)
  obtain ⟨v_121, rfl⟩ : ∃ z, z = u := ⟨_, rfl⟩
  obtain ⟨hP1, hK1, hD1⟩ := hB
  rw [ht] at hP1
  obtain ⟨hP, hD⟩ := va_join (wr := [(q_90, .inr (16, [.ref q_97, .ref q_103, .ref q_113, .ref q_92, .ref q_93, .int 0, .int 0, .int 0, .int 105, .int 0, .int 0, .int 0, .int (-1), .int 0, .int 0, .int 0, .int 0, .int 0, .int 0, .int 0, .long 0, .int 0, .int 0])), (q_92, .inr (3, [.int 0, .ref g.1, .int 0]))]) (w1 := [(q_116, .inl (cA_117, 1, .inr (.inl v_121)))]) hP hD [0, 1, 2, 3, 6] [4, 5] rfl rfl (by decide) (by decide) hk1 hFc hP1 hD1
  generalize H1 = H at hP hS ⊢
  have hP : va_P (dC, dI) vwCl [(q_90, .inr (16, [.ref q_97, .ref q_103, .ref q_113, .ref q_92, .ref q_93, .int 0, .int 0, .int 0, .int 105, .int 0, .int 0, .int 0, .int (-1), .int 0, .int 0, .int 0, .int 0, .int 0, .int 0, .int 0, .long 0, .int 0, .int 0])), (q_92, .inr (3, [.int 0, .ref g.1, .int 0])), (q_116, .inl (cA_117, 1, .inr (.inl v_121)))] H := hP
  have hD : va_D A [(q_90, .inr (16, [.ref q_97, .ref q_103, .ref q_113, .ref q_92, .ref q_93, .int 0, .int 0, .int 0, .int 105, .int 0, .int 0, .int 0, .int (-1), .int 0, .int 0, .int 0, .int 0, .int 0, .int 0, .int 0, .long 0, .int 0, .int 0])), (q_92, .inr (3, [.int 0, .ref g.1, .int 0])), (q_116, .inl (cA_117, 1, .inr (.inl v_121)))] := hD
  refine lt_ci (y := 1) (hw.trans ((kc_sp_X8_onTop))) ?_
  refine W.widen (k := 116) (n := 1860) (Nat.le_of_ble_eq_true rfl) (Nat.le_of_ble_eq_true rfl) ?_
  refine lv_istore (lv' := [(6, .int 1), (5, .int 0), (4, .ref q_118), (3, .ref q_116), (2, .ref q_90), (1, .ref q_1), (0, .ref b)]) hx hb dL_law_1640 hl (by decide) rfl (fun ls hl => ?_)
  refine lv_aload_n hx hb dL_law_1642 rfl (lv_at hl 4 rfl) ?_
  have hPc := hP.sub (ws' := [(q_90, .inr (16, [.ref q_97, .ref q_103, .ref q_113, .ref q_92, .ref q_93, .int 0, .int 0, .int 0, .int 105, .int 0, .int 0, .int 0, .int (-1), .int 0, .int 0, .int 0, .int 0, .int 0, .int 0, .int 0, .long 0, .int 0, .int 0])), (q_92, .inr (3, [.int 0, .ref g.1, .int 0]))]) [0, 1] rfl
  have hDc := hD.sub (ws' := [(q_90, .inr (16, [.ref q_97, .ref q_103, .ref q_113, .ref q_92, .ref q_93, .int 0, .int 0, .int 0, .int 105, .int 0, .int 0, .int 0, .int (-1), .int 0, .int 0, .int 0, .int 0, .int 0, .int 0, .int 0, .long 0, .int 0, .int 0])), (q_92, .inr (3, [.int 0, .ref g.1, .int 0]))]) [0, 1] (by decide) rfl
  have hKc := hK.sub (tys' := [(cI, .int), (cZ, .boolean), (cO, .object "java/lang/Object")]) [0, 1, 2] rfl
  have hFc := va_free (wc := [(q_90, .inr (16, [.ref q_97, .ref q_103, .ref q_113, .ref q_92, .ref q_93, .int 0, .int 0, .int 0, .int 105, .int 0, .int 0, .int 0, .int (-1), .int 0, .int 0, .int 0, .int 0, .int 0, .int 0, .int 0, .long 0, .int 0, .int 0])), (q_92, .inr (3, [.int 0, .ref g.1, .int 0]))]) hD hS hA [0, 1] rfl
  refine va_calli (va_runV (As := []) (rest := []) ⟨hx, hb, hml, hown, hts⟩ (c_X12_onTop l dC dI g q_90 q_92 q_93 q_97 q_103 q_113 cI cZ cO 0 H.size) (cwV 0 hts gL_law_X12_onTop rfl rfl rfl (by decide +kernel) ⟨Nat.le_of_ble_eq_true rfl, Nat.le_of_ble_eq_true rfl⟩) ⟨wIn_blind, va_recv hK hP (ci := 16) (q0 := 0) rfl rfl, wIn_at hPc hKc hDc hG hS hFc⟩ rfl rfl hl.1 rfl (lv_room (Nat.le_of_ble_eq_true rfl)) dL_law_1643 ⟨Nat.le_of_ble_eq_true rfl, Nat.le_of_ble_eq_true rfl⟩) hS (fun q _ h => hFc q h) hFc (fun r_122 u t H1 locs ht hvm hw hB hz1 hk1 hS => ?_)
  obtain ⟨v_123, rfl⟩ : ∃ z, z = u := ⟨_, rfl⟩
  have hm9 : v_123 = mp_X12_onTop := hw
  have hm9 := hm9.trans ((kc_mp_X12_onTop))
  subst hm9
  obtain ⟨hP1, hK1, hD1⟩ := hB
  rw [ht] at hP1
  obtain ⟨hP, hD⟩ := va_join (wr := [(q_116, .inl (cA_117, 1, .inr (.inl v_121)))]) (w1 := [(q_90, .inr (16, [.ref q_97, .ref q_103, .ref q_113, .ref q_92, .ref q_93, .int 0, .int 0, .int 0, .int 105, .int 0, .int 0, .int 0, .int (-1), .int 0, .int 0, .int 0, .int 0, .int 0, .int 0, .int 0, .long 0, .int 0, .int 1]))]) hP hD [0, 1] [2] rfl rfl (by decide) (by decide) hk1 hFc hP1 hD1
  generalize H1 = H at hP hS ⊢
  have hP : va_P (dC, dI) vwCl [(q_116, .inl (cA_117, 1, .inr (.inl v_121))), (q_90, .inr (16, [.ref q_97, .ref q_103, .ref q_113, .ref q_92, .ref q_93, .int 0, .int 0, .int 0, .int 105, .int 0, .int 0, .int 0, .int (-1), .int 0, .int 0, .int 0, .int 0, .int 0, .int 0, .int 0, .long 0, .int 0, .int 1]))] H := hP
  have hD : va_D A [(q_116, .inl (cA_117, 1, .inr (.inl v_121))), (q_90, .inr (16, [.ref q_97, .ref q_103, .ref q_113, .ref q_92, .ref q_93, .int 0, .int 0, .int 0, .int 105, .int 0, .int 0, .int 0, .int (-1), .int 0, .int 0, .int 0, .int 0, .int 0, .int 0, .int 0, .long 0, .int 0, .int 1]))] := hD
  refine lv_istore (lv' := [(7, .int r_122), (6, .int 1), (5, .int 0), (4, .ref q_118), (3, .ref q_116), (2, .ref q_90), (1, .ref q_1), (0, .ref b)]) hx hb dL_law_1646 hl (by decide) rfl (fun ls hl => ?_)
  refine lv_aload_n hx hb dL_law_1648 rfl (lv_at hl 5 rfl) ?_
  have hPc := hP.sub (ws' := [(q_90, .inr (16, [.ref q_97, .ref q_103, .ref q_113, .ref q_92, .ref q_93, .int 0, .int 0, .int 0, .int 105, .int 0, .int 0, .int 0, .int (-1), .int 0, .int 0, .int 0, .int 0, .int 0, .int 0, .int 0, .long 0, .int 0, .int 1]))]) [1] rfl
  have hDc := hD.sub (ws' := [(q_90, .inr (16, [.ref q_97, .ref q_103, .ref q_113, .ref q_92, .ref q_93, .int 0, .int 0, .int 0, .int 105, .int 0, .int 0, .int 0, .int (-1), .int 0, .int 0, .int 0, .int 0, .int 0, .int 0, .int 0, .long 0, .int 0, .int 1]))]) [1] (by decide) rfl
  have hKc := hK.sub (tys' := [(cI, .int), (cZ, .boolean), (cO, .object "java/lang/Object")]) [0, 1, 2] rfl
  have hFc := va_free (wc := [(q_90, .inr (16, [.ref q_97, .ref q_103, .ref q_113, .ref q_92, .ref q_93, .int 0, .int 0, .int 0, .int 105, .int 0, .int 0, .int 0, .int (-1), .int 0, .int 0, .int 0, .int 0, .int 0, .int 0, .int 0, .long 0, .int 0, .int 1]))]) hD hS hA [1] rfl
  refine va_calli (va_runV (As := []) (rest := []) ⟨hx, hb, hml, hown, hts⟩ (c_X12_thrown l dC dI g q_90 (.ref q_97) (.ref q_103) (.ref q_113) (.ref q_92) (.ref q_93) (.int 0) (.int 0) (.int 0) (.int 105) (.int 0) (.int 0) (.int 0) (.int (-1)) (.int 0) (.int 0) (.int 0) (.int 0) (.int 0) (.int 0) (.int 0) (.long 0) (.int 0) cI cZ cO 1 H.size) (cwV 0 hts gL_law_X12_thrown rfl rfl rfl (by decide +kernel) ⟨Nat.le_of_ble_eq_true rfl, Nat.le_of_ble_eq_true rfl⟩) ⟨wIn_blind, va_recv hK hP (ci := 16) (q0 := 1) rfl rfl, wIn_at hPc hKc hDc hG hS hFc⟩ rfl rfl hl.1 rfl (lv_room (Nat.le_of_ble_eq_true rfl)) dL_law_1649 ⟨Nat.le_of_ble_eq_true rfl, Nat.le_of_ble_eq_true rfl⟩) hS (fun q _ h => hFc q h) hFc (fun r_125 u t H1 locs ht hvm hw hB hz1 hk1 hS => ?_)
  obtain ⟨hP1, hK1, hD1⟩ := hB
  rw [ht] at hP1
  obtain ⟨hP, hD⟩ := va_join (wr := [(q_116, .inl (cA_117, 1, .inr (.inl v_121)))]) (w1 := [(q_90, .inr (16, [.ref q_97, .ref q_103, .ref q_113, .ref q_92, .ref q_93, .int 0, .int 0, .int 0, .int 105, .int 0, .int 0, .int 0, .int (-1), .int 0, .int 0, .int 0, .int 0, .int 0, .int 0, .int 0, .long 0, .int 0, .int 1]))]) hP hD [1] [0] rfl rfl (by decide) (by decide) hk1 hFc hP1 hD1
  generalize H1 = H at hP hS ⊢
  have hP : va_P (dC, dI) vwCl [(q_116, .inl (cA_117, 1, .inr (.inl v_121))), (q_90, .inr (16, [.ref q_97, .ref q_103, .ref q_113, .ref q_92, .ref q_93, .int 0, .int 0, .int 0, .int 105, .int 0, .int 0, .int 0, .int (-1), .int 0, .int 0, .int 0, .int 0, .int 0, .int 0, .int 0, .long 0, .int 0, .int 1]))] H := hP
  have hD : va_D A [(q_116, .inl (cA_117, 1, .inr (.inl v_121))), (q_90, .inr (16, [.ref q_97, .ref q_103, .ref q_113, .ref q_92, .ref q_93, .int 0, .int 0, .int 0, .int 105, .int 0, .int 0, .int 0, .int (-1), .int 0, .int 0, .int 0, .int 0, .int 0, .int 0, .int 0, .long 0, .int 0, .int 1]))] := hD
  refine lt_ci (y := 1) hw ?_
  refine lv_iload hx hb dL_law_1652 (lv_at hl 1 rfl) ?_
  refine lv_icmp_eq (tgt := 1659) hx hb dL_law_1654 (by decide) (fun _ => ?_) (fun c => absurd (by decide) c)
  refine lv_iload hx hb dL_law_1659 (lv_at hl 1 rfl) ?_
  refine lv_if_ne (tgt := 1676) hx hb dL_law_1661 (by decide) (fun _ => ?_) (fun c => absurd c (by decide))
  refine lv_goto (tgt := 1976) hx hb dL_law_1676 (by decide) ?_
  refine lv_iinc (v := 6) (lv' := [(5, .int 6), (7, .int r_122), (6, .int 1), (4, .ref q_118), (3, .ref q_116), (2, .ref q_90), (1, .ref q_1), (0, .ref b)]) hx hb dL_law_1976 hl (k := 2) rfl (by first | rfl | decide) (by decide) rfl (fun ls hl => ?_)
  refine lv_goto (tgt := 28) hx hb dL_law_1979 (by decide) ?_
  refine lv_iload hx hb dL_law_28 (lv_at hl 0 rfl) ?_
  refine lv_aload_n hx hb dL_law_30 rfl (lv_at hl 7 rfl) ?_
  refine va_slen hx hb hX hbl hbA hS dL_law_31 ?_
  refine lt_ci (y := 6) rfl ?_
  refine lv_bipush (v := 6) hx hb dL_law_32 (by decide) ?_
  refine lv_isub hx hb dL_law_34 ?_
  refine lt_ci (y := 0) (by first | rfl | decide) ?_
  refine lv_icmp_gt (tgt := 1982) hx hb dL_law_35 (by decide) (fun _ => ?_) (fun c => absurd (by decide) c)
  refine lv_iconst (v := 1) hx hb dL_law_1982 (by decide) ?_
  refine W.widen (k := 735603) (n := 6895256) (Nat.le_of_ble_eq_true rfl) (Nat.le_of_ble_eq_true rfl) ?_
  refine va_forget (fun q hq => by have h9 := hS.2.2 q hq; rw [hAe] at h9; exact h9) ?_
  exact W.base (lw_ret (Drawn.sameBut.refl s.drawn lw_cs) hx hb hr hlocks dL_law_1983)
set_option maxHeartbeats 8000000 in
set_option maxRecDepth 100000 in
theorem c_L_law_26 {p : Program} {e : Env} {s : State} {m : MethodId} {below : List Frame} {meth : Method} {c : Code} (l : Launch) (hl9 : l.stackTraces = false) (dC : Nat → ClassId) (dI : Nat → Nat → Nat) (g : Nat × Nat × Nat) (b : Nat) (xs : Nat → Int32) (cI cZ cO : ClassId) (hx : p.tables.exec = Jvm.exec) (hb : c.code = cL_law) (hr : meth.sig.returnType = ret) (hml : c.maxLocals = 9) (hown : s.vm.findClass RL = some m.cls) (hts : ∀ w ∈ wsL_law, w.before #[Value.ref b] s = true) (hX : va_X b 6 xs s s.heap) (hbl : b < s.heap.size) (hlocks : meth.locks = false) (hG : gx g (fun q => s.heap.size ≤ q) s s.heap) (hk : (xs 0 &&& 63) = 26) (cA_117 : ClassId) (cA_119 : ClassId) (q_1 : Nat) (q_3 : Nat) (q_4 : Nat) (q_10 : Nat) (q_18 : Nat) (q_21 : Nat) (q_22 : Nat) (q_23 : Nat) (q_24 : Nat) (q_25 : Nat) (q_26 : Nat) (q_27 : Nat) (q_31 : Nat) (q_32 : Nat) (q_61 : Nat) (q_90 : Nat) (q_92 : Nat) (q_93 : Nat) (q_97 : Nat) (q_103 : Nat) (q_106 : Nat) (q_107 : Nat) (q_108 : Nat) (q_109 : Nat) (q_110 : Nat) (q_111 : Nat) (q_112 : Nat) (q_113 : Nat) (q_114 : Nat) (q_115 : Nat) (q_116 : Nat) (q_118 : Nat) (H : Heap) (locs : List Loc) (ls : Array Slot) (hK : va_K (dC, dI) vwCl [(cI, .int), (cZ, .boolean), (cO, .object "java/lang/Object"), (cA_117, .long), (cA_119, .double)] s) (hP : va_P (dC, dI) vwCl [(q_1, .inr (12, [.ref q_3, .ref q_32, .ref q_61])), (q_3, .inr (4, [.ref q_4, .ref q_10, .ref q_18, .ref q_21, .ref q_27, .ref q_31, .int 0, .int 0, .long 0])), (q_21, .inr (6, [.ref q_24, .ref q_25, .ref q_26, .ref q_22, .ref q_23, .int 0, .int 0])), (q_22, .inl (cI, 8, .inl (cn 0))), (q_23, .inl (cI, 8, .inl (cn 0))), (q_24, .inl (cI, 8, .inl (cn 7))), (q_25, .inl (cI, 8, .inl (cn 1))), (q_26, .inl (cI, 8, .inl (cn 110))), (q_90, .inr (16, [.ref q_97, .ref q_103, .ref q_113, .ref q_92, .ref q_93, .int 0, .int 0, .int 0, .int 105, .int 0, .int 0, .int 0, .int (-1), .int 0, .int 0, .int 0, .int 0, .int 0, .int 0, .int 0, .long 0, .int 0, .int 0])), (q_106, .inr (14, [.int 0, .int 7, .int 0, .int 1, .int 110, .int 0, .int 0])), (q_107, .inr (14, [.int 0, .int 7, .int 0, .int 1, .int 110, .int 0, .int 0])), (q_108, .inr (14, [.int 0, .int 7, .int 0, .int 1, .int 110, .int 0, .int 0])), (q_109, .inr (14, [.int 0, .int 7, .int 0, .int 1, .int 110, .int 0, .int 0])), (q_110, .inr (14, [.int 0, .int 7, .int 0, .int 1, .int 110, .int 0, .int 0])), (q_111, .inr (14, [.int 0, .int 7, .int 0, .int 1, .int 110, .int 0, .int 0])), (q_112, .inr (14, [.int 0, .int 7, .int 0, .int 1, .int 110, .int 0, .int 0])), (q_113, .inr (3, [.int 8, .ref q_114, .int 8])), (q_114, .inl (cO, 10, .inr (.inr (.inr (.inr (va_up (va_up (va_up (va_up (va_up (va_up (va_up (va_up nn 0 (some q_106)) 1 (some q_107)) 2 (some q_108)) 3 (some q_109)) 4 (some q_110)) 5 (some q_111)) 6 (some q_112)) 7 (some q_115))))))), (q_115, .inr (14, [.int 0, .int 7, .int 0, .int 1, .int 110, .int 0, .int 0])), (q_116, .inl (cA_117, 1, .inr (.inl cnL)))] H) (hD : va_D (fun q => s.heap.size ≤ q) [(q_1, .inr (12, [.ref q_3, .ref q_32, .ref q_61])), (q_3, .inr (4, [.ref q_4, .ref q_10, .ref q_18, .ref q_21, .ref q_27, .ref q_31, .int 0, .int 0, .long 0])), (q_21, .inr (6, [.ref q_24, .ref q_25, .ref q_26, .ref q_22, .ref q_23, .int 0, .int 0])), (q_22, .inl (cI, 8, .inl (cn 0))), (q_23, .inl (cI, 8, .inl (cn 0))), (q_24, .inl (cI, 8, .inl (cn 7))), (q_25, .inl (cI, 8, .inl (cn 1))), (q_26, .inl (cI, 8, .inl (cn 110))), (q_90, .inr (16, [.ref q_97, .ref q_103, .ref q_113, .ref q_92, .ref q_93, .int 0, .int 0, .int 0, .int 105, .int 0, .int 0, .int 0, .int (-1), .int 0, .int 0, .int 0, .int 0, .int 0, .int 0, .int 0, .long 0, .int 0, .int 0])), (q_106, .inr (14, [.int 0, .int 7, .int 0, .int 1, .int 110, .int 0, .int 0])), (q_107, .inr (14, [.int 0, .int 7, .int 0, .int 1, .int 110, .int 0, .int 0])), (q_108, .inr (14, [.int 0, .int 7, .int 0, .int 1, .int 110, .int 0, .int 0])), (q_109, .inr (14, [.int 0, .int 7, .int 0, .int 1, .int 110, .int 0, .int 0])), (q_110, .inr (14, [.int 0, .int 7, .int 0, .int 1, .int 110, .int 0, .int 0])), (q_111, .inr (14, [.int 0, .int 7, .int 0, .int 1, .int 110, .int 0, .int 0])), (q_112, .inr (14, [.int 0, .int 7, .int 0, .int 1, .int 110, .int 0, .int 0])), (q_113, .inr (3, [.int 8, .ref q_114, .int 8])), (q_114, .inl (cO, 10, .inr (.inr (.inr (.inr (va_up (va_up (va_up (va_up (va_up (va_up (va_up (va_up nn 0 (some q_106)) 1 (some q_107)) 2 (some q_108)) 3 (some q_109)) 4 (some q_110)) 5 (some q_111)) 6 (some q_112)) 7 (some q_115))))))), (q_115, .inr (14, [.int 0, .int 7, .int 0, .int 1, .int 110, .int 0, .int 0])), (q_116, .inl (cA_117, 1, .inr (.inl cnL)))]) (hS : va_S (fun q => s.heap.size ≤ q) s.heap H locs) (hl : lv_has ls 9 [(5, .int 0), (4, .ref q_118), (3, .ref q_116), (2, .ref q_90), (1, .ref q_1), (0, .ref b)]) : W p l e room_1 s m #[Value.ref b] below meth c H locs 115 1854 (lw_Z below #[Value.ref b] s) (F0 m 28 ls []) := by
  have hN := hG.1
  obtain ⟨A, hAe⟩ : ∃ A : Nat → Prop, A = (fun q => s.heap.size ≤ q) := ⟨_, rfl⟩
  rw [← hAe] at hG hD hS
  have hA : ∀ q : Nat, s.heap.size ≤ q → A q := fun q h => by rw [hAe]; exact h
  have hbA : ¬ A b := by rw [hAe]; exact Nat.not_le.mpr hbl
  refine lv_iload hx hb dL_law_28 (lv_at hl 0 rfl) ?_
  refine lv_aload_n hx hb dL_law_30 rfl (lv_at hl 5 rfl) ?_
  refine va_slen hx hb hX hbl hbA hS dL_law_31 ?_
  refine lt_ci (y := 6) rfl ?_
  refine lv_bipush (v := 6) hx hb dL_law_32 (by decide) ?_
  refine lv_isub hx hb dL_law_34 ?_
  refine lt_ci (y := 0) (by first | rfl | decide) ?_
  refine lv_icmp_gt (tgt := 1982) hx hb dL_law_35 (by decide) (fun c => absurd c (by decide)) (fun _ => ?_)
  refine lv_aload_n hx hb dL_law_38 rfl (lv_at hl 5 rfl) ?_
  refine lv_iload hx hb dL_law_39 (lv_at hl 0 rfl) ?_
  refine va_sld hx hb hX hbl hbA hS (by unfold vp_in; decide) dL_law_41 ?_
  refine lt_ci (y := (xs 0)) rfl ?_
  refine lv_bipush (v := 63) hx hb dL_law_42 (by decide) ?_
  refine lv_iand hx hb dL_law_44 ?_
  refine lt_ci (y := 26) hk ?_
  refine lv_tableIn (off := 1634) (tgt := 1679) hx hb dL_law_45 (by decide) (by decide) (by decide) (by decide) ?_
  refine lv_aload_n hx hb dL_law_1679 rfl (lv_at hl 4 rfl) ?_
  refine lv_aload_n hx hb dL_law_1680 rfl (lv_at hl 5 rfl) ?_
  refine lv_iload hx hb dL_law_1681 (lv_at hl 0 rfl) ?_
  refine lv_iconst (v := 1) hx hb dL_law_1683 (by decide) ?_
  refine lv_iadd hx hb dL_law_1684 ?_
  refine lt_ci (y := 1) (by first | rfl | decide) ?_
  refine va_sld hx hb hX hbl hbA hS (by unfold vp_in; decide) dL_law_1685 ?_
  refine lt_ci (y := (xs 1)) rfl ?_
  refine lv_aload_n hx hb dL_law_1686 rfl (lv_at hl 2 rfl) ?_
  have hPc := hP.sub (ws' := [(q_1, .inr (12, [.ref q_3, .ref q_32, .ref q_61])), (q_3, .inr (4, [.ref q_4, .ref q_10, .ref q_18, .ref q_21, .ref q_27, .ref q_31, .int 0, .int 0, .long 0])), (q_21, .inr (6, [.ref q_24, .ref q_25, .ref q_26, .ref q_22, .ref q_23, .int 0, .int 0])), (q_24, .inl (cI, 8, .inl (cn 7))), (q_25, .inl (cI, 8, .inl (cn 1))), (q_26, .inl (cI, 8, .inl (cn 110))), (q_22, .inl (cI, 8, .inl (cn 0))), (q_23, .inl (cI, 8, .inl (cn 0))), (q_116, .inl (cA_117, 1, .inr (.inl cnL)))]) [0, 1, 2, 5, 6, 7, 3, 4, 19] rfl
  have hDc := hD.sub (ws' := [(q_1, .inr (12, [.ref q_3, .ref q_32, .ref q_61])), (q_3, .inr (4, [.ref q_4, .ref q_10, .ref q_18, .ref q_21, .ref q_27, .ref q_31, .int 0, .int 0, .long 0])), (q_21, .inr (6, [.ref q_24, .ref q_25, .ref q_26, .ref q_22, .ref q_23, .int 0, .int 0])), (q_24, .inl (cI, 8, .inl (cn 7))), (q_25, .inl (cI, 8, .inl (cn 1))), (q_26, .inl (cI, 8, .inl (cn 110))), (q_22, .inl (cI, 8, .inl (cn 0))), (q_23, .inl (cI, 8, .inl (cn 0))), (q_116, .inl (cA_117, 1, .inr (.inl cnL)))]) [0, 1, 2, 5, 6, 7, 3, 4, 19] (by decide) rfl
  have hKc := hK.sub (tys' := [(cI, .int), (cA_117, .long)]) [0, 3] rfl
  have hFc := va_free (wc := [(q_1, .inr (12, [.ref q_3, .ref q_32, .ref q_61])), (q_3, .inr (4, [.ref q_4, .ref q_10, .ref q_18, .ref q_21, .ref q_27, .ref q_31, .int 0, .int 0, .long 0])), (q_21, .inr (6, [.ref q_24, .ref q_25, .ref q_26, .ref q_22, .ref q_23, .int 0, .int 0])), (q_24, .inl (cI, 8, .inl (cn 7))), (q_25, .inl (cI, 8, .inl (cn 1))), (q_26, .inl (cI, 8, .inl (cn 110))), (q_22, .inl (cI, 8, .inl (cn 0))), (q_23, .inl (cI, 8, .inl (cn 0))), (q_116, .inl (cA_117, 1, .inr (.inl cnL)))]) hD hS hA [0, 1, 2, 5, 6, 7, 3, 4, 19] rfl
  refine vx_calli (vx_runSX (As := [.ref q_1, .int (xs 1), .ref q_116]) (rest := []) ⟨hx, hb, hml, hown, hts⟩ (c_L_handled l hl9 dC dI g q_1 q_32 q_61 q_3 q_4 q_10 q_18 q_21 q_24 q_25 q_26 q_22 q_23 q_27 q_31 cI (xs 1) cnL q_116 cA_117 H.size) (vx_cwSW 3 hts gL_law_L_handled rfl rfl rfl (by decide +kernel) ⟨Nat.le_of_ble_eq_true rfl, Nat.le_of_ble_eq_true rfl⟩) ⟨wIn_blind, wIn_at hPc hKc hDc hG hS hFc⟩ rfl rfl hl.1 rfl (lv_room (Nat.le_of_ble_eq_true rfl)) dL_law_1687 ⟨Nat.le_of_ble_eq_true rfl, Nat.le_of_ble_eq_true rfl⟩) hS (fun q _ h => hFc q h) hFc (fun q _ h => hFc q h) (fun E9 ce9 q9 u9 t H1 locs ht hvm hx9 hB9 hz1 hk1 hS hce hcv hcl => False.elim hx9) (fun r_120 u t H1 locs ht hvm hw hB hz1 hk1 hS => ?_)
  obtain ⟨v_121, rfl⟩ : ∃ z, z = u := ⟨_, rfl⟩
  obtain ⟨hP1, hK1, hD1⟩ := hB
  rw [ht] at hP1
  obtain ⟨hP, hD⟩ := va_join (wr := [(q_90, .inr (16, [.ref q_97, .ref q_103, .ref q_113, .ref q_92, .ref q_93, .int 0, .int 0, .int 0, .int 105, .int 0, .int 0, .int 0, .int (-1), .int 0, .int 0, .int 0, .int 0, .int 0, .int 0, .int 0, .long 0, .int 0, .int 0])), (q_106, .inr (14, [.int 0, .int 7, .int 0, .int 1, .int 110, .int 0, .int 0])), (q_107, .inr (14, [.int 0, .int 7, .int 0, .int 1, .int 110, .int 0, .int 0])), (q_108, .inr (14, [.int 0, .int 7, .int 0, .int 1, .int 110, .int 0, .int 0])), (q_109, .inr (14, [.int 0, .int 7, .int 0, .int 1, .int 110, .int 0, .int 0])), (q_110, .inr (14, [.int 0, .int 7, .int 0, .int 1, .int 110, .int 0, .int 0])), (q_111, .inr (14, [.int 0, .int 7, .int 0, .int 1, .int 110, .int 0, .int 0])), (q_112, .inr (14, [.int 0, .int 7, .int 0, .int 1, .int 110, .int 0, .int 0])), (q_113, .inr (3, [.int 8, .ref q_114, .int 8])), (q_114, .inl (cO, 10, .inr (.inr (.inr (.inr (va_up (va_up (va_up (va_up (va_up (va_up (va_up (va_up nn 0 (some q_106)) 1 (some q_107)) 2 (some q_108)) 3 (some q_109)) 4 (some q_110)) 5 (some q_111)) 6 (some q_112)) 7 (some q_115))))))), (q_115, .inr (14, [.int 0, .int 7, .int 0, .int 1, .int 110, .int 0, .int 0]))]) (w1 := [(q_116, .inl (cA_117, 1, .inr (.inl v_121)))]) hP hD [0, 1, 2, 5, 6, 7, 3, 4, 19] [8, 9, 10, 11, 12, 13, 14, 15, 16, 17, 18] rfl rfl (by decide) (by decide) hk1 hFc hP1 hD1
  generalize H1 = H at hP hS ⊢
  have hP : va_P (dC, dI) vwCl [(q_90, .inr (16, [.ref q_97, .ref q_103, .ref q_113, .ref q_92, .ref q_93, .int 0, .int 0, .int 0, .int 105, .int 0, .int 0, .int 0, .int (-1), .int 0, .int 0, .int 0, .int 0, .int 0, .int 0, .int 0, .long 0, .int 0, .int 0])), (q_106, .inr (14, [.int 0, .int 7, .int 0, .int 1, .int 110, .int 0, .int 0])), (q_107, .inr (14, [.int 0, .int 7, .int 0, .int 1, .int 110, .int 0, .int 0])), (q_108, .inr (14, [.int 0, .int 7, .int 0, .int 1, .int 110, .int 0, .int 0])), (q_109, .inr (14, [.int 0, .int 7, .int 0, .int 1, .int 110, .int 0, .int 0])), (q_110, .inr (14, [.int 0, .int 7, .int 0, .int 1, .int 110, .int 0, .int 0])), (q_111, .inr (14, [.int 0, .int 7, .int 0, .int 1, .int 110, .int 0, .int 0])), (q_112, .inr (14, [.int 0, .int 7, .int 0, .int 1, .int 110, .int 0, .int 0])), (q_113, .inr (3, [.int 8, .ref q_114, .int 8])), (q_114, .inl (cO, 10, .inr (.inr (.inr (.inr (va_up (va_up (va_up (va_up (va_up (va_up (va_up (va_up nn 0 (some q_106)) 1 (some q_107)) 2 (some q_108)) 3 (some q_109)) 4 (some q_110)) 5 (some q_111)) 6 (some q_112)) 7 (some q_115))))))), (q_115, .inr (14, [.int 0, .int 7, .int 0, .int 1, .int 110, .int 0, .int 0])), (q_116, .inl (cA_117, 1, .inr (.inl v_121)))] H := hP
  have hD : va_D A [(q_90, .inr (16, [.ref q_97, .ref q_103, .ref q_113, .ref q_92, .ref q_93, .int 0, .int 0, .int 0, .int 105, .int 0, .int 0, .int 0, .int (-1), .int 0, .int 0, .int 0, .int 0, .int 0, .int 0, .int 0, .long 0, .int 0, .int 0])), (q_106, .inr (14, [.int 0, .int 7, .int 0, .int 1, .int 110, .int 0, .int 0])), (q_107, .inr (14, [.int 0, .int 7, .int 0, .int 1, .int 110, .int 0, .int 0])), (q_108, .inr (14, [.int 0, .int 7, .int 0, .int 1, .int 110, .int 0, .int 0])), (q_109, .inr (14, [.int 0, .int 7, .int 0, .int 1, .int 110, .int 0, .int 0])), (q_110, .inr (14, [.int 0, .int 7, .int 0, .int 1, .int 110, .int 0, .int 0])), (q_111, .inr (14, [.int 0, .int 7, .int 0, .int 1, .int 110, .int 0, .int 0])), (q_112, .inr (14, [.int 0, .int 7, .int 0, .int 1, .int 110, .int 0, .int 0])), (q_113, .inr (3, [.int 8, .ref q_114, .int 8])), (q_114, .inl (cO, 10, .inr (.inr (.inr (.inr (va_up (va_up (va_up (va_up (va_up (va_up (va_up (va_up nn 0 (some q_106)) 1 (some q_107)) 2 (some q_108)) 3 (some q_109)) 4 (some q_110)) 5 (some q_111)) 6 (some q_112)) 7 (some q_115))))))), (q_115, .inr (14, [.int 0, .int 7, .int 0, .int 1, .int 110, .int 0, .int 0])), (q_116, .inl (cA_117, 1, .inr (.inl v_121)))] := hD
  refine lt_ci (y := sp_X8_handled (xs 1)) (hw.1) ?_
  have hv_122 : sp_X8_handled (xs 1) = 0 → v_121 0 = 0 := hw.2
  refine W.widen (k := 116) (n := 1860) (Nat.le_of_ble_eq_true rfl) (Nat.le_of_ble_eq_true rfl) ?_
  refine lv_istore (lv' := [(6, .int (sp_X8_handled (xs 1))), (5, .int 0), (4, .ref q_118), (3, .ref q_116), (2, .ref q_90), (1, .ref q_1), (0, .ref b)]) hx hb dL_law_1690 hl (by decide) rfl (fun ls hl => ?_)
  refine lv_aload_n hx hb dL_law_1692 rfl (lv_at hl 4 rfl) ?_
  refine lv_aload_n hx hb dL_law_1693 rfl (lv_at hl 6 rfl) ?_
  refine lv_iload hx hb dL_law_1694 (lv_at hl 1 rfl) ?_
  refine lv_iconst (v := 1) hx hb dL_law_1696 (by decide) ?_
  refine lv_iadd hx hb dL_law_1697 ?_
  refine lt_ci (y := 1) (by first | rfl | decide) ?_
  refine va_sld hx hb hX hbl hbA hS (by unfold vp_in; decide) dL_law_1698 ?_
  refine lt_ci (y := (xs 1)) rfl ?_
  have hPc := hP.sub (ws' := [(q_90, .inr (16, [.ref q_97, .ref q_103, .ref q_113, .ref q_92, .ref q_93, .int 0, .int 0, .int 0, .int 105, .int 0, .int 0, .int 0, .int (-1), .int 0, .int 0, .int 0, .int 0, .int 0, .int 0, .int 0, .long 0, .int 0, .int 0])), (q_113, .inr (3, [.int 8, .ref q_114, .int 8])), (q_114, .inl (cO, 10, .inr (.inr (.inr (.inr (va_up (va_up (va_up (va_up (va_up (va_up (va_up (va_up nn 0 (some q_106)) 1 (some q_107)) 2 (some q_108)) 3 (some q_109)) 4 (some q_110)) 5 (some q_111)) 6 (some q_112)) 7 (some q_115))))))), (q_106, .inr (14, [.int 0, .int 7, .int 0, .int 1, .int 110, .int 0, .int 0])), (q_107, .inr (14, [.int 0, .int 7, .int 0, .int 1, .int 110, .int 0, .int 0])), (q_108, .inr (14, [.int 0, .int 7, .int 0, .int 1, .int 110, .int 0, .int 0])), (q_109, .inr (14, [.int 0, .int 7, .int 0, .int 1, .int 110, .int 0, .int 0])), (q_110, .inr (14, [.int 0, .int 7, .int 0, .int 1, .int 110, .int 0, .int 0])), (q_111, .inr (14, [.int 0, .int 7, .int 0, .int 1, .int 110, .int 0, .int 0])), (q_112, .inr (14, [.int 0, .int 7, .int 0, .int 1, .int 110, .int 0, .int 0])), (q_115, .inr (14, [.int 0, .int 7, .int 0, .int 1, .int 110, .int 0, .int 0]))]) [0, 8, 9, 1, 2, 3, 4, 5, 6, 7, 10] rfl
  have hDc := hD.sub (ws' := [(q_90, .inr (16, [.ref q_97, .ref q_103, .ref q_113, .ref q_92, .ref q_93, .int 0, .int 0, .int 0, .int 105, .int 0, .int 0, .int 0, .int (-1), .int 0, .int 0, .int 0, .int 0, .int 0, .int 0, .int 0, .long 0, .int 0, .int 0])), (q_113, .inr (3, [.int 8, .ref q_114, .int 8])), (q_114, .inl (cO, 10, .inr (.inr (.inr (.inr (va_up (va_up (va_up (va_up (va_up (va_up (va_up (va_up nn 0 (some q_106)) 1 (some q_107)) 2 (some q_108)) 3 (some q_109)) 4 (some q_110)) 5 (some q_111)) 6 (some q_112)) 7 (some q_115))))))), (q_106, .inr (14, [.int 0, .int 7, .int 0, .int 1, .int 110, .int 0, .int 0])), (q_107, .inr (14, [.int 0, .int 7, .int 0, .int 1, .int 110, .int 0, .int 0])), (q_108, .inr (14, [.int 0, .int 7, .int 0, .int 1, .int 110, .int 0, .int 0])), (q_109, .inr (14, [.int 0, .int 7, .int 0, .int 1, .int 110, .int 0, .int 0])), (q_110, .inr (14, [.int 0, .int 7, .int 0, .int 1, .int 110, .int 0, .int 0])), (q_111, .inr (14, [.int 0, .int 7, .int 0, .int 1, .int 110, .int 0, .int 0])), (q_112, .inr (14, [.int 0, .int 7, .int 0, .int 1, .int 110, .int 0, .int 0])), (q_115, .inr (14, [.int 0, .int 7, .int 0, .int 1, .int 110, .int 0, .int 0]))]) [0, 8, 9, 1, 2, 3, 4, 5, 6, 7, 10] (by decide) rfl
  have hKc := hK.sub (tys' := [(cI, .int), (cZ, .boolean), (cO, .object "java/lang/Object")]) [0, 1, 2] rfl
  have hFc := va_free (wc := [(q_90, .inr (16, [.ref q_97, .ref q_103, .ref q_113, .ref q_92, .ref q_93, .int 0, .int 0, .int 0, .int 105, .int 0, .int 0, .int 0, .int (-1), .int 0, .int 0, .int 0, .int 0, .int 0, .int 0, .int 0, .long 0, .int 0, .int 0])), (q_113, .inr (3, [.int 8, .ref q_114, .int 8])), (q_114, .inl (cO, 10, .inr (.inr (.inr (.inr (va_up (va_up (va_up (va_up (va_up (va_up (va_up (va_up nn 0 (some q_106)) 1 (some q_107)) 2 (some q_108)) 3 (some q_109)) 4 (some q_110)) 5 (some q_111)) 6 (some q_112)) 7 (some q_115))))))), (q_106, .inr (14, [.int 0, .int 7, .int 0, .int 1, .int 110, .int 0, .int 0])), (q_107, .inr (14, [.int 0, .int 7, .int 0, .int 1, .int 110, .int 0, .int 0])), (q_108, .inr (14, [.int 0, .int 7, .int 0, .int 1, .int 110, .int 0, .int 0])), (q_109, .inr (14, [.int 0, .int 7, .int 0, .int 1, .int 110, .int 0, .int 0])), (q_110, .inr (14, [.int 0, .int 7, .int 0, .int 1, .int 110, .int 0, .int 0])), (q_111, .inr (14, [.int 0, .int 7, .int 0, .int 1, .int 110, .int 0, .int 0])), (q_112, .inr (14, [.int 0, .int 7, .int 0, .int 1, .int 110, .int 0, .int 0])), (q_115, .inr (14, [.int 0, .int 7, .int 0, .int 1, .int 110, .int 0, .int 0]))]) hD hS hA [0, 8, 9, 1, 2, 3, 4, 5, 6, 7, 10] rfl
  refine va_calli (va_runV (As := [.int (xs 1)]) (rest := []) ⟨hx, hb, hml, hown, hts⟩ (c_X12_handled l dC dI g q_90 q_92 q_93 q_97 q_103 q_113 q_114 q_106 q_107 q_108 q_109 q_110 q_111 q_112 q_115 cI cZ cO 0 (xs 1) H.size) (cwV 1 hts gL_law_X12_handled rfl rfl rfl (by decide +kernel) ⟨Nat.le_of_ble_eq_true rfl, Nat.le_of_ble_eq_true rfl⟩) ⟨wIn_blind, va_recv hK hP (ci := 16) (q0 := 0) rfl rfl, wIn_at hPc hKc hDc hG hS hFc⟩ rfl rfl hl.1 rfl (lv_room (Nat.le_of_ble_eq_true rfl)) dL_law_1699 ⟨Nat.le_of_ble_eq_true rfl, Nat.le_of_ble_eq_true rfl⟩) hS (fun q _ h => hFc q h) hFc (fun r_123 u t H1 locs ht hvm hw hB hz1 hk1 hS => ?_)
  obtain ⟨v_124, rfl⟩ : ∃ z, z = u := ⟨_, rfl⟩
  have hw : v_124 = mp_X12_handled (xs 1) ∧ (mp_X12_handled (xs 1) = 0 → r_123 = 0) := hw
  obtain ⟨hm9, hv_125⟩ := hw
  subst hm9
  obtain ⟨hP1, hK1, hD1⟩ := hB
  rw [ht] at hP1
  obtain ⟨hP, hD⟩ := va_join (wr := [(q_116, .inl (cA_117, 1, .inr (.inl v_121)))]) (w1 := [(q_90, .inr (16, [.ref q_97, .ref q_103, .ref q_113, .ref q_92, .ref q_93, .int 0, .int 0, .int 0, .int 105, .int 0, .int 0, .int 0, .int (-1), .int 0, .int 0, .int 0, .int 0, .int 0, .int 0, .int 0, .long 0, .int 0, .int (mp_X12_handled (xs 1))]))]) hP hD [0, 8, 9, 1, 2, 3, 4, 5, 6, 7, 10] [11] rfl rfl (by decide) (by decide) hk1 hFc hP1 hD1
  generalize H1 = H at hP hS ⊢
  have hP : va_P (dC, dI) vwCl [(q_116, .inl (cA_117, 1, .inr (.inl v_121))), (q_90, .inr (16, [.ref q_97, .ref q_103, .ref q_113, .ref q_92, .ref q_93, .int 0, .int 0, .int 0, .int 105, .int 0, .int 0, .int 0, .int (-1), .int 0, .int 0, .int 0, .int 0, .int 0, .int 0, .int 0, .long 0, .int 0, .int (mp_X12_handled (xs 1))]))] H := hP
  have hD : va_D A [(q_116, .inl (cA_117, 1, .inr (.inl v_121))), (q_90, .inr (16, [.ref q_97, .ref q_103, .ref q_113, .ref q_92, .ref q_93, .int 0, .int 0, .int 0, .int 105, .int 0, .int 0, .int 0, .int (-1), .int 0, .int 0, .int 0, .int 0, .int 0, .int 0, .int 0, .long 0, .int 0, .int (mp_X12_handled (xs 1))]))] := hD
  refine lv_istore (lv' := [(7, .int r_123), (6, .int (sp_X8_handled (xs 1))), (5, .int 0), (4, .ref q_118), (3, .ref q_116), (2, .ref q_90), (1, .ref q_1), (0, .ref b)]) hx hb dL_law_1702 hl (by decide) rfl (fun ls hl => ?_)
  refine lv_aload_n hx hb dL_law_1704 rfl (lv_at hl 5 rfl) ?_
  have hPc := hP.sub (ws' := [(q_90, .inr (16, [.ref q_97, .ref q_103, .ref q_113, .ref q_92, .ref q_93, .int 0, .int 0, .int 0, .int 105, .int 0, .int 0, .int 0, .int (-1), .int 0, .int 0, .int 0, .int 0, .int 0, .int 0, .int 0, .long 0, .int 0, .int (mp_X12_handled (xs 1))]))]) [1] rfl
  have hDc := hD.sub (ws' := [(q_90, .inr (16, [.ref q_97, .ref q_103, .ref q_113, .ref q_92, .ref q_93, .int 0, .int 0, .int 0, .int 105, .int 0, .int 0, .int 0, .int (-1), .int 0, .int 0, .int 0, .int 0, .int 0, .int 0, .int 0, .long 0, .int 0, .int (mp_X12_handled (xs 1))]))]) [1] (by decide) rfl
  have hKc := hK.sub (tys' := [(cI, .int), (cZ, .boolean), (cO, .object "java/lang/Object")]) [0, 1, 2] rfl
  have hFc := va_free (wc := [(q_90, .inr (16, [.ref q_97, .ref q_103, .ref q_113, .ref q_92, .ref q_93, .int 0, .int 0, .int 0, .int 105, .int 0, .int 0, .int 0, .int (-1), .int 0, .int 0, .int 0, .int 0, .int 0, .int 0, .int 0, .long 0, .int 0, .int (mp_X12_handled (xs 1))]))]) hD hS hA [1] rfl
  refine va_calli (va_runV (As := []) (rest := []) ⟨hx, hb, hml, hown, hts⟩ (c_X12_thrown l dC dI g q_90 (.ref q_97) (.ref q_103) (.ref q_113) (.ref q_92) (.ref q_93) (.int 0) (.int 0) (.int 0) (.int 105) (.int 0) (.int 0) (.int 0) (.int (-1)) (.int 0) (.int 0) (.int 0) (.int 0) (.int 0) (.int 0) (.int 0) (.long 0) (.int 0) cI cZ cO (mp_X12_handled (xs 1)) H.size) (cwV 0 hts gL_law_X12_thrown rfl rfl rfl (by decide +kernel) ⟨Nat.le_of_ble_eq_true rfl, Nat.le_of_ble_eq_true rfl⟩) ⟨wIn_blind, va_recv hK hP (ci := 16) (q0 := 1) rfl rfl, wIn_at hPc hKc hDc hG hS hFc⟩ rfl rfl hl.1 rfl (lv_room (Nat.le_of_ble_eq_true rfl)) dL_law_1705 ⟨Nat.le_of_ble_eq_true rfl, Nat.le_of_ble_eq_true rfl⟩) hS (fun q _ h => hFc q h) hFc (fun r_126 u t H1 locs ht hvm hw hB hz1 hk1 hS => ?_)
  obtain ⟨hP1, hK1, hD1⟩ := hB
  rw [ht] at hP1
  obtain ⟨hP, hD⟩ := va_join (wr := [(q_116, .inl (cA_117, 1, .inr (.inl v_121)))]) (w1 := [(q_90, .inr (16, [.ref q_97, .ref q_103, .ref q_113, .ref q_92, .ref q_93, .int 0, .int 0, .int 0, .int 105, .int 0, .int 0, .int 0, .int (-1), .int 0, .int 0, .int 0, .int 0, .int 0, .int 0, .int 0, .long 0, .int 0, .int (mp_X12_handled (xs 1))]))]) hP hD [1] [0] rfl rfl (by decide) (by decide) hk1 hFc hP1 hD1
  generalize H1 = H at hP hS ⊢
  have hP : va_P (dC, dI) vwCl [(q_116, .inl (cA_117, 1, .inr (.inl v_121))), (q_90, .inr (16, [.ref q_97, .ref q_103, .ref q_113, .ref q_92, .ref q_93, .int 0, .int 0, .int 0, .int 105, .int 0, .int 0, .int 0, .int (-1), .int 0, .int 0, .int 0, .int 0, .int 0, .int 0, .int 0, .long 0, .int 0, .int (mp_X12_handled (xs 1))]))] H := hP
  have hD : va_D A [(q_116, .inl (cA_117, 1, .inr (.inl v_121))), (q_90, .inr (16, [.ref q_97, .ref q_103, .ref q_113, .ref q_92, .ref q_93, .int 0, .int 0, .int 0, .int 105, .int 0, .int 0, .int 0, .int (-1), .int 0, .int 0, .int 0, .int 0, .int 0, .int 0, .int 0, .long 0, .int 0, .int (mp_X12_handled (xs 1))]))] := hD
  refine lt_ci (y := (mp_X12_handled (xs 1))) hw ?_
  refine lt_ci (y := sp_X8_handled (xs 1)) (sm_X12_handled _) ?_
  refine lv_iload hx hb dL_law_1708 (lv_at hl 1 rfl) ?_
  refine lv_icmp_eq (tgt := 1715) hx hb dL_law_1710 (by decide) (fun _ => ?_) (fun c => absurd (rfl) c)
  refine lv_iload hx hb dL_law_1715 (lv_at hl 1 rfl) ?_
  refine lv_if_ne (tgt := 1732) hx hb dL_law_1717 (by decide) (fun c_1717 => ?_) (fun c_1717 => ?_)
  · refine lv_goto (tgt := 1976) hx hb dL_law_1732 (by decide) ?_
    refine lv_iinc (v := 6) (lv' := [(5, .int 6), (7, .int r_123), (6, .int (sp_X8_handled (xs 1))), (4, .ref q_118), (3, .ref q_116), (2, .ref q_90), (1, .ref q_1), (0, .ref b)]) hx hb dL_law_1976 hl (k := 2) rfl (by first | rfl | decide) (by decide) rfl (fun ls hl => ?_)
    refine lv_goto (tgt := 28) hx hb dL_law_1979 (by decide) ?_
    refine lv_iload hx hb dL_law_28 (lv_at hl 0 rfl) ?_
    refine lv_aload_n hx hb dL_law_30 rfl (lv_at hl 7 rfl) ?_
    refine va_slen hx hb hX hbl hbA hS dL_law_31 ?_
    refine lt_ci (y := 6) rfl ?_
    refine lv_bipush (v := 6) hx hb dL_law_32 (by decide) ?_
    refine lv_isub hx hb dL_law_34 ?_
    refine lt_ci (y := 0) (by first | rfl | decide) ?_
    refine lv_icmp_gt (tgt := 1982) hx hb dL_law_35 (by decide) (fun _ => ?_) (fun c => absurd (by decide) c)
    refine lv_iconst (v := 1) hx hb dL_law_1982 (by decide) ?_
    refine W.widen (k := 735603) (n := 6895256) (Nat.le_of_ble_eq_true rfl) (Nat.le_of_ble_eq_true rfl) ?_
    refine va_forget (fun q hq => by have h9 := hS.2.2 q hq; rw [hAe] at h9; exact h9) ?_
    exact W.base (lw_ret (Drawn.sameBut.refl s.drawn lw_cs) hx hb hr hlocks dL_law_1983)
  · refine lv_aload_n hx hb dL_law_1720 rfl (lv_at hl 4 rfl) ?_
    refine lv_iconst (v := 0) hx hb dL_law_1721 (by decide) ?_
    refine va_lald (D := (dC, dI)) hx hb hK hP 0 3 rfl rfl (by unfold vp_in; decide) dL_law_1722 ?_
    refine lt_cl (y := 0) (show _ = (0 : Int64) from hv_122 c_1717) ?_
    refine lv_iload hx hb dL_law_1723 (lv_at hl 0 rfl) ?_
    refine lt_ci (y := 0) (hv_125 ((sm_X12_handled _).trans c_1717)) ?_
    refine lv_i2l (v := 0) hx hb dL_law_1725 (by first | rfl | decide) ?_
    refine W.lcmp hx hb dL_law_1726 ?_
    refine lt_ci (y := 0) (by first | rfl | decide) ?_
    refine lv_if_eq (tgt := 1732) hx hb dL_law_1727 (by decide) (fun _ => ?_) (fun c => absurd (by decide) c)
    refine lv_goto (tgt := 1976) hx hb dL_law_1732 (by decide) ?_
    refine lv_iinc (v := 6) (lv' := [(5, .int 6), (7, .int r_123), (6, .int (sp_X8_handled (xs 1))), (4, .ref q_118), (3, .ref q_116), (2, .ref q_90), (1, .ref q_1), (0, .ref b)]) hx hb dL_law_1976 hl (k := 2) rfl (by first | rfl | decide) (by decide) rfl (fun ls hl => ?_)
    refine lv_goto (tgt := 28) hx hb dL_law_1979 (by decide) ?_
    refine lv_iload hx hb dL_law_28 (lv_at hl 0 rfl) ?_
    refine lv_aload_n hx hb dL_law_30 rfl (lv_at hl 7 rfl) ?_
    refine va_slen hx hb hX hbl hbA hS dL_law_31 ?_
    refine lt_ci (y := 6) rfl ?_
    refine lv_bipush (v := 6) hx hb dL_law_32 (by decide) ?_
    refine lv_isub hx hb dL_law_34 ?_
    refine lt_ci (y := 0) (by first | rfl | decide) ?_
    refine lv_icmp_gt (tgt := 1982) hx hb dL_law_35 (by decide) (fun _ => ?_) (fun c => absurd (by decide) c)
    refine lv_iconst (v := 1) hx hb dL_law_1982 (by decide) ?_
    refine W.widen (k := 735603) (n := 6895256) (Nat.le_of_ble_eq_true rfl) (Nat.le_of_ble_eq_true rfl) ?_
    refine va_forget (fun q hq => by have h9 := hS.2.2 q hq; rw [hAe] at h9; exact h9) ?_
    exact W.base (lw_ret (Drawn.sameBut.refl s.drawn lw_cs) hx hb hr hlocks dL_law_1983)
set_option maxHeartbeats 8000000 in
set_option maxRecDepth 100000 in
theorem c_L_law_27 {p : Program} {e : Env} {s : State} {m : MethodId} {below : List Frame} {meth : Method} {c : Code} (l : Launch) (hl9 : l.stackTraces = false) (dC : Nat → ClassId) (dI : Nat → Nat → Nat) (g : Nat × Nat × Nat) (b : Nat) (xs : Nat → Int32) (cI cZ cO : ClassId) (hx : p.tables.exec = Jvm.exec) (hb : c.code = cL_law) (hr : meth.sig.returnType = ret) (hml : c.maxLocals = 9) (hown : s.vm.findClass RL = some m.cls) (hts : ∀ w ∈ wsL_law, w.before #[Value.ref b] s = true) (hX : va_X b 6 xs s s.heap) (hbl : b < s.heap.size) (hlocks : meth.locks = false) (hG : gx g (fun q => s.heap.size ≤ q) s s.heap) (hk : (xs 0 &&& 63) = 27) (cA_117 : ClassId) (cA_119 : ClassId) (q_1 : Nat) (q_3 : Nat) (q_4 : Nat) (q_10 : Nat) (q_18 : Nat) (q_21 : Nat) (q_27 : Nat) (q_28 : Nat) (q_31 : Nat) (q_32 : Nat) (q_61 : Nat) (q_90 : Nat) (q_92 : Nat) (q_93 : Nat) (q_97 : Nat) (q_103 : Nat) (q_113 : Nat) (q_116 : Nat) (q_118 : Nat) (H : Heap) (locs : List Loc) (ls : Array Slot) (hK : va_K (dC, dI) vwCl [(cI, .int), (cZ, .boolean), (cO, .object "java/lang/Object"), (cA_117, .long), (cA_119, .double)] s) (hP : va_P (dC, dI) vwCl [(q_1, .inr (12, [.ref q_3, .ref q_32, .ref q_61])), (q_3, .inr (4, [.ref q_4, .ref q_10, .ref q_18, .ref q_21, .ref q_27, .ref q_31, .int 0, .int 0, .long 0])), (q_27, .inr (8, [.ref q_28, .int 105, .int 0, .int (-1), .int 0, .int 0, .int 0])), (q_90, .inr (16, [.ref q_97, .ref q_103, .ref q_113, .ref q_92, .ref q_93, .int 0, .int 0, .int 0, .int 105, .int 0, .int 0, .int 0, .int (-1), .int 0, .int 0, .int 0, .int 0, .int 0, .int 0, .int 0, .long 0, .int 0, .int 0]))] H) (hD : va_D (fun q => s.heap.size ≤ q) [(q_1, .inr (12, [.ref q_3, .ref q_32, .ref q_61])), (q_3, .inr (4, [.ref q_4, .ref q_10, .ref q_18, .ref q_21, .ref q_27, .ref q_31, .int 0, .int 0, .long 0])), (q_27, .inr (8, [.ref q_28, .int 105, .int 0, .int (-1), .int 0, .int 0, .int 0])), (q_90, .inr (16, [.ref q_97, .ref q_103, .ref q_113, .ref q_92, .ref q_93, .int 0, .int 0, .int 0, .int 105, .int 0, .int 0, .int 0, .int (-1), .int 0, .int 0, .int 0, .int 0, .int 0, .int 0, .int 0, .long 0, .int 0, .int 0]))]) (hS : va_S (fun q => s.heap.size ≤ q) s.heap H locs) (hl : lv_has ls 9 [(5, .int 0), (4, .ref q_118), (3, .ref q_116), (2, .ref q_90), (1, .ref q_1), (0, .ref b)]) : W p l e room_1 s m #[Value.ref b] below meth c H locs 115 1854 (lw_Z below #[Value.ref b] s) (F0 m 28 ls []) := by
  have hN := hG.1
  obtain ⟨A, hAe⟩ : ∃ A : Nat → Prop, A = (fun q => s.heap.size ≤ q) := ⟨_, rfl⟩
  rw [← hAe] at hG hD hS
  have hA : ∀ q : Nat, s.heap.size ≤ q → A q := fun q h => by rw [hAe]; exact h
  have hbA : ¬ A b := by rw [hAe]; exact Nat.not_le.mpr hbl
  refine lv_iload hx hb dL_law_28 (lv_at hl 0 rfl) ?_
  refine lv_aload_n hx hb dL_law_30 rfl (lv_at hl 5 rfl) ?_
  refine va_slen hx hb hX hbl hbA hS dL_law_31 ?_
  refine lt_ci (y := 6) rfl ?_
  refine lv_bipush (v := 6) hx hb dL_law_32 (by decide) ?_
  refine lv_isub hx hb dL_law_34 ?_
  refine lt_ci (y := 0) (by first | rfl | decide) ?_
  refine lv_icmp_gt (tgt := 1982) hx hb dL_law_35 (by decide) (fun c => absurd c (by decide)) (fun _ => ?_)
  refine lv_aload_n hx hb dL_law_38 rfl (lv_at hl 5 rfl) ?_
  refine lv_iload hx hb dL_law_39 (lv_at hl 0 rfl) ?_
  refine va_sld hx hb hX hbl hbA hS (by unfold vp_in; decide) dL_law_41 ?_
  refine lt_ci (y := (xs 0)) rfl ?_
  refine lv_bipush (v := 63) hx hb dL_law_42 (by decide) ?_
  refine lv_iand hx hb dL_law_44 ?_
  refine lt_ci (y := 27) hk ?_
  refine lv_tableIn (off := 1690) (tgt := 1735) hx hb dL_law_45 (by decide) (by decide) (by decide) (by decide) ?_
  refine lv_aload_n hx hb dL_law_1735 rfl (lv_at hl 4 rfl) ?_
  have hPc := hP.sub (ws' := [(q_1, .inr (12, [.ref q_3, .ref q_32, .ref q_61])), (q_3, .inr (4, [.ref q_4, .ref q_10, .ref q_18, .ref q_21, .ref q_27, .ref q_31, .int 0, .int 0, .long 0])), (q_27, .inr (8, [.ref q_28, .int 105, .int 0, .int (-1), .int 0, .int 0, .int 0]))]) [0, 1, 2] rfl
  have hDc := hD.sub (ws' := [(q_1, .inr (12, [.ref q_3, .ref q_32, .ref q_61])), (q_3, .inr (4, [.ref q_4, .ref q_10, .ref q_18, .ref q_21, .ref q_27, .ref q_31, .int 0, .int 0, .long 0])), (q_27, .inr (8, [.ref q_28, .int 105, .int 0, .int (-1), .int 0, .int 0, .int 0]))]) [0, 1, 2] (by decide) rfl
  have hKc := hK.sub (tys' := [(cI, .int)]) [0] rfl
  have hFc := va_free (wc := [(q_1, .inr (12, [.ref q_3, .ref q_32, .ref q_61])), (q_3, .inr (4, [.ref q_4, .ref q_10, .ref q_18, .ref q_21, .ref q_27, .ref q_31, .int 0, .int 0, .long 0])), (q_27, .inr (8, [.ref q_28, .int 105, .int 0, .int (-1), .int 0, .int 0, .int 0]))]) hD hS hA [0, 1, 2] rfl
  refine va_calli (va_runV (As := []) (rest := []) ⟨hx, hb, hml, hown, hts⟩ (c_X8_late l dC dI g q_1 q_32 q_61 q_3 q_4 q_10 q_18 q_21 q_28 q_27 q_31 cI H.size) (cwV 0 hts gL_law_X8_late rfl rfl rfl (by decide +kernel) ⟨Nat.le_of_ble_eq_true rfl, Nat.le_of_ble_eq_true rfl⟩) ⟨wIn_blind, va_recv hK hP (ci := 12) (q0 := 0) rfl rfl, wIn_at hPc hKc hDc hG hS hFc⟩ rfl rfl hl.1 rfl (lv_room (Nat.le_of_ble_eq_true rfl)) dL_law_1736 ⟨Nat.le_of_ble_eq_true rfl, Nat.le_of_ble_eq_true rfl⟩) hS (fun q _ h => hFc q h) hFc (fun r_120 u t H1 locs ht hvm hw hB hz1 hk1 hS => ?_)
  obtain ⟨hP1, hK1, hD1⟩ := hB
  rw [ht] at hP1
  obtain ⟨hP, hD⟩ := va_join (wr := [(q_90, .inr (16, [.ref q_97, .ref q_103, .ref q_113, .ref q_92, .ref q_93, .int 0, .int 0, .int 0, .int 105, .int 0, .int 0, .int 0, .int (-1), .int 0, .int 0, .int 0, .int 0, .int 0, .int 0, .int 0, .long 0, .int 0, .int 0]))]) (w1 := []) hP hD [0, 1, 2] [3] rfl rfl (by decide) (by decide) hk1 hFc hP1 hD1
  generalize H1 = H at hP hS ⊢
  have hP : va_P (dC, dI) vwCl [(q_90, .inr (16, [.ref q_97, .ref q_103, .ref q_113, .ref q_92, .ref q_93, .int 0, .int 0, .int 0, .int 105, .int 0, .int 0, .int 0, .int (-1), .int 0, .int 0, .int 0, .int 0, .int 0, .int 0, .int 0, .long 0, .int 0, .int 0]))] H := hP
  have hD : va_D A [(q_90, .inr (16, [.ref q_97, .ref q_103, .ref q_113, .ref q_92, .ref q_93, .int 0, .int 0, .int 0, .int 105, .int 0, .int 0, .int 0, .int (-1), .int 0, .int 0, .int 0, .int 0, .int 0, .int 0, .int 0, .long 0, .int 0, .int 0]))] := hD
  refine lt_ci (y := 0) hw ?_
  refine lv_aload_n hx hb dL_law_1739 rfl (lv_at hl 3 rfl) ?_
  have hPc := hP.sub (ws' := [(q_90, .inr (16, [.ref q_97, .ref q_103, .ref q_113, .ref q_92, .ref q_93, .int 0, .int 0, .int 0, .int 105, .int 0, .int 0, .int 0, .int (-1), .int 0, .int 0, .int 0, .int 0, .int 0, .int 0, .int 0, .long 0, .int 0, .int 0]))]) [0] rfl
  have hDc := hD.sub (ws' := [(q_90, .inr (16, [.ref q_97, .ref q_103, .ref q_113, .ref q_92, .ref q_93, .int 0, .int 0, .int 0, .int 105, .int 0, .int 0, .int 0, .int (-1), .int 0, .int 0, .int 0, .int 0, .int 0, .int 0, .int 0, .long 0, .int 0, .int 0]))]) [0] (by decide) rfl
  have hKc := hK.sub (tys' := [(cI, .int), (cZ, .boolean), (cO, .object "java/lang/Object")]) [0, 1, 2] rfl
  have hFc := va_free (wc := [(q_90, .inr (16, [.ref q_97, .ref q_103, .ref q_113, .ref q_92, .ref q_93, .int 0, .int 0, .int 0, .int 105, .int 0, .int 0, .int 0, .int (-1), .int 0, .int 0, .int 0, .int 0, .int 0, .int 0, .int 0, .long 0, .int 0, .int 0]))]) hD hS hA [0] rfl
  refine va_calli (va_runV (As := []) (rest := [.int 0]) ⟨hx, hb, hml, hown, hts⟩ (c_X12_late l dC dI g q_90 q_92 q_93 q_97 q_103 q_113 cI cZ cO 0 H.size) (cwV 0 hts gL_law_X12_late rfl rfl rfl (by decide +kernel) ⟨Nat.le_of_ble_eq_true rfl, Nat.le_of_ble_eq_true rfl⟩) ⟨wIn_blind, va_recv hK hP (ci := 16) (q0 := 0) rfl rfl, wIn_at hPc hKc hDc hG hS hFc⟩ rfl rfl hl.1 rfl (lv_room (Nat.le_of_ble_eq_true rfl)) dL_law_1740 ⟨Nat.le_of_ble_eq_true rfl, Nat.le_of_ble_eq_true rfl⟩) hS (fun q _ h => hFc q h) hFc (fun r_121 u t H1 locs ht hvm hw hB hz1 hk1 hS => ?_)
  obtain ⟨v_122, rfl⟩ : ∃ z, z = u := ⟨_, rfl⟩
  have hw : v_122 = mp_X12_late ∧ (mp_X12_late = 0 → r_121 = 0) := hw
  obtain ⟨hm9, hv_123⟩ := hw
  have hm9 := hm9.trans ((kc_mp_X12_late))
  subst hm9
  obtain ⟨hP1, hK1, hD1⟩ := hB
  rw [ht] at hP1
  obtain ⟨hP, hD⟩ := va_join (wr := []) (w1 := [(q_90, .inr (16, [.ref q_97, .ref q_103, .ref q_113, .ref q_92, .ref q_93, .int 0, .int 0, .int 0, .int 105, .int 0, .int 0, .int 0, .int (-1), .int 0, .int 0, .int 0, .int 0, .int 0, .int 0, .int 0, .long 0, .int 0, .int 0]))]) hP hD [0] [] rfl rfl (by decide) (by decide) hk1 hFc hP1 hD1
  generalize H1 = H at hP hS ⊢
  have hP : va_P (dC, dI) vwCl [(q_90, .inr (16, [.ref q_97, .ref q_103, .ref q_113, .ref q_92, .ref q_93, .int 0, .int 0, .int 0, .int 105, .int 0, .int 0, .int 0, .int (-1), .int 0, .int 0, .int 0, .int 0, .int 0, .int 0, .int 0, .long 0, .int 0, .int 0]))] H := hP
  have hD : va_D A [(q_90, .inr (16, [.ref q_97, .ref q_103, .ref q_113, .ref q_92, .ref q_93, .int 0, .int 0, .int 0, .int 105, .int 0, .int 0, .int 0, .int (-1), .int 0, .int 0, .int 0, .int 0, .int 0, .int 0, .int 0, .long 0, .int 0, .int 0]))] := hD
  refine lt_ci (y := 0) (hv_123 (kc_mp_X12_late)) ?_
  refine lv_icmp_eq (tgt := 1976) hx hb dL_law_1743 (by decide) (fun _ => ?_) (fun c => absurd (by decide) c)
  refine lv_iinc (v := 6) (lv' := [(5, .int 6), (4, .ref q_118), (3, .ref q_116), (2, .ref q_90), (1, .ref q_1), (0, .ref b)]) hx hb dL_law_1976 hl (k := 0) rfl (by first | rfl | decide) (by decide) rfl (fun ls hl => ?_)
  refine lv_goto (tgt := 28) hx hb dL_law_1979 (by decide) ?_
  refine lv_iload hx hb dL_law_28 (lv_at hl 0 rfl) ?_
  refine lv_aload_n hx hb dL_law_30 rfl (lv_at hl 5 rfl) ?_
  refine va_slen hx hb hX hbl hbA hS dL_law_31 ?_
  refine lt_ci (y := 6) rfl ?_
  refine lv_bipush (v := 6) hx hb dL_law_32 (by decide) ?_
  refine lv_isub hx hb dL_law_34 ?_
  refine lt_ci (y := 0) (by first | rfl | decide) ?_
  refine lv_icmp_gt (tgt := 1982) hx hb dL_law_35 (by decide) (fun _ => ?_) (fun c => absurd (by decide) c)
  refine lv_iconst (v := 1) hx hb dL_law_1982 (by decide) ?_
  refine W.widen (k := 735603) (n := 6895256) (Nat.le_of_ble_eq_true rfl) (Nat.le_of_ble_eq_true rfl) ?_
  refine va_forget (fun q hq => by have h9 := hS.2.2 q hq; rw [hAe] at h9; exact h9) ?_
  exact W.base (lw_ret (Drawn.sameBut.refl s.drawn lw_cs) hx hb hr hlocks dL_law_1983)
set_option maxHeartbeats 8000000 in
set_option maxRecDepth 100000 in
theorem c_L_law_28 {p : Program} {e : Env} {s : State} {m : MethodId} {below : List Frame} {meth : Method} {c : Code} (l : Launch) (hl9 : l.stackTraces = false) (dC : Nat → ClassId) (dI : Nat → Nat → Nat) (g : Nat × Nat × Nat) (b : Nat) (xs : Nat → Int32) (cI cZ cO : ClassId) (hx : p.tables.exec = Jvm.exec) (hb : c.code = cL_law) (hr : meth.sig.returnType = ret) (hml : c.maxLocals = 9) (hown : s.vm.findClass RL = some m.cls) (hts : ∀ w ∈ wsL_law, w.before #[Value.ref b] s = true) (hX : va_X b 6 xs s s.heap) (hbl : b < s.heap.size) (hlocks : meth.locks = false) (hG : gx g (fun q => s.heap.size ≤ q) s s.heap) (hk : (xs 0 &&& 63) = 28) (cA_117 : ClassId) (cA_119 : ClassId) (q_1 : Nat) (q_3 : Nat) (q_4 : Nat) (q_10 : Nat) (q_18 : Nat) (q_21 : Nat) (q_27 : Nat) (q_28 : Nat) (q_31 : Nat) (q_32 : Nat) (q_61 : Nat) (q_90 : Nat) (q_92 : Nat) (q_93 : Nat) (q_97 : Nat) (q_103 : Nat) (q_113 : Nat) (q_116 : Nat) (q_118 : Nat) (H : Heap) (locs : List Loc) (ls : Array Slot) (hK : va_K (dC, dI) vwCl [(cI, .int), (cZ, .boolean), (cO, .object "java/lang/Object"), (cA_117, .long), (cA_119, .double)] s) (hP : va_P (dC, dI) vwCl [(q_1, .inr (12, [.ref q_3, .ref q_32, .ref q_61])), (q_3, .inr (4, [.ref q_4, .ref q_10, .ref q_18, .ref q_21, .ref q_27, .ref q_31, .int 0, .int 0, .long 0])), (q_27, .inr (8, [.ref q_28, .int 105, .int 0, .int (-1), .int 0, .int 0, .int 0])), (q_90, .inr (16, [.ref q_97, .ref q_103, .ref q_113, .ref q_92, .ref q_93, .int 0, .int 0, .int 0, .int 105, .int 0, .int 0, .int 0, .int (-1), .int 0, .int 0, .int 0, .int 0, .int 0, .int 0, .int 0, .long 0, .int 0, .int 0]))] H) (hD : va_D (fun q => s.heap.size ≤ q) [(q_1, .inr (12, [.ref q_3, .ref q_32, .ref q_61])), (q_3, .inr (4, [.ref q_4, .ref q_10, .ref q_18, .ref q_21, .ref q_27, .ref q_31, .int 0, .int 0, .long 0])), (q_27, .inr (8, [.ref q_28, .int 105, .int 0, .int (-1), .int 0, .int 0, .int 0])), (q_90, .inr (16, [.ref q_97, .ref q_103, .ref q_113, .ref q_92, .ref q_93, .int 0, .int 0, .int 0, .int 105, .int 0, .int 0, .int 0, .int (-1), .int 0, .int 0, .int 0, .int 0, .int 0, .int 0, .int 0, .long 0, .int 0, .int 0]))]) (hS : va_S (fun q => s.heap.size ≤ q) s.heap H locs) (hl : lv_has ls 9 [(5, .int 0), (4, .ref q_118), (3, .ref q_116), (2, .ref q_90), (1, .ref q_1), (0, .ref b)]) : W p l e room_1 s m #[Value.ref b] below meth c H locs 115 1854 (lw_Z below #[Value.ref b] s) (F0 m 28 ls []) := by
  have hN := hG.1
  obtain ⟨A, hAe⟩ : ∃ A : Nat → Prop, A = (fun q => s.heap.size ≤ q) := ⟨_, rfl⟩
  rw [← hAe] at hG hD hS
  have hA : ∀ q : Nat, s.heap.size ≤ q → A q := fun q h => by rw [hAe]; exact h
  have hbA : ¬ A b := by rw [hAe]; exact Nat.not_le.mpr hbl
  refine lv_iload hx hb dL_law_28 (lv_at hl 0 rfl) ?_
  refine lv_aload_n hx hb dL_law_30 rfl (lv_at hl 5 rfl) ?_
  refine va_slen hx hb hX hbl hbA hS dL_law_31 ?_
  refine lt_ci (y := 6) rfl ?_
  refine lv_bipush (v := 6) hx hb dL_law_32 (by decide) ?_
  refine lv_isub hx hb dL_law_34 ?_
  refine lt_ci (y := 0) (by first | rfl | decide) ?_
  refine lv_icmp_gt (tgt := 1982) hx hb dL_law_35 (by decide) (fun c => absurd c (by decide)) (fun _ => ?_)
  refine lv_aload_n hx hb dL_law_38 rfl (lv_at hl 5 rfl) ?_
  refine lv_iload hx hb dL_law_39 (lv_at hl 0 rfl) ?_
  refine va_sld hx hb hX hbl hbA hS (by unfold vp_in; decide) dL_law_41 ?_
  refine lt_ci (y := (xs 0)) rfl ?_
  refine lv_bipush (v := 63) hx hb dL_law_42 (by decide) ?_
  refine lv_iand hx hb dL_law_44 ?_
  refine lt_ci (y := 28) hk ?_
  refine lv_tableIn (off := 1703) (tgt := 1748) hx hb dL_law_45 (by decide) (by decide) (by decide) (by decide) ?_
  refine lv_aload_n hx hb dL_law_1748 rfl (lv_at hl 4 rfl) ?_
  have hPc := hP.sub (ws' := [(q_1, .inr (12, [.ref q_3, .ref q_32, .ref q_61])), (q_3, .inr (4, [.ref q_4, .ref q_10, .ref q_18, .ref q_21, .ref q_27, .ref q_31, .int 0, .int 0, .long 0])), (q_27, .inr (8, [.ref q_28, .int 105, .int 0, .int (-1), .int 0, .int 0, .int 0]))]) [0, 1, 2] rfl
  have hDc := hD.sub (ws' := [(q_1, .inr (12, [.ref q_3, .ref q_32, .ref q_61])), (q_3, .inr (4, [.ref q_4, .ref q_10, .ref q_18, .ref q_21, .ref q_27, .ref q_31, .int 0, .int 0, .long 0])), (q_27, .inr (8, [.ref q_28, .int 105, .int 0, .int (-1), .int 0, .int 0, .int 0]))]) [0, 1, 2] (by decide) rfl
  have hKc := hK.sub (tys' := [(cI, .int)]) [0] rfl
  have hFc := va_free (wc := [(q_1, .inr (12, [.ref q_3, .ref q_32, .ref q_61])), (q_3, .inr (4, [.ref q_4, .ref q_10, .ref q_18, .ref q_21, .ref q_27, .ref q_31, .int 0, .int 0, .long 0])), (q_27, .inr (8, [.ref q_28, .int 105, .int 0, .int (-1), .int 0, .int 0, .int 0]))]) hD hS hA [0, 1, 2] rfl
  refine va_calli (va_runV (As := []) (rest := []) ⟨hx, hb, hml, hown, hts⟩ (c_X8_chained l dC dI g q_1 q_32 q_61 q_3 q_4 q_10 q_18 q_21 q_28 q_27 q_31 cI H.size) (cwV 0 hts gL_law_X8_chained rfl rfl rfl (by decide +kernel) ⟨Nat.le_of_ble_eq_true rfl, Nat.le_of_ble_eq_true rfl⟩) ⟨wIn_blind, va_recv hK hP (ci := 12) (q0 := 0) rfl rfl, wIn_at hPc hKc hDc hG hS hFc⟩ rfl rfl hl.1 rfl (lv_room (Nat.le_of_ble_eq_true rfl)) dL_law_1749 ⟨Nat.le_of_ble_eq_true rfl, Nat.le_of_ble_eq_true rfl⟩) hS (fun q _ h => hFc q h) hFc (fun r_120 u t H1 locs ht hvm hw hB hz1 hk1 hS => ?_)
  obtain ⟨hP1, hK1, hD1⟩ := hB
  rw [ht] at hP1
  obtain ⟨hP, hD⟩ := va_join (wr := [(q_90, .inr (16, [.ref q_97, .ref q_103, .ref q_113, .ref q_92, .ref q_93, .int 0, .int 0, .int 0, .int 105, .int 0, .int 0, .int 0, .int (-1), .int 0, .int 0, .int 0, .int 0, .int 0, .int 0, .int 0, .long 0, .int 0, .int 0]))]) (w1 := []) hP hD [0, 1, 2] [3] rfl rfl (by decide) (by decide) hk1 hFc hP1 hD1
  generalize H1 = H at hP hS ⊢
  have hP : va_P (dC, dI) vwCl [(q_90, .inr (16, [.ref q_97, .ref q_103, .ref q_113, .ref q_92, .ref q_93, .int 0, .int 0, .int 0, .int 105, .int 0, .int 0, .int 0, .int (-1), .int 0, .int 0, .int 0, .int 0, .int 0, .int 0, .int 0, .long 0, .int 0, .int 0]))] H := hP
  have hD : va_D A [(q_90, .inr (16, [.ref q_97, .ref q_103, .ref q_113, .ref q_92, .ref q_93, .int 0, .int 0, .int 0, .int 105, .int 0, .int 0, .int 0, .int (-1), .int 0, .int 0, .int 0, .int 0, .int 0, .int 0, .int 0, .long 0, .int 0, .int 0]))] := hD
  refine lt_ci (y := 0) hw ?_
  refine lv_aload_n hx hb dL_law_1752 rfl (lv_at hl 3 rfl) ?_
  have hPc := hP.sub (ws' := [(q_90, .inr (16, [.ref q_97, .ref q_103, .ref q_113, .ref q_92, .ref q_93, .int 0, .int 0, .int 0, .int 105, .int 0, .int 0, .int 0, .int (-1), .int 0, .int 0, .int 0, .int 0, .int 0, .int 0, .int 0, .long 0, .int 0, .int 0]))]) [0] rfl
  have hDc := hD.sub (ws' := [(q_90, .inr (16, [.ref q_97, .ref q_103, .ref q_113, .ref q_92, .ref q_93, .int 0, .int 0, .int 0, .int 105, .int 0, .int 0, .int 0, .int (-1), .int 0, .int 0, .int 0, .int 0, .int 0, .int 0, .int 0, .long 0, .int 0, .int 0]))]) [0] (by decide) rfl
  have hKc := hK.sub (tys' := [(cI, .int), (cZ, .boolean), (cO, .object "java/lang/Object")]) [0, 1, 2] rfl
  have hFc := va_free (wc := [(q_90, .inr (16, [.ref q_97, .ref q_103, .ref q_113, .ref q_92, .ref q_93, .int 0, .int 0, .int 0, .int 105, .int 0, .int 0, .int 0, .int (-1), .int 0, .int 0, .int 0, .int 0, .int 0, .int 0, .int 0, .long 0, .int 0, .int 0]))]) hD hS hA [0] rfl
  refine va_calli (va_runV (As := []) (rest := [.int 0]) ⟨hx, hb, hml, hown, hts⟩ (c_X12_chained l dC dI g q_90 q_92 q_93 q_97 q_103 q_113 cI cZ cO 0 H.size) (cwV 0 hts gL_law_X12_chained rfl rfl rfl (by decide +kernel) ⟨Nat.le_of_ble_eq_true rfl, Nat.le_of_ble_eq_true rfl⟩) ⟨wIn_blind, va_recv hK hP (ci := 16) (q0 := 0) rfl rfl, wIn_at hPc hKc hDc hG hS hFc⟩ rfl rfl hl.1 rfl (lv_room (Nat.le_of_ble_eq_true rfl)) dL_law_1753 ⟨Nat.le_of_ble_eq_true rfl, Nat.le_of_ble_eq_true rfl⟩) hS (fun q _ h => hFc q h) hFc (fun r_121 u t H1 locs ht hvm hw hB hz1 hk1 hS => ?_)
  obtain ⟨v_122, rfl⟩ : ∃ z, z = u := ⟨_, rfl⟩
  have hw : v_122 = mp_X12_chained ∧ (mp_X12_chained = 0 → r_121 = 0) := hw
  obtain ⟨hm9, hv_123⟩ := hw
  have hm9 := hm9.trans ((kc_mp_X12_chained))
  subst hm9
  obtain ⟨hP1, hK1, hD1⟩ := hB
  rw [ht] at hP1
  obtain ⟨hP, hD⟩ := va_join (wr := []) (w1 := [(q_90, .inr (16, [.ref q_97, .ref q_103, .ref q_113, .ref q_92, .ref q_93, .int 0, .int 0, .int 0, .int 105, .int 0, .int 0, .int 0, .int (-1), .int 0, .int 0, .int 0, .int 0, .int 0, .int 0, .int 0, .long 0, .int 0, .int 0]))]) hP hD [0] [] rfl rfl (by decide) (by decide) hk1 hFc hP1 hD1
  generalize H1 = H at hP hS ⊢
  have hP : va_P (dC, dI) vwCl [(q_90, .inr (16, [.ref q_97, .ref q_103, .ref q_113, .ref q_92, .ref q_93, .int 0, .int 0, .int 0, .int 105, .int 0, .int 0, .int 0, .int (-1), .int 0, .int 0, .int 0, .int 0, .int 0, .int 0, .int 0, .long 0, .int 0, .int 0]))] H := hP
  have hD : va_D A [(q_90, .inr (16, [.ref q_97, .ref q_103, .ref q_113, .ref q_92, .ref q_93, .int 0, .int 0, .int 0, .int 105, .int 0, .int 0, .int 0, .int (-1), .int 0, .int 0, .int 0, .int 0, .int 0, .int 0, .int 0, .long 0, .int 0, .int 0]))] := hD
  refine lt_ci (y := 0) (hv_123 (kc_mp_X12_chained)) ?_
  refine lv_icmp_eq (tgt := 1976) hx hb dL_law_1756 (by decide) (fun _ => ?_) (fun c => absurd (by decide) c)
  refine lv_iinc (v := 6) (lv' := [(5, .int 6), (4, .ref q_118), (3, .ref q_116), (2, .ref q_90), (1, .ref q_1), (0, .ref b)]) hx hb dL_law_1976 hl (k := 0) rfl (by first | rfl | decide) (by decide) rfl (fun ls hl => ?_)
  refine lv_goto (tgt := 28) hx hb dL_law_1979 (by decide) ?_
  refine lv_iload hx hb dL_law_28 (lv_at hl 0 rfl) ?_
  refine lv_aload_n hx hb dL_law_30 rfl (lv_at hl 5 rfl) ?_
  refine va_slen hx hb hX hbl hbA hS dL_law_31 ?_
  refine lt_ci (y := 6) rfl ?_
  refine lv_bipush (v := 6) hx hb dL_law_32 (by decide) ?_
  refine lv_isub hx hb dL_law_34 ?_
  refine lt_ci (y := 0) (by first | rfl | decide) ?_
  refine lv_icmp_gt (tgt := 1982) hx hb dL_law_35 (by decide) (fun _ => ?_) (fun c => absurd (by decide) c)
  refine lv_iconst (v := 1) hx hb dL_law_1982 (by decide) ?_
  refine W.widen (k := 735603) (n := 6895256) (Nat.le_of_ble_eq_true rfl) (Nat.le_of_ble_eq_true rfl) ?_
  refine va_forget (fun q hq => by have h9 := hS.2.2 q hq; rw [hAe] at h9; exact h9) ?_
  exact W.base (lw_ret (Drawn.sameBut.refl s.drawn lw_cs) hx hb hr hlocks dL_law_1983)
set_option maxHeartbeats 8000000 in
set_option maxRecDepth 100000 in
theorem c_L_law_29 {p : Program} {e : Env} {s : State} {m : MethodId} {below : List Frame} {meth : Method} {c : Code} (l : Launch) (hl9 : l.stackTraces = false) (dC : Nat → ClassId) (dI : Nat → Nat → Nat) (g : Nat × Nat × Nat) (b : Nat) (xs : Nat → Int32) (cI cZ cO : ClassId) (hx : p.tables.exec = Jvm.exec) (hb : c.code = cL_law) (hr : meth.sig.returnType = ret) (hml : c.maxLocals = 9) (hown : s.vm.findClass RL = some m.cls) (hts : ∀ w ∈ wsL_law, w.before #[Value.ref b] s = true) (hX : va_X b 6 xs s s.heap) (hbl : b < s.heap.size) (hlocks : meth.locks = false) (hG : gx g (fun q => s.heap.size ≤ q) s s.heap) (hk : (xs 0 &&& 63) = 29) (cA_117 : ClassId) (cA_119 : ClassId) (q_1 : Nat) (q_3 : Nat) (q_4 : Nat) (q_10 : Nat) (q_18 : Nat) (q_21 : Nat) (q_27 : Nat) (q_31 : Nat) (q_32 : Nat) (q_61 : Nat) (q_90 : Nat) (q_92 : Nat) (q_93 : Nat) (q_97 : Nat) (q_103 : Nat) (q_113 : Nat) (q_116 : Nat) (q_118 : Nat) (H : Heap) (locs : List Loc) (ls : Array Slot) (hK : va_K (dC, dI) vwCl [(cI, .int), (cZ, .boolean), (cO, .object "java/lang/Object"), (cA_117, .long), (cA_119, .double)] s) (hP : va_P (dC, dI) vwCl [(q_1, .inr (12, [.ref q_3, .ref q_32, .ref q_61])), (q_3, .inr (4, [.ref q_4, .ref q_10, .ref q_18, .ref q_21, .ref q_27, .ref q_31, .int 0, .int 0, .long 0])), (q_31, .inr (11, [.int (-1), .int 0, .int 0, .int 0, .int 0, .int 0])), (q_90, .inr (16, [.ref q_97, .ref q_103, .ref q_113, .ref q_92, .ref q_93, .int 0, .int 0, .int 0, .int 105, .int 0, .int 0, .int 0, .int (-1), .int 0, .int 0, .int 0, .int 0, .int 0, .int 0, .int 0, .long 0, .int 0, .int 0]))] H) (hD : va_D (fun q => s.heap.size ≤ q) [(q_1, .inr (12, [.ref q_3, .ref q_32, .ref q_61])), (q_3, .inr (4, [.ref q_4, .ref q_10, .ref q_18, .ref q_21, .ref q_27, .ref q_31, .int 0, .int 0, .long 0])), (q_31, .inr (11, [.int (-1), .int 0, .int 0, .int 0, .int 0, .int 0])), (q_90, .inr (16, [.ref q_97, .ref q_103, .ref q_113, .ref q_92, .ref q_93, .int 0, .int 0, .int 0, .int 105, .int 0, .int 0, .int 0, .int (-1), .int 0, .int 0, .int 0, .int 0, .int 0, .int 0, .int 0, .long 0, .int 0, .int 0]))]) (hS : va_S (fun q => s.heap.size ≤ q) s.heap H locs) (hl : lv_has ls 9 [(5, .int 0), (4, .ref q_118), (3, .ref q_116), (2, .ref q_90), (1, .ref q_1), (0, .ref b)]) : W p l e room_1 s m #[Value.ref b] below meth c H locs 115 1854 (lw_Z below #[Value.ref b] s) (F0 m 28 ls []) := by
  have hN := hG.1
  obtain ⟨A, hAe⟩ : ∃ A : Nat → Prop, A = (fun q => s.heap.size ≤ q) := ⟨_, rfl⟩
  rw [← hAe] at hG hD hS
  have hA : ∀ q : Nat, s.heap.size ≤ q → A q := fun q h => by rw [hAe]; exact h
  have hbA : ¬ A b := by rw [hAe]; exact Nat.not_le.mpr hbl
  refine lv_iload hx hb dL_law_28 (lv_at hl 0 rfl) ?_
  refine lv_aload_n hx hb dL_law_30 rfl (lv_at hl 5 rfl) ?_
  refine va_slen hx hb hX hbl hbA hS dL_law_31 ?_
  refine lt_ci (y := 6) rfl ?_
  refine lv_bipush (v := 6) hx hb dL_law_32 (by decide) ?_
  refine lv_isub hx hb dL_law_34 ?_
  refine lt_ci (y := 0) (by first | rfl | decide) ?_
  refine lv_icmp_gt (tgt := 1982) hx hb dL_law_35 (by decide) (fun c => absurd c (by decide)) (fun _ => ?_)
  refine lv_aload_n hx hb dL_law_38 rfl (lv_at hl 5 rfl) ?_
  refine lv_iload hx hb dL_law_39 (lv_at hl 0 rfl) ?_
  refine va_sld hx hb hX hbl hbA hS (by unfold vp_in; decide) dL_law_41 ?_
  refine lt_ci (y := (xs 0)) rfl ?_
  refine lv_bipush (v := 63) hx hb dL_law_42 (by decide) ?_
  refine lv_iand hx hb dL_law_44 ?_
  refine lt_ci (y := 29) hk ?_
  refine lv_tableIn (off := 1716) (tgt := 1761) hx hb dL_law_45 (by decide) (by decide) (by decide) (by decide) ?_
  refine lv_aload_n hx hb dL_law_1761 rfl (lv_at hl 4 rfl) ?_
  have hPc := hP.sub (ws' := [(q_1, .inr (12, [.ref q_3, .ref q_32, .ref q_61])), (q_3, .inr (4, [.ref q_4, .ref q_10, .ref q_18, .ref q_21, .ref q_27, .ref q_31, .int 0, .int 0, .long 0])), (q_31, .inr (11, [.int (-1), .int 0, .int 0, .int 0, .int 0, .int 0]))]) [0, 1, 2] rfl
  have hDc := hD.sub (ws' := [(q_1, .inr (12, [.ref q_3, .ref q_32, .ref q_61])), (q_3, .inr (4, [.ref q_4, .ref q_10, .ref q_18, .ref q_21, .ref q_27, .ref q_31, .int 0, .int 0, .long 0])), (q_31, .inr (11, [.int (-1), .int 0, .int 0, .int 0, .int 0, .int 0]))]) [0, 1, 2] (by decide) rfl
  have hKc := hK.sub (tys' := [(cI, .int)]) [0] rfl
  have hFc := va_free (wc := [(q_1, .inr (12, [.ref q_3, .ref q_32, .ref q_61])), (q_3, .inr (4, [.ref q_4, .ref q_10, .ref q_18, .ref q_21, .ref q_27, .ref q_31, .int 0, .int 0, .long 0])), (q_31, .inr (11, [.int (-1), .int 0, .int 0, .int 0, .int 0, .int 0]))]) hD hS hA [0, 1, 2] rfl
  refine va_calli (va_runV (As := []) (rest := []) ⟨hx, hb, hml, hown, hts⟩ (c_X8_resets l dC dI g q_1 q_32 q_61 q_3 q_4 q_10 q_18 q_21 q_27 q_31 cI H.size) (cwV 0 hts gL_law_X8_resets rfl rfl rfl (by decide +kernel) ⟨Nat.le_of_ble_eq_true rfl, Nat.le_of_ble_eq_true rfl⟩) ⟨wIn_blind, va_recv hK hP (ci := 12) (q0 := 0) rfl rfl, wIn_at hPc hKc hDc hG hS hFc⟩ rfl rfl hl.1 rfl (lv_room (Nat.le_of_ble_eq_true rfl)) dL_law_1762 ⟨Nat.le_of_ble_eq_true rfl, Nat.le_of_ble_eq_true rfl⟩) hS (fun q _ h => hFc q h) hFc (fun r_120 u t H1 locs ht hvm hw hB hz1 hk1 hS => ?_)
  obtain ⟨hP1, hK1, hD1⟩ := hB
  rw [ht] at hP1
  obtain ⟨hP, hD⟩ := va_join (wr := [(q_90, .inr (16, [.ref q_97, .ref q_103, .ref q_113, .ref q_92, .ref q_93, .int 0, .int 0, .int 0, .int 105, .int 0, .int 0, .int 0, .int (-1), .int 0, .int 0, .int 0, .int 0, .int 0, .int 0, .int 0, .long 0, .int 0, .int 0]))]) (w1 := []) hP hD [0, 1, 2] [3] rfl rfl (by decide) (by decide) hk1 hFc hP1 hD1
  generalize H1 = H at hP hS ⊢
  have hP : va_P (dC, dI) vwCl [(q_90, .inr (16, [.ref q_97, .ref q_103, .ref q_113, .ref q_92, .ref q_93, .int 0, .int 0, .int 0, .int 105, .int 0, .int 0, .int 0, .int (-1), .int 0, .int 0, .int 0, .int 0, .int 0, .int 0, .int 0, .long 0, .int 0, .int 0]))] H := hP
  have hD : va_D A [(q_90, .inr (16, [.ref q_97, .ref q_103, .ref q_113, .ref q_92, .ref q_93, .int 0, .int 0, .int 0, .int 105, .int 0, .int 0, .int 0, .int (-1), .int 0, .int 0, .int 0, .int 0, .int 0, .int 0, .int 0, .long 0, .int 0, .int 0]))] := hD
  refine lt_ci (y := 0) hw ?_
  refine lv_aload_n hx hb dL_law_1765 rfl (lv_at hl 3 rfl) ?_
  have hPc := hP.sub (ws' := [(q_90, .inr (16, [.ref q_97, .ref q_103, .ref q_113, .ref q_92, .ref q_93, .int 0, .int 0, .int 0, .int 105, .int 0, .int 0, .int 0, .int (-1), .int 0, .int 0, .int 0, .int 0, .int 0, .int 0, .int 0, .long 0, .int 0, .int 0]))]) [0] rfl
  have hDc := hD.sub (ws' := [(q_90, .inr (16, [.ref q_97, .ref q_103, .ref q_113, .ref q_92, .ref q_93, .int 0, .int 0, .int 0, .int 105, .int 0, .int 0, .int 0, .int (-1), .int 0, .int 0, .int 0, .int 0, .int 0, .int 0, .int 0, .long 0, .int 0, .int 0]))]) [0] (by decide) rfl
  have hKc := hK.sub (tys' := [(cI, .int), (cZ, .boolean), (cO, .object "java/lang/Object")]) [0, 1, 2] rfl
  have hFc := va_free (wc := [(q_90, .inr (16, [.ref q_97, .ref q_103, .ref q_113, .ref q_92, .ref q_93, .int 0, .int 0, .int 0, .int 105, .int 0, .int 0, .int 0, .int (-1), .int 0, .int 0, .int 0, .int 0, .int 0, .int 0, .int 0, .long 0, .int 0, .int 0]))]) hD hS hA [0] rfl
  refine va_calli (va_runV (As := []) (rest := [.int 0]) ⟨hx, hb, hml, hown, hts⟩ (c_X12_resets l dC dI g q_90 q_92 q_93 q_97 q_103 q_113 cI cZ cO 0 H.size) (cwV 0 hts gL_law_X12_resets rfl rfl rfl (by decide +kernel) ⟨Nat.le_of_ble_eq_true rfl, Nat.le_of_ble_eq_true rfl⟩) ⟨wIn_blind, va_recv hK hP (ci := 16) (q0 := 0) rfl rfl, wIn_at hPc hKc hDc hG hS hFc⟩ rfl rfl hl.1 rfl (lv_room (Nat.le_of_ble_eq_true rfl)) dL_law_1766 ⟨Nat.le_of_ble_eq_true rfl, Nat.le_of_ble_eq_true rfl⟩) hS (fun q _ h => hFc q h) hFc (fun r_121 u t H1 locs ht hvm hw hB hz1 hk1 hS => ?_)
  obtain ⟨v_122, rfl⟩ : ∃ z, z = u := ⟨_, rfl⟩
  have hw : v_122 = mp_X12_resets ∧ (mp_X12_resets = 0 → r_121 = 0) := hw
  obtain ⟨hm9, hv_123⟩ := hw
  have hm9 := hm9.trans ((kc_mp_X12_resets))
  subst hm9
  obtain ⟨hP1, hK1, hD1⟩ := hB
  rw [ht] at hP1
  obtain ⟨hP, hD⟩ := va_join (wr := []) (w1 := [(q_90, .inr (16, [.ref q_97, .ref q_103, .ref q_113, .ref q_92, .ref q_93, .int 0, .int 0, .int 0, .int 105, .int 0, .int 0, .int 0, .int (-1), .int 0, .int 0, .int 0, .int 0, .int 0, .int 0, .int 0, .long 0, .int 0, .int 0]))]) hP hD [0] [] rfl rfl (by decide) (by decide) hk1 hFc hP1 hD1
  generalize H1 = H at hP hS ⊢
  have hP : va_P (dC, dI) vwCl [(q_90, .inr (16, [.ref q_97, .ref q_103, .ref q_113, .ref q_92, .ref q_93, .int 0, .int 0, .int 0, .int 105, .int 0, .int 0, .int 0, .int (-1), .int 0, .int 0, .int 0, .int 0, .int 0, .int 0, .int 0, .long 0, .int 0, .int 0]))] H := hP
  have hD : va_D A [(q_90, .inr (16, [.ref q_97, .ref q_103, .ref q_113, .ref q_92, .ref q_93, .int 0, .int 0, .int 0, .int 105, .int 0, .int 0, .int 0, .int (-1), .int 0, .int 0, .int 0, .int 0, .int 0, .int 0, .int 0, .long 0, .int 0, .int 0]))] := hD
  refine lt_ci (y := 0) (hv_123 (kc_mp_X12_resets)) ?_
  refine lv_icmp_eq (tgt := 1976) hx hb dL_law_1769 (by decide) (fun _ => ?_) (fun c => absurd (by decide) c)
  refine lv_iinc (v := 6) (lv' := [(5, .int 6), (4, .ref q_118), (3, .ref q_116), (2, .ref q_90), (1, .ref q_1), (0, .ref b)]) hx hb dL_law_1976 hl (k := 0) rfl (by first | rfl | decide) (by decide) rfl (fun ls hl => ?_)
  refine lv_goto (tgt := 28) hx hb dL_law_1979 (by decide) ?_
  refine lv_iload hx hb dL_law_28 (lv_at hl 0 rfl) ?_
  refine lv_aload_n hx hb dL_law_30 rfl (lv_at hl 5 rfl) ?_
  refine va_slen hx hb hX hbl hbA hS dL_law_31 ?_
  refine lt_ci (y := 6) rfl ?_
  refine lv_bipush (v := 6) hx hb dL_law_32 (by decide) ?_
  refine lv_isub hx hb dL_law_34 ?_
  refine lt_ci (y := 0) (by first | rfl | decide) ?_
  refine lv_icmp_gt (tgt := 1982) hx hb dL_law_35 (by decide) (fun _ => ?_) (fun c => absurd (by decide) c)
  refine lv_iconst (v := 1) hx hb dL_law_1982 (by decide) ?_
  refine W.widen (k := 735603) (n := 6895256) (Nat.le_of_ble_eq_true rfl) (Nat.le_of_ble_eq_true rfl) ?_
  refine va_forget (fun q hq => by have h9 := hS.2.2 q hq; rw [hAe] at h9; exact h9) ?_
  exact W.base (lw_ret (Drawn.sameBut.refl s.drawn lw_cs) hx hb hr hlocks dL_law_1983)
set_option maxHeartbeats 8000000 in
set_option maxRecDepth 100000 in
theorem c_L_law_30 {p : Program} {e : Env} {s : State} {m : MethodId} {below : List Frame} {meth : Method} {c : Code} (l : Launch) (hl9 : l.stackTraces = false) (dC : Nat → ClassId) (dI : Nat → Nat → Nat) (g : Nat × Nat × Nat) (b : Nat) (xs : Nat → Int32) (cI cZ cO : ClassId) (hx : p.tables.exec = Jvm.exec) (hb : c.code = cL_law) (hr : meth.sig.returnType = ret) (hml : c.maxLocals = 9) (hown : s.vm.findClass RL = some m.cls) (hts : ∀ w ∈ wsL_law, w.before #[Value.ref b] s = true) (hX : va_X b 6 xs s s.heap) (hbl : b < s.heap.size) (hlocks : meth.locks = false) (hG : gx g (fun q => s.heap.size ≤ q) s s.heap) (hk : (xs 0 &&& 63) = 30) (cA_117 : ClassId) (cA_119 : ClassId) (q_1 : Nat) (q_3 : Nat) (q_4 : Nat) (q_10 : Nat) (q_18 : Nat) (q_21 : Nat) (q_27 : Nat) (q_31 : Nat) (q_32 : Nat) (q_61 : Nat) (q_90 : Nat) (q_92 : Nat) (q_93 : Nat) (q_97 : Nat) (q_103 : Nat) (q_113 : Nat) (q_116 : Nat) (q_118 : Nat) (H : Heap) (locs : List Loc) (ls : Array Slot) (hK : va_K (dC, dI) vwCl [(cI, .int), (cZ, .boolean), (cO, .object "java/lang/Object"), (cA_117, .long), (cA_119, .double)] s) (hP : va_P (dC, dI) vwCl [(q_1, .inr (12, [.ref q_3, .ref q_32, .ref q_61])), (q_3, .inr (4, [.ref q_4, .ref q_10, .ref q_18, .ref q_21, .ref q_27, .ref q_31, .int 0, .int 0, .long 0])), (q_31, .inr (11, [.int (-1), .int 0, .int 0, .int 0, .int 0, .int 0])), (q_90, .inr (16, [.ref q_97, .ref q_103, .ref q_113, .ref q_92, .ref q_93, .int 0, .int 0, .int 0, .int 105, .int 0, .int 0, .int 0, .int (-1), .int 0, .int 0, .int 0, .int 0, .int 0, .int 0, .int 0, .long 0, .int 0, .int 0])), (q_116, .inl (cA_117, 1, .inr (.inl cnL)))] H) (hD : va_D (fun q => s.heap.size ≤ q) [(q_1, .inr (12, [.ref q_3, .ref q_32, .ref q_61])), (q_3, .inr (4, [.ref q_4, .ref q_10, .ref q_18, .ref q_21, .ref q_27, .ref q_31, .int 0, .int 0, .long 0])), (q_31, .inr (11, [.int (-1), .int 0, .int 0, .int 0, .int 0, .int 0])), (q_90, .inr (16, [.ref q_97, .ref q_103, .ref q_113, .ref q_92, .ref q_93, .int 0, .int 0, .int 0, .int 105, .int 0, .int 0, .int 0, .int (-1), .int 0, .int 0, .int 0, .int 0, .int 0, .int 0, .int 0, .long 0, .int 0, .int 0])), (q_116, .inl (cA_117, 1, .inr (.inl cnL)))]) (hS : va_S (fun q => s.heap.size ≤ q) s.heap H locs) (hl : lv_has ls 9 [(5, .int 0), (4, .ref q_118), (3, .ref q_116), (2, .ref q_90), (1, .ref q_1), (0, .ref b)]) : W p l e room_1 s m #[Value.ref b] below meth c H locs 115 1854 (lw_Z below #[Value.ref b] s) (F0 m 28 ls []) := by
  have hN := hG.1
  obtain ⟨A, hAe⟩ : ∃ A : Nat → Prop, A = (fun q => s.heap.size ≤ q) := ⟨_, rfl⟩
  rw [← hAe] at hG hD hS
  have hA : ∀ q : Nat, s.heap.size ≤ q → A q := fun q h => by rw [hAe]; exact h
  have hbA : ¬ A b := by rw [hAe]; exact Nat.not_le.mpr hbl
  refine lv_iload hx hb dL_law_28 (lv_at hl 0 rfl) ?_
  refine lv_aload_n hx hb dL_law_30 rfl (lv_at hl 5 rfl) ?_
  refine va_slen hx hb hX hbl hbA hS dL_law_31 ?_
  refine lt_ci (y := 6) rfl ?_
  refine lv_bipush (v := 6) hx hb dL_law_32 (by decide) ?_
  refine lv_isub hx hb dL_law_34 ?_
  refine lt_ci (y := 0) (by first | rfl | decide) ?_
  refine lv_icmp_gt (tgt := 1982) hx hb dL_law_35 (by decide) (fun c => absurd c (by decide)) (fun _ => ?_)
  refine lv_aload_n hx hb dL_law_38 rfl (lv_at hl 5 rfl) ?_
  refine lv_iload hx hb dL_law_39 (lv_at hl 0 rfl) ?_
  refine va_sld hx hb hX hbl hbA hS (by unfold vp_in; decide) dL_law_41 ?_
  refine lt_ci (y := (xs 0)) rfl ?_
  refine lv_bipush (v := 63) hx hb dL_law_42 (by decide) ?_
  refine lv_iand hx hb dL_law_44 ?_
  refine lt_ci (y := 30) hk ?_
  refine lv_tableIn (off := 1729) (tgt := 1774) hx hb dL_law_45 (by decide) (by decide) (by decide) (by decide) ?_
  refine lv_aload_n hx hb dL_law_1774 rfl (lv_at hl 4 rfl) ?_
  refine lv_aload_n hx hb dL_law_1775 rfl (lv_at hl 2 rfl) ?_
  have hPc := hP.sub (ws' := [(q_1, .inr (12, [.ref q_3, .ref q_32, .ref q_61])), (q_3, .inr (4, [.ref q_4, .ref q_10, .ref q_18, .ref q_21, .ref q_27, .ref q_31, .int 0, .int 0, .long 0])), (q_31, .inr (11, [.int (-1), .int 0, .int 0, .int 0, .int 0, .int 0])), (q_116, .inl (cA_117, 1, .inr (.inl cnL)))]) [0, 1, 2, 4] rfl
  have hDc := hD.sub (ws' := [(q_1, .inr (12, [.ref q_3, .ref q_32, .ref q_61])), (q_3, .inr (4, [.ref q_4, .ref q_10, .ref q_18, .ref q_21, .ref q_27, .ref q_31, .int 0, .int 0, .long 0])), (q_31, .inr (11, [.int (-1), .int 0, .int 0, .int 0, .int 0, .int 0])), (q_116, .inl (cA_117, 1, .inr (.inl cnL)))]) [0, 1, 2, 4] (by decide) rfl
  have hKc := hK.sub (tys' := [(cI, .int), (cA_117, .long)]) [0, 3] rfl
  have hFc := va_free (wc := [(q_1, .inr (12, [.ref q_3, .ref q_32, .ref q_61])), (q_3, .inr (4, [.ref q_4, .ref q_10, .ref q_18, .ref q_21, .ref q_27, .ref q_31, .int 0, .int 0, .long 0])), (q_31, .inr (11, [.int (-1), .int 0, .int 0, .int 0, .int 0, .int 0])), (q_116, .inl (cA_117, 1, .inr (.inl cnL)))]) hD hS hA [0, 1, 2, 4] rfl
  refine vx_calli (vx_runSX (As := [.ref q_1, .ref q_116]) (rest := []) ⟨hx, hb, hml, hown, hts⟩ (c_L_lastReset l hl9 dC dI g q_1 q_32 q_61 q_3 q_4 q_10 q_18 q_21 q_27 q_31 cI cnL q_116 cA_117 H.size) (vx_cwSW 2 hts gL_law_L_lastReset rfl rfl rfl (by decide +kernel) ⟨Nat.le_of_ble_eq_true rfl, Nat.le_of_ble_eq_true rfl⟩) ⟨wIn_blind, wIn_at hPc hKc hDc hG hS hFc⟩ rfl rfl hl.1 rfl (lv_room (Nat.le_of_ble_eq_true rfl)) dL_law_1776 ⟨Nat.le_of_ble_eq_true rfl, Nat.le_of_ble_eq_true rfl⟩) hS (fun q _ h => hFc q h) hFc (fun q _ h => hFc q h) (fun E9 ce9 q9 u9 t H1 locs ht hvm hx9 hB9 hz1 hk1 hS hce hcv hcl => False.elim hx9) (fun r_120 u t H1 locs ht hvm hw hB hz1 hk1 hS => ?_)
  obtain ⟨v_121, rfl⟩ : ∃ z, z = u := ⟨_, rfl⟩
  obtain ⟨hP1, hK1, hD1⟩ := hB
  rw [ht] at hP1
  obtain ⟨hP, hD⟩ := va_join (wr := [(q_90, .inr (16, [.ref q_97, .ref q_103, .ref q_113, .ref q_92, .ref q_93, .int 0, .int 0, .int 0, .int 105, .int 0, .int 0, .int 0, .int (-1), .int 0, .int 0, .int 0, .int 0, .int 0, .int 0, .int 0, .long 0, .int 0, .int 0]))]) (w1 := [(q_116, .inl (cA_117, 1, .inr (.inl v_121)))]) hP hD [0, 1, 2, 4] [3] rfl rfl (by decide) (by decide) hk1 hFc hP1 hD1
  generalize H1 = H at hP hS ⊢
  have hP : va_P (dC, dI) vwCl [(q_90, .inr (16, [.ref q_97, .ref q_103, .ref q_113, .ref q_92, .ref q_93, .int 0, .int 0, .int 0, .int 105, .int 0, .int 0, .int 0, .int (-1), .int 0, .int 0, .int 0, .int 0, .int 0, .int 0, .int 0, .long 0, .int 0, .int 0])), (q_116, .inl (cA_117, 1, .inr (.inl v_121)))] H := hP
  have hD : va_D A [(q_90, .inr (16, [.ref q_97, .ref q_103, .ref q_113, .ref q_92, .ref q_93, .int 0, .int 0, .int 0, .int 105, .int 0, .int 0, .int 0, .int (-1), .int 0, .int 0, .int 0, .int 0, .int 0, .int 0, .int 0, .long 0, .int 0, .int 0])), (q_116, .inl (cA_117, 1, .inr (.inl v_121)))] := hD
  refine lt_ci (y := 1) (hw.trans ((kc_sp_X8_lastReset))) ?_
  refine W.widen (k := 116) (n := 1860) (Nat.le_of_ble_eq_true rfl) (Nat.le_of_ble_eq_true rfl) ?_
  refine lv_istore (lv' := [(6, .int 1), (5, .int 0), (4, .ref q_118), (3, .ref q_116), (2, .ref q_90), (1, .ref q_1), (0, .ref b)]) hx hb dL_law_1779 hl (by decide) rfl (fun ls hl => ?_)
  refine lv_aload_n hx hb dL_law_1781 rfl (lv_at hl 4 rfl) ?_
  have hPc := hP.sub (ws' := [(q_90, .inr (16, [.ref q_97, .ref q_103, .ref q_113, .ref q_92, .ref q_93, .int 0, .int 0, .int 0, .int 105, .int 0, .int 0, .int 0, .int (-1), .int 0, .int 0, .int 0, .int 0, .int 0, .int 0, .int 0, .long 0, .int 0, .int 0]))]) [0] rfl
  have hDc := hD.sub (ws' := [(q_90, .inr (16, [.ref q_97, .ref q_103, .ref q_113, .ref q_92, .ref q_93, .int 0, .int 0, .int 0, .int 105, .int 0, .int 0, .int 0, .int (-1), .int 0, .int 0, .int 0, .int 0, .int 0, .int 0, .int 0, .long 0, .int 0, .int 0]))]) [0] (by decide) rfl
  have hKc := hK.sub (tys' := [(cI, .int), (cZ, .boolean), (cO, .object "java/lang/Object")]) [0, 1, 2] rfl
  have hFc := va_free (wc := [(q_90, .inr (16, [.ref q_97, .ref q_103, .ref q_113, .ref q_92, .ref q_93, .int 0, .int 0, .int 0, .int 105, .int 0, .int 0, .int 0, .int (-1), .int 0, .int 0, .int 0, .int 0, .int 0, .int 0, .int 0, .long 0, .int 0, .int 0]))]) hD hS hA [0] rfl
  refine va_calli (va_runV (As := []) (rest := []) ⟨hx, hb, hml, hown, hts⟩ (c_X12_lastReset l dC dI g q_90 q_92 q_93 q_97 q_103 q_113 cI cZ cO 0 H.size) (cwV 0 hts gL_law_X12_lastReset rfl rfl rfl (by decide +kernel) ⟨Nat.le_of_ble_eq_true rfl, Nat.le_of_ble_eq_true rfl⟩) ⟨wIn_blind, va_recv hK hP (ci := 16) (q0 := 0) rfl rfl, wIn_at hPc hKc hDc hG hS hFc⟩ rfl rfl hl.1 rfl (lv_room (Nat.le_of_ble_eq_true rfl)) dL_law_1782 ⟨Nat.le_of_ble_eq_true rfl, Nat.le_of_ble_eq_true rfl⟩) hS (fun q _ h => hFc q h) hFc (fun r_122 u t H1 locs ht hvm hw hB hz1 hk1 hS => ?_)
  obtain ⟨v_123, rfl⟩ : ∃ z, z = u := ⟨_, rfl⟩
  have hm9 : v_123 = mp_X12_lastReset := hw
  have hm9 := hm9.trans ((kc_mp_X12_lastReset))
  subst hm9
  obtain ⟨hP1, hK1, hD1⟩ := hB
  rw [ht] at hP1
  obtain ⟨hP, hD⟩ := va_join (wr := [(q_116, .inl (cA_117, 1, .inr (.inl v_121)))]) (w1 := [(q_90, .inr (16, [.ref q_97, .ref q_103, .ref q_113, .ref q_92, .ref q_93, .int 0, .int 0, .int 0, .int 105, .int 0, .int 0, .int 0, .int (-1), .int 0, .int 0, .int 0, .int 0, .int 0, .int 0, .int 0, .long 0, .int 0, .int 1]))]) hP hD [0] [1] rfl rfl (by decide) (by decide) hk1 hFc hP1 hD1
  generalize H1 = H at hP hS ⊢
  have hP : va_P (dC, dI) vwCl [(q_116, .inl (cA_117, 1, .inr (.inl v_121))), (q_90, .inr (16, [.ref q_97, .ref q_103, .ref q_113, .ref q_92, .ref q_93, .int 0, .int 0, .int 0, .int 105, .int 0, .int 0, .int 0, .int (-1), .int 0, .int 0, .int 0, .int 0, .int 0, .int 0, .int 0, .long 0, .int 0, .int 1]))] H := hP
  have hD : va_D A [(q_116, .inl (cA_117, 1, .inr (.inl v_121))), (q_90, .inr (16, [.ref q_97, .ref q_103, .ref q_113, .ref q_92, .ref q_93, .int 0, .int 0, .int 0, .int 105, .int 0, .int 0, .int 0, .int (-1), .int 0, .int 0, .int 0, .int 0, .int 0, .int 0, .int 0, .long 0, .int 0, .int 1]))] := hD
  refine lv_istore (lv' := [(7, .int r_122), (6, .int 1), (5, .int 0), (4, .ref q_118), (3, .ref q_116), (2, .ref q_90), (1, .ref q_1), (0, .ref b)]) hx hb dL_law_1785 hl (by decide) rfl (fun ls hl => ?_)
  refine lv_aload_n hx hb dL_law_1787 rfl (lv_at hl 5 rfl) ?_
  have hPc := hP.sub (ws' := [(q_90, .inr (16, [.ref q_97, .ref q_103, .ref q_113, .ref q_92, .ref q_93, .int 0, .int 0, .int 0, .int 105, .int 0, .int 0, .int 0, .int (-1), .int 0, .int 0, .int 0, .int 0, .int 0, .int 0, .int 0, .long 0, .int 0, .int 1]))]) [1] rfl
  have hDc := hD.sub (ws' := [(q_90, .inr (16, [.ref q_97, .ref q_103, .ref q_113, .ref q_92, .ref q_93, .int 0, .int 0, .int 0, .int 105, .int 0, .int 0, .int 0, .int (-1), .int 0, .int 0, .int 0, .int 0, .int 0, .int 0, .int 0, .long 0, .int 0, .int 1]))]) [1] (by decide) rfl
  have hKc := hK.sub (tys' := [(cI, .int), (cZ, .boolean), (cO, .object "java/lang/Object")]) [0, 1, 2] rfl
  have hFc := va_free (wc := [(q_90, .inr (16, [.ref q_97, .ref q_103, .ref q_113, .ref q_92, .ref q_93, .int 0, .int 0, .int 0, .int 105, .int 0, .int 0, .int 0, .int (-1), .int 0, .int 0, .int 0, .int 0, .int 0, .int 0, .int 0, .long 0, .int 0, .int 1]))]) hD hS hA [1] rfl
  refine va_calli (va_runV (As := []) (rest := []) ⟨hx, hb, hml, hown, hts⟩ (c_X12_thrown l dC dI g q_90 (.ref q_97) (.ref q_103) (.ref q_113) (.ref q_92) (.ref q_93) (.int 0) (.int 0) (.int 0) (.int 105) (.int 0) (.int 0) (.int 0) (.int (-1)) (.int 0) (.int 0) (.int 0) (.int 0) (.int 0) (.int 0) (.int 0) (.long 0) (.int 0) cI cZ cO 1 H.size) (cwV 0 hts gL_law_X12_thrown rfl rfl rfl (by decide +kernel) ⟨Nat.le_of_ble_eq_true rfl, Nat.le_of_ble_eq_true rfl⟩) ⟨wIn_blind, va_recv hK hP (ci := 16) (q0 := 1) rfl rfl, wIn_at hPc hKc hDc hG hS hFc⟩ rfl rfl hl.1 rfl (lv_room (Nat.le_of_ble_eq_true rfl)) dL_law_1788 ⟨Nat.le_of_ble_eq_true rfl, Nat.le_of_ble_eq_true rfl⟩) hS (fun q _ h => hFc q h) hFc (fun r_125 u t H1 locs ht hvm hw hB hz1 hk1 hS => ?_)
  obtain ⟨hP1, hK1, hD1⟩ := hB
  rw [ht] at hP1
  obtain ⟨hP, hD⟩ := va_join (wr := [(q_116, .inl (cA_117, 1, .inr (.inl v_121)))]) (w1 := [(q_90, .inr (16, [.ref q_97, .ref q_103, .ref q_113, .ref q_92, .ref q_93, .int 0, .int 0, .int 0, .int 105, .int 0, .int 0, .int 0, .int (-1), .int 0, .int 0, .int 0, .int 0, .int 0, .int 0, .int 0, .long 0, .int 0, .int 1]))]) hP hD [1] [0] rfl rfl (by decide) (by decide) hk1 hFc hP1 hD1
  generalize H1 = H at hP hS ⊢
  have hP : va_P (dC, dI) vwCl [(q_116, .inl (cA_117, 1, .inr (.inl v_121))), (q_90, .inr (16, [.ref q_97, .ref q_103, .ref q_113, .ref q_92, .ref q_93, .int 0, .int 0, .int 0, .int 105, .int 0, .int 0, .int 0, .int (-1), .int 0, .int 0, .int 0, .int 0, .int 0, .int 0, .int 0, .long 0, .int 0, .int 1]))] H := hP
  have hD : va_D A [(q_116, .inl (cA_117, 1, .inr (.inl v_121))), (q_90, .inr (16, [.ref q_97, .ref q_103, .ref q_113, .ref q_92, .ref q_93, .int 0, .int 0, .int 0, .int 105, .int 0, .int 0, .int 0, .int (-1), .int 0, .int 0, .int 0, .int 0, .int 0, .int 0, .int 0, .long 0, .int 0, .int 1]))] := hD
  refine lt_ci (y := 1) hw ?_
  refine lv_iload hx hb dL_law_1791 (lv_at hl 1 rfl) ?_
  refine lv_icmp_eq (tgt := 1798) hx hb dL_law_1793 (by decide) (fun _ => ?_) (fun c => absurd (by decide) c)
  refine lv_iload hx hb dL_law_1798 (lv_at hl 1 rfl) ?_
  refine lv_if_ne (tgt := 1815) hx hb dL_law_1800 (by decide) (fun _ => ?_) (fun c => absurd c (by decide))
  refine lv_goto (tgt := 1976) hx hb dL_law_1815 (by decide) ?_
  refine lv_iinc (v := 6) (lv' := [(5, .int 6), (7, .int r_122), (6, .int 1), (4, .ref q_118), (3, .ref q_116), (2, .ref q_90), (1, .ref q_1), (0, .ref b)]) hx hb dL_law_1976 hl (k := 2) rfl (by first | rfl | decide) (by decide) rfl (fun ls hl => ?_)
  refine lv_goto (tgt := 28) hx hb dL_law_1979 (by decide) ?_
  refine lv_iload hx hb dL_law_28 (lv_at hl 0 rfl) ?_
  refine lv_aload_n hx hb dL_law_30 rfl (lv_at hl 7 rfl) ?_
  refine va_slen hx hb hX hbl hbA hS dL_law_31 ?_
  refine lt_ci (y := 6) rfl ?_
  refine lv_bipush (v := 6) hx hb dL_law_32 (by decide) ?_
  refine lv_isub hx hb dL_law_34 ?_
  refine lt_ci (y := 0) (by first | rfl | decide) ?_
  refine lv_icmp_gt (tgt := 1982) hx hb dL_law_35 (by decide) (fun _ => ?_) (fun c => absurd (by decide) c)
  refine lv_iconst (v := 1) hx hb dL_law_1982 (by decide) ?_
  refine W.widen (k := 735603) (n := 6895256) (Nat.le_of_ble_eq_true rfl) (Nat.le_of_ble_eq_true rfl) ?_
  refine va_forget (fun q hq => by have h9 := hS.2.2 q hq; rw [hAe] at h9; exact h9) ?_
  exact W.base (lw_ret (Drawn.sameBut.refl s.drawn lw_cs) hx hb hr hlocks dL_law_1983)
set_option maxHeartbeats 8000000 in
set_option maxRecDepth 100000 in
theorem c_L_law_31 {p : Program} {e : Env} {s : State} {m : MethodId} {below : List Frame} {meth : Method} {c : Code} (l : Launch) (hl9 : l.stackTraces = false) (dC : Nat → ClassId) (dI : Nat → Nat → Nat) (g : Nat × Nat × Nat) (b : Nat) (xs : Nat → Int32) (cI cZ cO : ClassId) (hx : p.tables.exec = Jvm.exec) (hb : c.code = cL_law) (hr : meth.sig.returnType = ret) (hml : c.maxLocals = 9) (hown : s.vm.findClass RL = some m.cls) (hts : ∀ w ∈ wsL_law, w.before #[Value.ref b] s = true) (hX : va_X b 6 xs s s.heap) (hbl : b < s.heap.size) (hlocks : meth.locks = false) (hG : gx g (fun q => s.heap.size ≤ q) s s.heap) (hk : (xs 0 &&& 63) = 31) (cA_117 : ClassId) (cA_119 : ClassId) (q_1 : Nat) (q_3 : Nat) (q_4 : Nat) (q_10 : Nat) (q_18 : Nat) (q_21 : Nat) (q_27 : Nat) (q_31 : Nat) (q_32 : Nat) (q_61 : Nat) (q_90 : Nat) (q_92 : Nat) (q_93 : Nat) (q_97 : Nat) (q_103 : Nat) (q_113 : Nat) (q_116 : Nat) (q_118 : Nat) (H : Heap) (locs : List Loc) (ls : Array Slot) (hK : va_K (dC, dI) vwCl [(cI, .int), (cZ, .boolean), (cO, .object "java/lang/Object"), (cA_117, .long), (cA_119, .double)] s) (hP : va_P (dC, dI) vwCl [(q_1, .inr (12, [.ref q_3, .ref q_32, .ref q_61])), (q_3, .inr (4, [.ref q_4, .ref q_10, .ref q_18, .ref q_21, .ref q_27, .ref q_31, .int 0, .int 0, .long 0])), (q_90, .inr (16, [.ref q_97, .ref q_103, .ref q_113, .ref q_92, .ref q_93, .int 0, .int 0, .int 0, .int 105, .int 0, .int 0, .int 0, .int (-1), .int 0, .int 0, .int 0, .int 0, .int 0, .int 0, .int 0, .long 0, .int 0, .int 0]))] H) (hD : va_D (fun q => s.heap.size ≤ q) [(q_1, .inr (12, [.ref q_3, .ref q_32, .ref q_61])), (q_3, .inr (4, [.ref q_4, .ref q_10, .ref q_18, .ref q_21, .ref q_27, .ref q_31, .int 0, .int 0, .long 0])), (q_90, .inr (16, [.ref q_97, .ref q_103, .ref q_113, .ref q_92, .ref q_93, .int 0, .int 0, .int 0, .int 105, .int 0, .int 0, .int 0, .int (-1), .int 0, .int 0, .int 0, .int 0, .int 0, .int 0, .int 0, .long 0, .int 0, .int 0]))]) (hS : va_S (fun q => s.heap.size ≤ q) s.heap H locs) (hl : lv_has ls 9 [(5, .int 0), (4, .ref q_118), (3, .ref q_116), (2, .ref q_90), (1, .ref q_1), (0, .ref b)]) : W p l e room_1 s m #[Value.ref b] below meth c H locs 115 1854 (lw_Z below #[Value.ref b] s) (F0 m 28 ls []) := by
  have hN := hG.1
  obtain ⟨A, hAe⟩ : ∃ A : Nat → Prop, A = (fun q => s.heap.size ≤ q) := ⟨_, rfl⟩
  rw [← hAe] at hG hD hS
  have hA : ∀ q : Nat, s.heap.size ≤ q → A q := fun q h => by rw [hAe]; exact h
  have hbA : ¬ A b := by rw [hAe]; exact Nat.not_le.mpr hbl
  refine lv_iload hx hb dL_law_28 (lv_at hl 0 rfl) ?_
  refine lv_aload_n hx hb dL_law_30 rfl (lv_at hl 5 rfl) ?_
  refine va_slen hx hb hX hbl hbA hS dL_law_31 ?_
  refine lt_ci (y := 6) rfl ?_
  refine lv_bipush (v := 6) hx hb dL_law_32 (by decide) ?_
  refine lv_isub hx hb dL_law_34 ?_
  refine lt_ci (y := 0) (by first | rfl | decide) ?_
  refine lv_icmp_gt (tgt := 1982) hx hb dL_law_35 (by decide) (fun c => absurd c (by decide)) (fun _ => ?_)
  refine lv_aload_n hx hb dL_law_38 rfl (lv_at hl 5 rfl) ?_
  refine lv_iload hx hb dL_law_39 (lv_at hl 0 rfl) ?_
  refine va_sld hx hb hX hbl hbA hS (by unfold vp_in; decide) dL_law_41 ?_
  refine lt_ci (y := (xs 0)) rfl ?_
  refine lv_bipush (v := 63) hx hb dL_law_42 (by decide) ?_
  refine lv_iand hx hb dL_law_44 ?_
  refine lt_ci (y := 31) hk ?_
  refine lv_tableIn (off := 1773) (tgt := 1818) hx hb dL_law_45 (by decide) (by decide) (by decide) (by decide) ?_
  refine lv_aload_n hx hb dL_law_1818 rfl (lv_at hl 4 rfl) ?_
  have hPc := hP.sub (ws' := [(q_1, .inr (12, [.ref q_3, .ref q_32, .ref q_61])), (q_3, .inr (4, [.ref q_4, .ref q_10, .ref q_18, .ref q_21, .ref q_27, .ref q_31, .int 0, .int 0, .long 0]))]) [0, 1] rfl
  have hDc := hD.sub (ws' := [(q_1, .inr (12, [.ref q_3, .ref q_32, .ref q_61])), (q_3, .inr (4, [.ref q_4, .ref q_10, .ref q_18, .ref q_21, .ref q_27, .ref q_31, .int 0, .int 0, .long 0]))]) [0, 1] (by decide) rfl
  have hKc := hK.sub (tys' := [(cI, .int)]) [0] rfl
  have hFc := va_free (wc := [(q_1, .inr (12, [.ref q_3, .ref q_32, .ref q_61])), (q_3, .inr (4, [.ref q_4, .ref q_10, .ref q_18, .ref q_21, .ref q_27, .ref q_31, .int 0, .int 0, .long 0]))]) hD hS hA [0, 1] rfl
  refine va_calll (va_runV (As := []) (rest := []) ⟨hx, hb, hml, hown, hts⟩ (c_X8_energy l dC dI g q_1 q_32 q_61 q_3 q_4 q_10 q_18 q_21 q_27 q_31 cI H.size) (cwV 0 hts gL_law_X8_energy rfl rfl rfl (by decide +kernel) ⟨Nat.le_of_ble_eq_true rfl, Nat.le_of_ble_eq_true rfl⟩) ⟨wIn_blind, va_recv hK hP (ci := 12) (q0 := 0) rfl rfl, wIn_at hPc hKc hDc hG hS hFc⟩ rfl rfl hl.1 rfl (lv_room (Nat.le_of_ble_eq_true rfl)) dL_law_1819 ⟨Nat.le_of_ble_eq_true rfl, Nat.le_of_ble_eq_true rfl⟩) hS (fun q _ h => hFc q h) hFc (fun r_120 u t H1 locs ht hvm hw hB hz1 hk1 hS => ?_)
  obtain ⟨hP1, hK1, hD1⟩ := hB
  rw [ht] at hP1
  obtain ⟨hP, hD⟩ := va_join (wr := [(q_90, .inr (16, [.ref q_97, .ref q_103, .ref q_113, .ref q_92, .ref q_93, .int 0, .int 0, .int 0, .int 105, .int 0, .int 0, .int 0, .int (-1), .int 0, .int 0, .int 0, .int 0, .int 0, .int 0, .int 0, .long 0, .int 0, .int 0]))]) (w1 := []) hP hD [0, 1] [2] rfl rfl (by decide) (by decide) hk1 hFc hP1 hD1
  generalize H1 = H at hP hS ⊢
  have hP : va_P (dC, dI) vwCl [(q_90, .inr (16, [.ref q_97, .ref q_103, .ref q_113, .ref q_92, .ref q_93, .int 0, .int 0, .int 0, .int 105, .int 0, .int 0, .int 0, .int (-1), .int 0, .int 0, .int 0, .int 0, .int 0, .int 0, .int 0, .long 0, .int 0, .int 0]))] H := hP
  have hD : va_D A [(q_90, .inr (16, [.ref q_97, .ref q_103, .ref q_113, .ref q_92, .ref q_93, .int 0, .int 0, .int 0, .int 105, .int 0, .int 0, .int 0, .int (-1), .int 0, .int 0, .int 0, .int 0, .int 0, .int 0, .int 0, .long 0, .int 0, .int 0]))] := hD
  refine lt_cl (y := 0) hw ?_
  refine lv_aload_n hx hb dL_law_1822 rfl (lv_at hl 3 rfl) ?_
  have hPc := hP.sub (ws' := [(q_90, .inr (16, [.ref q_97, .ref q_103, .ref q_113, .ref q_92, .ref q_93, .int 0, .int 0, .int 0, .int 105, .int 0, .int 0, .int 0, .int (-1), .int 0, .int 0, .int 0, .int 0, .int 0, .int 0, .int 0, .long 0, .int 0, .int 0]))]) [0] rfl
  have hDc := hD.sub (ws' := [(q_90, .inr (16, [.ref q_97, .ref q_103, .ref q_113, .ref q_92, .ref q_93, .int 0, .int 0, .int 0, .int 105, .int 0, .int 0, .int 0, .int (-1), .int 0, .int 0, .int 0, .int 0, .int 0, .int 0, .int 0, .long 0, .int 0, .int 0]))]) [0] (by decide) rfl
  have hKc := hK.sub (tys' := [(cI, .int), (cZ, .boolean), (cO, .object "java/lang/Object")]) [0, 1, 2] rfl
  have hFc := va_free (wc := [(q_90, .inr (16, [.ref q_97, .ref q_103, .ref q_113, .ref q_92, .ref q_93, .int 0, .int 0, .int 0, .int 105, .int 0, .int 0, .int 0, .int (-1), .int 0, .int 0, .int 0, .int 0, .int 0, .int 0, .int 0, .long 0, .int 0, .int 0]))]) hD hS hA [0] rfl
  refine va_calll (va_runV (As := []) (rest := [.long 0]) ⟨hx, hb, hml, hown, hts⟩ (c_X12_energy l dC dI g q_90 q_92 q_93 q_97 q_103 q_113 cI cZ cO 0 H.size) (cwV 0 hts gL_law_X12_energy rfl rfl rfl (by decide +kernel) ⟨Nat.le_of_ble_eq_true rfl, Nat.le_of_ble_eq_true rfl⟩) ⟨wIn_blind, va_recv hK hP (ci := 16) (q0 := 0) rfl rfl, wIn_at hPc hKc hDc hG hS hFc⟩ rfl rfl hl.1 rfl (lv_room (Nat.le_of_ble_eq_true rfl)) dL_law_1823 ⟨Nat.le_of_ble_eq_true rfl, Nat.le_of_ble_eq_true rfl⟩) hS (fun q _ h => hFc q h) hFc (fun r_121 u t H1 locs ht hvm hw hB hz1 hk1 hS => ?_)
  obtain ⟨v_122, rfl⟩ : ∃ z, z = u := ⟨_, rfl⟩
  have hw : v_122 = mp_X12_energy ∧ (mp_X12_energy = 0 → r_121 = 0) := hw
  obtain ⟨hm9, hv_123⟩ := hw
  have hm9 := hm9.trans ((kc_mp_X12_energy))
  subst hm9
  obtain ⟨hP1, hK1, hD1⟩ := hB
  rw [ht] at hP1
  obtain ⟨hP, hD⟩ := va_join (wr := []) (w1 := [(q_90, .inr (16, [.ref q_97, .ref q_103, .ref q_113, .ref q_92, .ref q_93, .int 0, .int 0, .int 0, .int 105, .int 0, .int 0, .int 0, .int (-1), .int 0, .int 0, .int 0, .int 0, .int 0, .int 0, .int 0, .long 0, .int 0, .int 0]))]) hP hD [0] [] rfl rfl (by decide) (by decide) hk1 hFc hP1 hD1
  generalize H1 = H at hP hS ⊢
  have hP : va_P (dC, dI) vwCl [(q_90, .inr (16, [.ref q_97, .ref q_103, .ref q_113, .ref q_92, .ref q_93, .int 0, .int 0, .int 0, .int 105, .int 0, .int 0, .int 0, .int (-1), .int 0, .int 0, .int 0, .int 0, .int 0, .int 0, .int 0, .long 0, .int 0, .int 0]))] H := hP
  have hD : va_D A [(q_90, .inr (16, [.ref q_97, .ref q_103, .ref q_113, .ref q_92, .ref q_93, .int 0, .int 0, .int 0, .int 105, .int 0, .int 0, .int 0, .int (-1), .int 0, .int 0, .int 0, .int 0, .int 0, .int 0, .int 0, .long 0, .int 0, .int 0]))] := hD
  refine lt_cl (y := 0) (hv_123 (kc_mp_X12_energy)) ?_
  refine W.lcmp hx hb dL_law_1826 ?_
  refine lt_ci (y := 0) (by first | rfl | decide) ?_
  refine lv_if_eq (tgt := 1976) hx hb dL_law_1827 (by decide) (fun _ => ?_) (fun c => absurd (by decide) c)
  refine lv_iinc (v := 6) (lv' := [(5, .int 6), (4, .ref q_118), (3, .ref q_116), (2, .ref q_90), (1, .ref q_1), (0, .ref b)]) hx hb dL_law_1976 hl (k := 0) rfl (by first | rfl | decide) (by decide) rfl (fun ls hl => ?_)
  refine lv_goto (tgt := 28) hx hb dL_law_1979 (by decide) ?_
  refine lv_iload hx hb dL_law_28 (lv_at hl 0 rfl) ?_
  refine lv_aload_n hx hb dL_law_30 rfl (lv_at hl 5 rfl) ?_
  refine va_slen hx hb hX hbl hbA hS dL_law_31 ?_
  refine lt_ci (y := 6) rfl ?_
  refine lv_bipush (v := 6) hx hb dL_law_32 (by decide) ?_
  refine lv_isub hx hb dL_law_34 ?_
  refine lt_ci (y := 0) (by first | rfl | decide) ?_
  refine lv_icmp_gt (tgt := 1982) hx hb dL_law_35 (by decide) (fun _ => ?_) (fun c => absurd (by decide) c)
  refine lv_iconst (v := 1) hx hb dL_law_1982 (by decide) ?_
  refine W.widen (k := 735603) (n := 6895256) (Nat.le_of_ble_eq_true rfl) (Nat.le_of_ble_eq_true rfl) ?_
  refine va_forget (fun q hq => by have h9 := hS.2.2 q hq; rw [hAe] at h9; exact h9) ?_
  exact W.base (lw_ret (Drawn.sameBut.refl s.drawn lw_cs) hx hb hr hlocks dL_law_1983)
set_option maxHeartbeats 8000000 in
set_option maxRecDepth 100000 in
theorem c_L_law_32 {p : Program} {e : Env} {s : State} {m : MethodId} {below : List Frame} {meth : Method} {c : Code} (l : Launch) (hl9 : l.stackTraces = false) (dC : Nat → ClassId) (dI : Nat → Nat → Nat) (g : Nat × Nat × Nat) (b : Nat) (xs : Nat → Int32) (cI cZ cO : ClassId) (hx : p.tables.exec = Jvm.exec) (hb : c.code = cL_law) (hr : meth.sig.returnType = ret) (hml : c.maxLocals = 9) (hown : s.vm.findClass RL = some m.cls) (hts : ∀ w ∈ wsL_law, w.before #[Value.ref b] s = true) (hX : va_X b 6 xs s s.heap) (hbl : b < s.heap.size) (hlocks : meth.locks = false) (hG : gx g (fun q => s.heap.size ≤ q) s s.heap) (hk : (xs 0 &&& 63) = 32) (cA_117 : ClassId) (cA_119 : ClassId) (q_1 : Nat) (q_3 : Nat) (q_4 : Nat) (q_10 : Nat) (q_18 : Nat) (q_21 : Nat) (q_27 : Nat) (q_31 : Nat) (q_32 : Nat) (q_61 : Nat) (q_90 : Nat) (q_92 : Nat) (q_93 : Nat) (q_97 : Nat) (q_103 : Nat) (q_113 : Nat) (q_116 : Nat) (q_118 : Nat) (H : Heap) (locs : List Loc) (ls : Array Slot) (hK : va_K (dC, dI) vwCl [(cI, .int), (cZ, .boolean), (cO, .object "java/lang/Object"), (cA_117, .long), (cA_119, .double)] s) (hP : va_P (dC, dI) vwCl [(q_1, .inr (12, [.ref q_3, .ref q_32, .ref q_61])), (q_3, .inr (4, [.ref q_4, .ref q_10, .ref q_18, .ref q_21, .ref q_27, .ref q_31, .int 0, .int 0, .long 0])), (q_90, .inr (16, [.ref q_97, .ref q_103, .ref q_113, .ref q_92, .ref q_93, .int 0, .int 0, .int 0, .int 105, .int 0, .int 0, .int 0, .int (-1), .int 0, .int 0, .int 0, .int 0, .int 0, .int 0, .int 0, .long 0, .int 0, .int 0])), (q_118, .inl (cA_119, 1, .inr (.inr (.inr (.inl cnD)))))] H) (hD : va_D (fun q => s.heap.size ≤ q) [(q_1, .inr (12, [.ref q_3, .ref q_32, .ref q_61])), (q_3, .inr (4, [.ref q_4, .ref q_10, .ref q_18, .ref q_21, .ref q_27, .ref q_31, .int 0, .int 0, .long 0])), (q_90, .inr (16, [.ref q_97, .ref q_103, .ref q_113, .ref q_92, .ref q_93, .int 0, .int 0, .int 0, .int 105, .int 0, .int 0, .int 0, .int (-1), .int 0, .int 0, .int 0, .int 0, .int 0, .int 0, .int 0, .long 0, .int 0, .int 0])), (q_118, .inl (cA_119, 1, .inr (.inr (.inr (.inl cnD)))))]) (hS : va_S (fun q => s.heap.size ≤ q) s.heap H locs) (hl : lv_has ls 9 [(5, .int 0), (4, .ref q_118), (3, .ref q_116), (2, .ref q_90), (1, .ref q_1), (0, .ref b)]) : W p l e room_1 s m #[Value.ref b] below meth c H locs 115 1854 (lw_Z below #[Value.ref b] s) (F0 m 28 ls []) := by
  have hN := hG.1
  obtain ⟨A, hAe⟩ : ∃ A : Nat → Prop, A = (fun q => s.heap.size ≤ q) := ⟨_, rfl⟩
  rw [← hAe] at hG hD hS
  have hA : ∀ q : Nat, s.heap.size ≤ q → A q := fun q h => by rw [hAe]; exact h
  have hbA : ¬ A b := by rw [hAe]; exact Nat.not_le.mpr hbl
  refine lv_iload hx hb dL_law_28 (lv_at hl 0 rfl) ?_
  refine lv_aload_n hx hb dL_law_30 rfl (lv_at hl 5 rfl) ?_
  refine va_slen hx hb hX hbl hbA hS dL_law_31 ?_
  refine lt_ci (y := 6) rfl ?_
  refine lv_bipush (v := 6) hx hb dL_law_32 (by decide) ?_
  refine lv_isub hx hb dL_law_34 ?_
  refine lt_ci (y := 0) (by first | rfl | decide) ?_
  refine lv_icmp_gt (tgt := 1982) hx hb dL_law_35 (by decide) (fun c => absurd c (by decide)) (fun _ => ?_)
  refine lv_aload_n hx hb dL_law_38 rfl (lv_at hl 5 rfl) ?_
  refine lv_iload hx hb dL_law_39 (lv_at hl 0 rfl) ?_
  refine va_sld hx hb hX hbl hbA hS (by unfold vp_in; decide) dL_law_41 ?_
  refine lt_ci (y := (xs 0)) rfl ?_
  refine lv_bipush (v := 63) hx hb dL_law_42 (by decide) ?_
  refine lv_iand hx hb dL_law_44 ?_
  refine lt_ci (y := 32) hk ?_
  refine lv_tableIn (off := 1787) (tgt := 1832) hx hb dL_law_45 (by decide) (by decide) (by decide) (by decide) ?_
  refine lv_aload_n hx hb dL_law_1832 rfl (lv_at hl 4 rfl) ?_
  refine lv_aload hx hb dL_law_1833 (lv_at hl 1 rfl) ?_
  have hPc := hP.sub (ws' := [(q_1, .inr (12, [.ref q_3, .ref q_32, .ref q_61])), (q_3, .inr (4, [.ref q_4, .ref q_10, .ref q_18, .ref q_21, .ref q_27, .ref q_31, .int 0, .int 0, .long 0])), (q_118, .inl (cA_119, 1, .inr (.inr (.inr (.inl cnD)))))]) [0, 1, 3] rfl
  have hDc := hD.sub (ws' := [(q_1, .inr (12, [.ref q_3, .ref q_32, .ref q_61])), (q_3, .inr (4, [.ref q_4, .ref q_10, .ref q_18, .ref q_21, .ref q_27, .ref q_31, .int 0, .int 0, .long 0])), (q_118, .inl (cA_119, 1, .inr (.inr (.inr (.inl cnD)))))]) [0, 1, 3] (by decide) rfl
  have hKc := hK.sub (tys' := [(cI, .int), (cA_119, .double)]) [0, 4] rfl
  have hFc := va_free (wc := [(q_1, .inr (12, [.ref q_3, .ref q_32, .ref q_61])), (q_3, .inr (4, [.ref q_4, .ref q_10, .ref q_18, .ref q_21, .ref q_27, .ref q_31, .int 0, .int 0, .long 0])), (q_118, .inl (cA_119, 1, .inr (.inr (.inr (.inl cnD)))))]) hD hS hA [0, 1, 3] rfl
  refine vx_calli (vx_runSX (As := [.ref q_1, .ref q_118]) (rest := []) ⟨hx, hb, hml, hown, hts⟩ (c_L_asleepShare l hl9 dC dI g q_1 q_32 q_61 q_3 q_4 q_10 q_18 q_21 q_27 q_31 cI cnD q_118 cA_119 H.size) (vx_cwSW 2 hts gL_law_L_asleepShare rfl rfl rfl (by decide +kernel) ⟨Nat.le_of_ble_eq_true rfl, Nat.le_of_ble_eq_true rfl⟩) ⟨wIn_blind, wIn_at hPc hKc hDc hG hS hFc⟩ rfl rfl hl.1 rfl (lv_room (Nat.le_of_ble_eq_true rfl)) dL_law_1835 ⟨Nat.le_of_ble_eq_true rfl, Nat.le_of_ble_eq_true rfl⟩) hS (fun q _ h => hFc q h) hFc (fun q _ h => hFc q h) (fun E9 ce9 q9 u9 t H1 locs ht hvm hx9 hB9 hz1 hk1 hS hce hcv hcl => False.elim hx9) (fun r_120 u t H1 locs ht hvm hw hB hz1 hk1 hS => ?_)
  obtain ⟨v_121, rfl⟩ : ∃ z, z = u := ⟨_, rfl⟩
  obtain ⟨hP1, hK1, hD1⟩ := hB
  rw [ht] at hP1
  obtain ⟨hP, hD⟩ := va_join (wr := [(q_90, .inr (16, [.ref q_97, .ref q_103, .ref q_113, .ref q_92, .ref q_93, .int 0, .int 0, .int 0, .int 105, .int 0, .int 0, .int 0, .int (-1), .int 0, .int 0, .int 0, .int 0, .int 0, .int 0, .int 0, .long 0, .int 0, .int 0]))]) (w1 := [(q_118, .inl (cA_119, 1, .inr (.inr (.inr (.inl v_121)))))]) hP hD [0, 1, 3] [2] rfl rfl (by decide) (by decide) hk1 hFc hP1 hD1
  generalize H1 = H at hP hS ⊢
  have hP : va_P (dC, dI) vwCl [(q_90, .inr (16, [.ref q_97, .ref q_103, .ref q_113, .ref q_92, .ref q_93, .int 0, .int 0, .int 0, .int 105, .int 0, .int 0, .int 0, .int (-1), .int 0, .int 0, .int 0, .int 0, .int 0, .int 0, .int 0, .long 0, .int 0, .int 0])), (q_118, .inl (cA_119, 1, .inr (.inr (.inr (.inl v_121)))))] H := hP
  have hD : va_D A [(q_90, .inr (16, [.ref q_97, .ref q_103, .ref q_113, .ref q_92, .ref q_93, .int 0, .int 0, .int 0, .int 105, .int 0, .int 0, .int 0, .int (-1), .int 0, .int 0, .int 0, .int 0, .int 0, .int 0, .int 0, .long 0, .int 0, .int 0])), (q_118, .inl (cA_119, 1, .inr (.inr (.inr (.inl v_121)))))] := hD
  refine lt_ci (y := 1) (hw.trans ((kc_sp_X8_asleepShare))) ?_
  refine W.widen (k := 116) (n := 1860) (Nat.le_of_ble_eq_true rfl) (Nat.le_of_ble_eq_true rfl) ?_
  refine lv_istore (lv' := [(6, .int 1), (5, .int 0), (4, .ref q_118), (3, .ref q_116), (2, .ref q_90), (1, .ref q_1), (0, .ref b)]) hx hb dL_law_1838 hl (by decide) rfl (fun ls hl => ?_)
  refine lv_aload_n hx hb dL_law_1840 rfl (lv_at hl 4 rfl) ?_
  have hPc := hP.sub (ws' := [(q_90, .inr (16, [.ref q_97, .ref q_103, .ref q_113, .ref q_92, .ref q_93, .int 0, .int 0, .int 0, .int 105, .int 0, .int 0, .int 0, .int (-1), .int 0, .int 0, .int 0, .int 0, .int 0, .int 0, .int 0, .long 0, .int 0, .int 0]))]) [0] rfl
  have hDc := hD.sub (ws' := [(q_90, .inr (16, [.ref q_97, .ref q_103, .ref q_113, .ref q_92, .ref q_93, .int 0, .int 0, .int 0, .int 105, .int 0, .int 0, .int 0, .int (-1), .int 0, .int 0, .int 0, .int 0, .int 0, .int 0, .int 0, .long 0, .int 0, .int 0]))]) [0] (by decide) rfl
  have hKc := hK.sub (tys' := [(cI, .int), (cZ, .boolean), (cO, .object "java/lang/Object")]) [0, 1, 2] rfl
  have hFc := va_free (wc := [(q_90, .inr (16, [.ref q_97, .ref q_103, .ref q_113, .ref q_92, .ref q_93, .int 0, .int 0, .int 0, .int 105, .int 0, .int 0, .int 0, .int (-1), .int 0, .int 0, .int 0, .int 0, .int 0, .int 0, .int 0, .long 0, .int 0, .int 0]))]) hD hS hA [0] rfl
  refine va_callf (va_runV (As := []) (rest := []) ⟨hx, hb, hml, hown, hts⟩ (c_X12_asleepShare l dC dI g q_90 q_92 q_93 q_97 q_103 q_113 cI cZ cO 0 H.size) (cwV 0 hts gL_law_X12_asleepShare rfl rfl rfl (by decide +kernel) ⟨Nat.le_of_ble_eq_true rfl, Nat.le_of_ble_eq_true rfl⟩) ⟨wIn_blind, va_recv hK hP (ci := 16) (q0 := 0) rfl rfl, wIn_at hPc hKc hDc hG hS hFc⟩ rfl rfl hl.1 rfl (lv_room (Nat.le_of_ble_eq_true rfl)) dL_law_1841 ⟨Nat.le_of_ble_eq_true rfl, Nat.le_of_ble_eq_true rfl⟩) hS (fun q _ h => hFc q h) hFc (fun r_122 u t H1 locs ht hvm hw hB hz1 hk1 hS => ?_)
  obtain ⟨v_123, rfl⟩ : ∃ z, z = u := ⟨_, rfl⟩
  have hm9 : v_123 = mp_X12_asleepShare := hw
  have hm9 := hm9.trans ((kc_mp_X12_asleepShare))
  subst hm9
  obtain ⟨hP1, hK1, hD1⟩ := hB
  rw [ht] at hP1
  obtain ⟨hP, hD⟩ := va_join (wr := [(q_118, .inl (cA_119, 1, .inr (.inr (.inr (.inl v_121)))))]) (w1 := [(q_90, .inr (16, [.ref q_97, .ref q_103, .ref q_113, .ref q_92, .ref q_93, .int 0, .int 0, .int 0, .int 105, .int 0, .int 0, .int 0, .int (-1), .int 0, .int 0, .int 0, .int 0, .int 0, .int 0, .int 0, .long 0, .int 0, .int 1]))]) hP hD [0] [1] rfl rfl (by decide) (by decide) hk1 hFc hP1 hD1
  generalize H1 = H at hP hS ⊢
  have hP : va_P (dC, dI) vwCl [(q_118, .inl (cA_119, 1, .inr (.inr (.inr (.inl v_121))))), (q_90, .inr (16, [.ref q_97, .ref q_103, .ref q_113, .ref q_92, .ref q_93, .int 0, .int 0, .int 0, .int 105, .int 0, .int 0, .int 0, .int (-1), .int 0, .int 0, .int 0, .int 0, .int 0, .int 0, .int 0, .long 0, .int 0, .int 1]))] H := hP
  have hD : va_D A [(q_118, .inl (cA_119, 1, .inr (.inr (.inr (.inl v_121))))), (q_90, .inr (16, [.ref q_97, .ref q_103, .ref q_113, .ref q_92, .ref q_93, .int 0, .int 0, .int 0, .int 105, .int 0, .int 0, .int 0, .int (-1), .int 0, .int 0, .int 0, .int 0, .int 0, .int 0, .int 0, .long 0, .int 0, .int 1]))] := hD
  refine lv_fstore (lv' := [(7, .float r_122), (6, .int 1), (5, .int 0), (4, .ref q_118), (3, .ref q_116), (2, .ref q_90), (1, .ref q_1), (0, .ref b)]) hx hb dL_law_1844 hl (by decide) rfl (fun ls hl => ?_)
  refine lv_aload_n hx hb dL_law_1846 rfl (lv_at hl 5 rfl) ?_
  have hPc := hP.sub (ws' := [(q_90, .inr (16, [.ref q_97, .ref q_103, .ref q_113, .ref q_92, .ref q_93, .int 0, .int 0, .int 0, .int 105, .int 0, .int 0, .int 0, .int (-1), .int 0, .int 0, .int 0, .int 0, .int 0, .int 0, .int 0, .long 0, .int 0, .int 1]))]) [1] rfl
  have hDc := hD.sub (ws' := [(q_90, .inr (16, [.ref q_97, .ref q_103, .ref q_113, .ref q_92, .ref q_93, .int 0, .int 0, .int 0, .int 105, .int 0, .int 0, .int 0, .int (-1), .int 0, .int 0, .int 0, .int 0, .int 0, .int 0, .int 0, .long 0, .int 0, .int 1]))]) [1] (by decide) rfl
  have hKc := hK.sub (tys' := [(cI, .int), (cZ, .boolean), (cO, .object "java/lang/Object")]) [0, 1, 2] rfl
  have hFc := va_free (wc := [(q_90, .inr (16, [.ref q_97, .ref q_103, .ref q_113, .ref q_92, .ref q_93, .int 0, .int 0, .int 0, .int 105, .int 0, .int 0, .int 0, .int (-1), .int 0, .int 0, .int 0, .int 0, .int 0, .int 0, .int 0, .long 0, .int 0, .int 1]))]) hD hS hA [1] rfl
  refine va_calli (va_runV (As := []) (rest := []) ⟨hx, hb, hml, hown, hts⟩ (c_X12_thrown l dC dI g q_90 (.ref q_97) (.ref q_103) (.ref q_113) (.ref q_92) (.ref q_93) (.int 0) (.int 0) (.int 0) (.int 105) (.int 0) (.int 0) (.int 0) (.int (-1)) (.int 0) (.int 0) (.int 0) (.int 0) (.int 0) (.int 0) (.int 0) (.long 0) (.int 0) cI cZ cO 1 H.size) (cwV 0 hts gL_law_X12_thrown rfl rfl rfl (by decide +kernel) ⟨Nat.le_of_ble_eq_true rfl, Nat.le_of_ble_eq_true rfl⟩) ⟨wIn_blind, va_recv hK hP (ci := 16) (q0 := 1) rfl rfl, wIn_at hPc hKc hDc hG hS hFc⟩ rfl rfl hl.1 rfl (lv_room (Nat.le_of_ble_eq_true rfl)) dL_law_1847 ⟨Nat.le_of_ble_eq_true rfl, Nat.le_of_ble_eq_true rfl⟩) hS (fun q _ h => hFc q h) hFc (fun r_125 u t H1 locs ht hvm hw hB hz1 hk1 hS => ?_)
  obtain ⟨hP1, hK1, hD1⟩ := hB
  rw [ht] at hP1
  obtain ⟨hP, hD⟩ := va_join (wr := [(q_118, .inl (cA_119, 1, .inr (.inr (.inr (.inl v_121)))))]) (w1 := [(q_90, .inr (16, [.ref q_97, .ref q_103, .ref q_113, .ref q_92, .ref q_93, .int 0, .int 0, .int 0, .int 105, .int 0, .int 0, .int 0, .int (-1), .int 0, .int 0, .int 0, .int 0, .int 0, .int 0, .int 0, .long 0, .int 0, .int 1]))]) hP hD [1] [0] rfl rfl (by decide) (by decide) hk1 hFc hP1 hD1
  generalize H1 = H at hP hS ⊢
  have hP : va_P (dC, dI) vwCl [(q_118, .inl (cA_119, 1, .inr (.inr (.inr (.inl v_121))))), (q_90, .inr (16, [.ref q_97, .ref q_103, .ref q_113, .ref q_92, .ref q_93, .int 0, .int 0, .int 0, .int 105, .int 0, .int 0, .int 0, .int (-1), .int 0, .int 0, .int 0, .int 0, .int 0, .int 0, .int 0, .long 0, .int 0, .int 1]))] H := hP
  have hD : va_D A [(q_118, .inl (cA_119, 1, .inr (.inr (.inr (.inl v_121))))), (q_90, .inr (16, [.ref q_97, .ref q_103, .ref q_113, .ref q_92, .ref q_93, .int 0, .int 0, .int 0, .int 105, .int 0, .int 0, .int 0, .int (-1), .int 0, .int 0, .int 0, .int 0, .int 0, .int 0, .int 0, .long 0, .int 0, .int 1]))] := hD
  refine lt_ci (y := 1) hw ?_
  refine lv_iload hx hb dL_law_1850 (lv_at hl 1 rfl) ?_
  refine lv_icmp_eq (tgt := 1857) hx hb dL_law_1852 (by decide) (fun _ => ?_) (fun c => absurd (by decide) c)
  refine lv_iload hx hb dL_law_1857 (lv_at hl 1 rfl) ?_
  refine lv_if_ne (tgt := 1895) hx hb dL_law_1859 (by decide) (fun _ => ?_) (fun c => absurd c (by decide))
  refine lv_goto (tgt := 1976) hx hb dL_law_1895 (by decide) ?_
  refine lv_iinc (v := 6) (lv' := [(5, .int 6), (7, .float r_122), (6, .int 1), (4, .ref q_118), (3, .ref q_116), (2, .ref q_90), (1, .ref q_1), (0, .ref b)]) hx hb dL_law_1976 hl (k := 2) rfl (by first | rfl | decide) (by decide) rfl (fun ls hl => ?_)
  refine lv_goto (tgt := 28) hx hb dL_law_1979 (by decide) ?_
  refine lv_iload hx hb dL_law_28 (lv_at hl 0 rfl) ?_
  refine lv_aload_n hx hb dL_law_30 rfl (lv_at hl 7 rfl) ?_
  refine va_slen hx hb hX hbl hbA hS dL_law_31 ?_
  refine lt_ci (y := 6) rfl ?_
  refine lv_bipush (v := 6) hx hb dL_law_32 (by decide) ?_
  refine lv_isub hx hb dL_law_34 ?_
  refine lt_ci (y := 0) (by first | rfl | decide) ?_
  refine lv_icmp_gt (tgt := 1982) hx hb dL_law_35 (by decide) (fun _ => ?_) (fun c => absurd (by decide) c)
  refine lv_iconst (v := 1) hx hb dL_law_1982 (by decide) ?_
  refine W.widen (k := 735603) (n := 6895256) (Nat.le_of_ble_eq_true rfl) (Nat.le_of_ble_eq_true rfl) ?_
  refine va_forget (fun q hq => by have h9 := hS.2.2 q hq; rw [hAe] at h9; exact h9) ?_
  exact W.base (lw_ret (Drawn.sameBut.refl s.drawn lw_cs) hx hb hr hlocks dL_law_1983)
set_option maxHeartbeats 8000000 in
set_option maxRecDepth 100000 in
theorem c_L_law_33 {p : Program} {e : Env} {s : State} {m : MethodId} {below : List Frame} {meth : Method} {c : Code} (l : Launch) (hl9 : l.stackTraces = false) (dC : Nat → ClassId) (dI : Nat → Nat → Nat) (g : Nat × Nat × Nat) (b : Nat) (xs : Nat → Int32) (cI cZ cO : ClassId) (hx : p.tables.exec = Jvm.exec) (hb : c.code = cL_law) (hr : meth.sig.returnType = ret) (hml : c.maxLocals = 9) (hown : s.vm.findClass RL = some m.cls) (hts : ∀ w ∈ wsL_law, w.before #[Value.ref b] s = true) (hX : va_X b 6 xs s s.heap) (hbl : b < s.heap.size) (hlocks : meth.locks = false) (hG : gx g (fun q => s.heap.size ≤ q) s s.heap) (hk : (xs 0 &&& 63) = 33) (cA_117 : ClassId) (cA_119 : ClassId) (q_1 : Nat) (q_3 : Nat) (q_4 : Nat) (q_10 : Nat) (q_18 : Nat) (q_21 : Nat) (q_27 : Nat) (q_31 : Nat) (q_32 : Nat) (q_61 : Nat) (q_90 : Nat) (q_92 : Nat) (q_93 : Nat) (q_97 : Nat) (q_103 : Nat) (q_113 : Nat) (q_116 : Nat) (q_118 : Nat) (H : Heap) (locs : List Loc) (ls : Array Slot) (hK : va_K (dC, dI) vwCl [(cI, .int), (cZ, .boolean), (cO, .object "java/lang/Object"), (cA_117, .long), (cA_119, .double)] s) (hP : va_P (dC, dI) vwCl [(q_1, .inr (12, [.ref q_3, .ref q_32, .ref q_61])), (q_3, .inr (4, [.ref q_4, .ref q_10, .ref q_18, .ref q_21, .ref q_27, .ref q_31, .int 0, .int 0, .long 0])), (q_90, .inr (16, [.ref q_97, .ref q_103, .ref q_113, .ref q_92, .ref q_93, .int 0, .int 0, .int 0, .int 105, .int 0, .int 0, .int 0, .int (-1), .int 0, .int 0, .int 0, .int 0, .int 0, .int 0, .int 0, .long 0, .int 0, .int 0])), (q_118, .inl (cA_119, 1, .inr (.inr (.inr (.inl cnD)))))] H) (hD : va_D (fun q => s.heap.size ≤ q) [(q_1, .inr (12, [.ref q_3, .ref q_32, .ref q_61])), (q_3, .inr (4, [.ref q_4, .ref q_10, .ref q_18, .ref q_21, .ref q_27, .ref q_31, .int 0, .int 0, .long 0])), (q_90, .inr (16, [.ref q_97, .ref q_103, .ref q_113, .ref q_92, .ref q_93, .int 0, .int 0, .int 0, .int 105, .int 0, .int 0, .int 0, .int (-1), .int 0, .int 0, .int 0, .int 0, .int 0, .int 0, .int 0, .long 0, .int 0, .int 0])), (q_118, .inl (cA_119, 1, .inr (.inr (.inr (.inl cnD)))))]) (hS : va_S (fun q => s.heap.size ≤ q) s.heap H locs) (hl : lv_has ls 9 [(5, .int 0), (4, .ref q_118), (3, .ref q_116), (2, .ref q_90), (1, .ref q_1), (0, .ref b)]) : W p l e room_1 s m #[Value.ref b] below meth c H locs 115 1854 (lw_Z below #[Value.ref b] s) (F0 m 28 ls []) := by
  have hN := hG.1
  obtain ⟨A, hAe⟩ : ∃ A : Nat → Prop, A = (fun q => s.heap.size ≤ q) := ⟨_, rfl⟩
  rw [← hAe] at hG hD hS
  have hA : ∀ q : Nat, s.heap.size ≤ q → A q := fun q h => by rw [hAe]; exact h
  have hbA : ¬ A b := by rw [hAe]; exact Nat.not_le.mpr hbl
  refine lv_iload hx hb dL_law_28 (lv_at hl 0 rfl) ?_
  refine lv_aload_n hx hb dL_law_30 rfl (lv_at hl 5 rfl) ?_
  refine va_slen hx hb hX hbl hbA hS dL_law_31 ?_
  refine lt_ci (y := 6) rfl ?_
  refine lv_bipush (v := 6) hx hb dL_law_32 (by decide) ?_
  refine lv_isub hx hb dL_law_34 ?_
  refine lt_ci (y := 0) (by first | rfl | decide) ?_
  refine lv_icmp_gt (tgt := 1982) hx hb dL_law_35 (by decide) (fun c => absurd c (by decide)) (fun _ => ?_)
  refine lv_aload_n hx hb dL_law_38 rfl (lv_at hl 5 rfl) ?_
  refine lv_iload hx hb dL_law_39 (lv_at hl 0 rfl) ?_
  refine va_sld hx hb hX hbl hbA hS (by unfold vp_in; decide) dL_law_41 ?_
  refine lt_ci (y := (xs 0)) rfl ?_
  refine lv_bipush (v := 63) hx hb dL_law_42 (by decide) ?_
  refine lv_iand hx hb dL_law_44 ?_
  refine lt_ci (y := 33) hk ?_
  refine lv_tableIn (off := 1853) (tgt := 1898) hx hb dL_law_45 (by decide) (by decide) (by decide) (by decide) ?_
  refine lv_aload_n hx hb dL_law_1898 rfl (lv_at hl 4 rfl) ?_
  refine lv_aload hx hb dL_law_1899 (lv_at hl 1 rfl) ?_
  have hPc := hP.sub (ws' := [(q_1, .inr (12, [.ref q_3, .ref q_32, .ref q_61])), (q_3, .inr (4, [.ref q_4, .ref q_10, .ref q_18, .ref q_21, .ref q_27, .ref q_31, .int 0, .int 0, .long 0])), (q_118, .inl (cA_119, 1, .inr (.inr (.inr (.inl cnD)))))]) [0, 1, 3] rfl
  have hDc := hD.sub (ws' := [(q_1, .inr (12, [.ref q_3, .ref q_32, .ref q_61])), (q_3, .inr (4, [.ref q_4, .ref q_10, .ref q_18, .ref q_21, .ref q_27, .ref q_31, .int 0, .int 0, .long 0])), (q_118, .inl (cA_119, 1, .inr (.inr (.inr (.inl cnD)))))]) [0, 1, 3] (by decide) rfl
  have hKc := hK.sub (tys' := [(cI, .int), (cA_119, .double)]) [0, 4] rfl
  have hFc := va_free (wc := [(q_1, .inr (12, [.ref q_3, .ref q_32, .ref q_61])), (q_3, .inr (4, [.ref q_4, .ref q_10, .ref q_18, .ref q_21, .ref q_27, .ref q_31, .int 0, .int 0, .long 0])), (q_118, .inl (cA_119, 1, .inr (.inr (.inr (.inl cnD)))))]) hD hS hA [0, 1, 3] rfl
  refine vx_calli (vx_runSX (As := [.ref q_1, .ref q_118]) (rest := []) ⟨hx, hb, hml, hown, hts⟩ (c_L_meanEnergy l hl9 dC dI g q_1 q_32 q_61 q_3 q_4 q_10 q_18 q_21 q_27 q_31 cI cnD q_118 cA_119 H.size) (vx_cwSW 2 hts gL_law_L_meanEnergy rfl rfl rfl (by decide +kernel) ⟨Nat.le_of_ble_eq_true rfl, Nat.le_of_ble_eq_true rfl⟩) ⟨wIn_blind, wIn_at hPc hKc hDc hG hS hFc⟩ rfl rfl hl.1 rfl (lv_room (Nat.le_of_ble_eq_true rfl)) dL_law_1901 ⟨Nat.le_of_ble_eq_true rfl, Nat.le_of_ble_eq_true rfl⟩) hS (fun q _ h => hFc q h) hFc (fun q _ h => hFc q h) (fun E9 ce9 q9 u9 t H1 locs ht hvm hx9 hB9 hz1 hk1 hS hce hcv hcl => False.elim hx9) (fun r_120 u t H1 locs ht hvm hw hB hz1 hk1 hS => ?_)
  obtain ⟨v_121, rfl⟩ : ∃ z, z = u := ⟨_, rfl⟩
  obtain ⟨hP1, hK1, hD1⟩ := hB
  rw [ht] at hP1
  obtain ⟨hP, hD⟩ := va_join (wr := [(q_90, .inr (16, [.ref q_97, .ref q_103, .ref q_113, .ref q_92, .ref q_93, .int 0, .int 0, .int 0, .int 105, .int 0, .int 0, .int 0, .int (-1), .int 0, .int 0, .int 0, .int 0, .int 0, .int 0, .int 0, .long 0, .int 0, .int 0]))]) (w1 := [(q_118, .inl (cA_119, 1, .inr (.inr (.inr (.inl v_121)))))]) hP hD [0, 1, 3] [2] rfl rfl (by decide) (by decide) hk1 hFc hP1 hD1
  generalize H1 = H at hP hS ⊢
  have hP : va_P (dC, dI) vwCl [(q_90, .inr (16, [.ref q_97, .ref q_103, .ref q_113, .ref q_92, .ref q_93, .int 0, .int 0, .int 0, .int 105, .int 0, .int 0, .int 0, .int (-1), .int 0, .int 0, .int 0, .int 0, .int 0, .int 0, .int 0, .long 0, .int 0, .int 0])), (q_118, .inl (cA_119, 1, .inr (.inr (.inr (.inl v_121)))))] H := hP
  have hD : va_D A [(q_90, .inr (16, [.ref q_97, .ref q_103, .ref q_113, .ref q_92, .ref q_93, .int 0, .int 0, .int 0, .int 105, .int 0, .int 0, .int 0, .int (-1), .int 0, .int 0, .int 0, .int 0, .int 0, .int 0, .int 0, .long 0, .int 0, .int 0])), (q_118, .inl (cA_119, 1, .inr (.inr (.inr (.inl v_121)))))] := hD
  refine lt_ci (y := 1) (hw.trans ((kc_sp_X8_meanEnergy))) ?_
  refine W.widen (k := 116) (n := 1860) (Nat.le_of_ble_eq_true rfl) (Nat.le_of_ble_eq_true rfl) ?_
  refine lv_istore (lv' := [(6, .int 1), (5, .int 0), (4, .ref q_118), (3, .ref q_116), (2, .ref q_90), (1, .ref q_1), (0, .ref b)]) hx hb dL_law_1904 hl (by decide) rfl (fun ls hl => ?_)
  refine lv_aload_n hx hb dL_law_1906 rfl (lv_at hl 4 rfl) ?_
  have hPc := hP.sub (ws' := [(q_90, .inr (16, [.ref q_97, .ref q_103, .ref q_113, .ref q_92, .ref q_93, .int 0, .int 0, .int 0, .int 105, .int 0, .int 0, .int 0, .int (-1), .int 0, .int 0, .int 0, .int 0, .int 0, .int 0, .int 0, .long 0, .int 0, .int 0]))]) [0] rfl
  have hDc := hD.sub (ws' := [(q_90, .inr (16, [.ref q_97, .ref q_103, .ref q_113, .ref q_92, .ref q_93, .int 0, .int 0, .int 0, .int 105, .int 0, .int 0, .int 0, .int (-1), .int 0, .int 0, .int 0, .int 0, .int 0, .int 0, .int 0, .long 0, .int 0, .int 0]))]) [0] (by decide) rfl
  have hKc := hK.sub (tys' := [(cI, .int), (cZ, .boolean), (cO, .object "java/lang/Object")]) [0, 1, 2] rfl
  have hFc := va_free (wc := [(q_90, .inr (16, [.ref q_97, .ref q_103, .ref q_113, .ref q_92, .ref q_93, .int 0, .int 0, .int 0, .int 105, .int 0, .int 0, .int 0, .int (-1), .int 0, .int 0, .int 0, .int 0, .int 0, .int 0, .int 0, .long 0, .int 0, .int 0]))]) hD hS hA [0] rfl
  refine va_calld (va_runV (As := []) (rest := []) ⟨hx, hb, hml, hown, hts⟩ (c_X12_meanEnergy l dC dI g q_90 q_92 q_93 q_97 q_103 q_113 cI cZ cO 0 H.size) (cwV 0 hts gL_law_X12_meanEnergy rfl rfl rfl (by decide +kernel) ⟨Nat.le_of_ble_eq_true rfl, Nat.le_of_ble_eq_true rfl⟩) ⟨wIn_blind, va_recv hK hP (ci := 16) (q0 := 0) rfl rfl, wIn_at hPc hKc hDc hG hS hFc⟩ rfl rfl hl.1 rfl (lv_room (Nat.le_of_ble_eq_true rfl)) dL_law_1907 ⟨Nat.le_of_ble_eq_true rfl, Nat.le_of_ble_eq_true rfl⟩) hS (fun q _ h => hFc q h) hFc (fun r_122 u t H1 locs ht hvm hw hB hz1 hk1 hS => ?_)
  obtain ⟨v_123, rfl⟩ : ∃ z, z = u := ⟨_, rfl⟩
  have hm9 : v_123 = mp_X12_meanEnergy := hw
  have hm9 := hm9.trans ((kc_mp_X12_meanEnergy))
  subst hm9
  obtain ⟨hP1, hK1, hD1⟩ := hB
  rw [ht] at hP1
  obtain ⟨hP, hD⟩ := va_join (wr := [(q_118, .inl (cA_119, 1, .inr (.inr (.inr (.inl v_121)))))]) (w1 := [(q_90, .inr (16, [.ref q_97, .ref q_103, .ref q_113, .ref q_92, .ref q_93, .int 0, .int 0, .int 0, .int 105, .int 0, .int 0, .int 0, .int (-1), .int 0, .int 0, .int 0, .int 0, .int 0, .int 0, .int 0, .long 0, .int 0, .int 1]))]) hP hD [0] [1] rfl rfl (by decide) (by decide) hk1 hFc hP1 hD1
  generalize H1 = H at hP hS ⊢
  have hP : va_P (dC, dI) vwCl [(q_118, .inl (cA_119, 1, .inr (.inr (.inr (.inl v_121))))), (q_90, .inr (16, [.ref q_97, .ref q_103, .ref q_113, .ref q_92, .ref q_93, .int 0, .int 0, .int 0, .int 105, .int 0, .int 0, .int 0, .int (-1), .int 0, .int 0, .int 0, .int 0, .int 0, .int 0, .int 0, .long 0, .int 0, .int 1]))] H := hP
  have hD : va_D A [(q_118, .inl (cA_119, 1, .inr (.inr (.inr (.inl v_121))))), (q_90, .inr (16, [.ref q_97, .ref q_103, .ref q_113, .ref q_92, .ref q_93, .int 0, .int 0, .int 0, .int 105, .int 0, .int 0, .int 0, .int (-1), .int 0, .int 0, .int 0, .int 0, .int 0, .int 0, .int 0, .long 0, .int 0, .int 1]))] := hD
  refine lv_dstore (lv' := [(7, .double r_122), (6, .int 1), (5, .int 0), (4, .ref q_118), (3, .ref q_116), (2, .ref q_90), (1, .ref q_1), (0, .ref b)]) hx hb dL_law_1910 hl (by decide) rfl (fun ls hl => ?_)
  refine lv_aload_n hx hb dL_law_1912 rfl (lv_at hl 5 rfl) ?_
  have hPc := hP.sub (ws' := [(q_90, .inr (16, [.ref q_97, .ref q_103, .ref q_113, .ref q_92, .ref q_93, .int 0, .int 0, .int 0, .int 105, .int 0, .int 0, .int 0, .int (-1), .int 0, .int 0, .int 0, .int 0, .int 0, .int 0, .int 0, .long 0, .int 0, .int 1]))]) [1] rfl
  have hDc := hD.sub (ws' := [(q_90, .inr (16, [.ref q_97, .ref q_103, .ref q_113, .ref q_92, .ref q_93, .int 0, .int 0, .int 0, .int 105, .int 0, .int 0, .int 0, .int (-1), .int 0, .int 0, .int 0, .int 0, .int 0, .int 0, .int 0, .long 0, .int 0, .int 1]))]) [1] (by decide) rfl
  have hKc := hK.sub (tys' := [(cI, .int), (cZ, .boolean), (cO, .object "java/lang/Object")]) [0, 1, 2] rfl
  have hFc := va_free (wc := [(q_90, .inr (16, [.ref q_97, .ref q_103, .ref q_113, .ref q_92, .ref q_93, .int 0, .int 0, .int 0, .int 105, .int 0, .int 0, .int 0, .int (-1), .int 0, .int 0, .int 0, .int 0, .int 0, .int 0, .int 0, .long 0, .int 0, .int 1]))]) hD hS hA [1] rfl
  refine va_calli (va_runV (As := []) (rest := []) ⟨hx, hb, hml, hown, hts⟩ (c_X12_thrown l dC dI g q_90 (.ref q_97) (.ref q_103) (.ref q_113) (.ref q_92) (.ref q_93) (.int 0) (.int 0) (.int 0) (.int 105) (.int 0) (.int 0) (.int 0) (.int (-1)) (.int 0) (.int 0) (.int 0) (.int 0) (.int 0) (.int 0) (.int 0) (.long 0) (.int 0) cI cZ cO 1 H.size) (cwV 0 hts gL_law_X12_thrown rfl rfl rfl (by decide +kernel) ⟨Nat.le_of_ble_eq_true rfl, Nat.le_of_ble_eq_true rfl⟩) ⟨wIn_blind, va_recv hK hP (ci := 16) (q0 := 1) rfl rfl, wIn_at hPc hKc hDc hG hS hFc⟩ rfl rfl hl.1 rfl (lv_room (Nat.le_of_ble_eq_true rfl)) dL_law_1913 ⟨Nat.le_of_ble_eq_true rfl, Nat.le_of_ble_eq_true rfl⟩) hS (fun q _ h => hFc q h) hFc (fun r_125 u t H1 locs ht hvm hw hB hz1 hk1 hS => ?_)
  obtain ⟨hP1, hK1, hD1⟩ := hB
  rw [ht] at hP1
  obtain ⟨hP, hD⟩ := va_join (wr := [(q_118, .inl (cA_119, 1, .inr (.inr (.inr (.inl v_121)))))]) (w1 := [(q_90, .inr (16, [.ref q_97, .ref q_103, .ref q_113, .ref q_92, .ref q_93, .int 0, .int 0, .int 0, .int 105, .int 0, .int 0, .int 0, .int (-1), .int 0, .int 0, .int 0, .int 0, .int 0, .int 0, .int 0, .long 0, .int 0, .int 1]))]) hP hD [1] [0] rfl rfl (by decide) (by decide) hk1 hFc hP1 hD1
  generalize H1 = H at hP hS ⊢
  have hP : va_P (dC, dI) vwCl [(q_118, .inl (cA_119, 1, .inr (.inr (.inr (.inl v_121))))), (q_90, .inr (16, [.ref q_97, .ref q_103, .ref q_113, .ref q_92, .ref q_93, .int 0, .int 0, .int 0, .int 105, .int 0, .int 0, .int 0, .int (-1), .int 0, .int 0, .int 0, .int 0, .int 0, .int 0, .int 0, .long 0, .int 0, .int 1]))] H := hP
  have hD : va_D A [(q_118, .inl (cA_119, 1, .inr (.inr (.inr (.inl v_121))))), (q_90, .inr (16, [.ref q_97, .ref q_103, .ref q_113, .ref q_92, .ref q_93, .int 0, .int 0, .int 0, .int 105, .int 0, .int 0, .int 0, .int (-1), .int 0, .int 0, .int 0, .int 0, .int 0, .int 0, .int 0, .long 0, .int 0, .int 1]))] := hD
  refine lt_ci (y := 1) hw ?_
  refine lv_iload hx hb dL_law_1916 (lv_at hl 1 rfl) ?_
  refine lv_icmp_eq (tgt := 1923) hx hb dL_law_1918 (by decide) (fun _ => ?_) (fun c => absurd (by decide) c)
  refine lv_iload hx hb dL_law_1923 (lv_at hl 1 rfl) ?_
  refine lv_if_ne (tgt := 1960) hx hb dL_law_1925 (by decide) (fun _ => ?_) (fun c => absurd c (by decide))
  refine lv_goto (tgt := 1976) hx hb dL_law_1960 (by decide) ?_
  refine lv_iinc (v := 6) (lv' := [(5, .int 6), (7, .double r_122), (6, .int 1), (4, .ref q_118), (3, .ref q_116), (2, .ref q_90), (1, .ref q_1), (0, .ref b)]) hx hb dL_law_1976 hl (k := 2) rfl (by first | rfl | decide) (by decide) rfl (fun ls hl => ?_)
  refine lv_goto (tgt := 28) hx hb dL_law_1979 (by decide) ?_
  refine lv_iload hx hb dL_law_28 (lv_at hl 0 rfl) ?_
  refine lv_aload_n hx hb dL_law_30 rfl (lv_at hl 7 rfl) ?_
  refine va_slen hx hb hX hbl hbA hS dL_law_31 ?_
  refine lt_ci (y := 6) rfl ?_
  refine lv_bipush (v := 6) hx hb dL_law_32 (by decide) ?_
  refine lv_isub hx hb dL_law_34 ?_
  refine lt_ci (y := 0) (by first | rfl | decide) ?_
  refine lv_icmp_gt (tgt := 1982) hx hb dL_law_35 (by decide) (fun _ => ?_) (fun c => absurd (by decide) c)
  refine lv_iconst (v := 1) hx hb dL_law_1982 (by decide) ?_
  refine W.widen (k := 735603) (n := 6895256) (Nat.le_of_ble_eq_true rfl) (Nat.le_of_ble_eq_true rfl) ?_
  refine va_forget (fun q hq => by have h9 := hS.2.2 q hq; rw [hAe] at h9; exact h9) ?_
  exact W.base (lw_ret (Drawn.sameBut.refl s.drawn lw_cs) hx hb hr hlocks dL_law_1983)
set_option maxHeartbeats 8000000 in
set_option maxRecDepth 100000 in
theorem c_L_law_34 {p : Program} {e : Env} {s : State} {m : MethodId} {below : List Frame} {meth : Method} {c : Code} (l : Launch) (hl9 : l.stackTraces = false) (dC : Nat → ClassId) (dI : Nat → Nat → Nat) (g : Nat × Nat × Nat) (b : Nat) (xs : Nat → Int32) (cI cZ cO : ClassId) (hx : p.tables.exec = Jvm.exec) (hb : c.code = cL_law) (hr : meth.sig.returnType = ret) (hml : c.maxLocals = 9) (hown : s.vm.findClass RL = some m.cls) (hts : ∀ w ∈ wsL_law, w.before #[Value.ref b] s = true) (hX : va_X b 6 xs s s.heap) (hbl : b < s.heap.size) (hlocks : meth.locks = false) (hG : gx g (fun q => s.heap.size ≤ q) s s.heap) (hk : (xs 0 &&& 63) = 34) (cA_117 : ClassId) (cA_119 : ClassId) (q_1 : Nat) (q_3 : Nat) (q_4 : Nat) (q_5 : Nat) (q_6 : Nat) (q_7 : Nat) (q_8 : Nat) (q_9 : Nat) (q_10 : Nat) (q_11 : Nat) (q_12 : Nat) (q_13 : Nat) (q_14 : Nat) (q_15 : Nat) (q_16 : Nat) (q_17 : Nat) (q_18 : Nat) (q_19 : Nat) (q_20 : Nat) (q_21 : Nat) (q_22 : Nat) (q_23 : Nat) (q_24 : Nat) (q_25 : Nat) (q_26 : Nat) (q_27 : Nat) (q_28 : Nat) (q_29 : Nat) (q_30 : Nat) (q_31 : Nat) (q_32 : Nat) (q_33 : Nat) (q_34 : Nat) (q_35 : Nat) (q_36 : Nat) (q_37 : Nat) (q_38 : Nat) (q_39 : Nat) (q_40 : Nat) (q_41 : Nat) (q_42 : Nat) (q_43 : Nat) (q_44 : Nat) (q_45 : Nat) (q_46 : Nat) (q_47 : Nat) (q_48 : Nat) (q_49 : Nat) (q_50 : Nat) (q_51 : Nat) (q_52 : Nat) (q_53 : Nat) (q_54 : Nat) (q_55 : Nat) (q_56 : Nat) (q_57 : Nat) (q_58 : Nat) (q_59 : Nat) (q_60 : Nat) (q_61 : Nat) (q_62 : Nat) (q_63 : Nat) (q_64 : Nat) (q_65 : Nat) (q_66 : Nat) (q_67 : Nat) (q_68 : Nat) (q_69 : Nat) (q_70 : Nat) (q_71 : Nat) (q_72 : Nat) (q_73 : Nat) (q_74 : Nat) (q_75 : Nat) (q_76 : Nat) (q_77 : Nat) (q_78 : Nat) (q_79 : Nat) (q_80 : Nat) (q_81 : Nat) (q_82 : Nat) (q_83 : Nat) (q_84 : Nat) (q_85 : Nat) (q_86 : Nat) (q_87 : Nat) (q_88 : Nat) (q_89 : Nat) (q_90 : Nat) (q_92 : Nat) (q_93 : Nat) (q_97 : Nat) (q_103 : Nat) (q_113 : Nat) (q_116 : Nat) (q_118 : Nat) (H : Heap) (locs : List Loc) (ls : Array Slot) (hK : va_K (dC, dI) vwCl [(cI, .int), (cZ, .boolean), (cO, .object "java/lang/Object"), (cA_117, .long), (cA_119, .double)] s) (hP : va_P (dC, dI) vwCl [(q_1, .inr (12, [.ref q_3, .ref q_32, .ref q_61])), (q_3, .inr (4, [.ref q_4, .ref q_10, .ref q_18, .ref q_21, .ref q_27, .ref q_31, .int 0, .int 0, .long 0])), (q_4, .inr (5, [.ref q_5, .ref q_9, .ref q_6, .ref q_7, .ref q_8, .int 15])), (q_5, .inl (cI, 4, .inl (cn 0))), (q_6, .inl (cI, 4, .inl (cn 0))), (q_7, .inl (cI, 4, .inl (cn 0))), (q_8, .inl (cI, 4, .inl (cn 0))), (q_9, .inl (cI, 4, .inl (cn 1))), (q_10, .inr (10, [.ref q_11, .ref q_14, .ref q_15, .ref q_16, .ref q_12, .ref q_13, .ref q_17, .int 0, .int 0])), (q_11, .inl (cI, 4, .inl (cn 0))), (q_12, .inl (cI, 4, .inl (cn 0))), (q_13, .inl (cI, 4, .inl (cn 0))), (q_14, .inl (cI, 4, .inl (cn 10))), (q_15, .inl (cI, 4, .inl (cn 10))), (q_16, .inl (cI, 4, .inl (cn (-1)))), (q_17, .inl (cI, 4, .inl (cn 110))), (q_18, .inr (7, [.ref q_19, .ref q_20, .int 0, .int 0])), (q_19, .inl (cI, 200, .inl (cn 0))), (q_20, .inl (cI, 200, .inl (cn 0))), (q_21, .inr (6, [.ref q_24, .ref q_25, .ref q_26, .ref q_22, .ref q_23, .int 0, .int 0])), (q_22, .inl (cI, 8, .inl (cn 0))), (q_23, .inl (cI, 8, .inl (cn 0))), (q_24, .inl (cI, 8, .inl (cn 7))), (q_25, .inl (cI, 8, .inl (cn 1))), (q_26, .inl (cI, 8, .inl (cn 110))), (q_27, .inr (8, [.ref q_28, .int 105, .int 0, .int (-1), .int 0, .int 0, .int 0])), (q_28, .inr (9, [.ref q_29, .ref q_30, .int 0])), (q_29, .inl (cI, 8, .inl (cn 0))), (q_30, .inl (cI, 8, .inl (cn 0))), (q_31, .inr (11, [.int (-1), .int 0, .int 0, .int 0, .int 0, .int 0])), (q_32, .inr (4, [.ref q_33, .ref q_39, .ref q_47, .ref q_50, .ref q_56, .ref q_60, .int 0, .int 0, .long 0])), (q_33, .inr (5, [.ref q_34, .ref q_38, .ref q_35, .ref q_36, .ref q_37, .int 15])), (q_34, .inl (cI, 4, .inl (cn 0))), (q_35, .inl (cI, 4, .inl (cn 0))), (q_36, .inl (cI, 4, .inl (cn 0))), (q_37, .inl (cI, 4, .inl (cn 0))), (q_38, .inl (cI, 4, .inl (cn 1))), (q_39, .inr (10, [.ref q_40, .ref q_43, .ref q_44, .ref q_45, .ref q_41, .ref q_42, .ref q_46, .int 0, .int 0])), (q_40, .inl (cI, 4, .inl (cn 0))), (q_41, .inl (cI, 4, .inl (cn 0))), (q_42, .inl (cI, 4, .inl (cn 0))), (q_43, .inl (cI, 4, .inl (cn 10))), (q_44, .inl (cI, 4, .inl (cn 10))), (q_45, .inl (cI, 4, .inl (cn (-1)))), (q_46, .inl (cI, 4, .inl (cn 110))), (q_47, .inr (7, [.ref q_48, .ref q_49, .int 0, .int 0])), (q_48, .inl (cI, 200, .inl (cn 0))), (q_49, .inl (cI, 200, .inl (cn 0))), (q_50, .inr (6, [.ref q_53, .ref q_54, .ref q_55, .ref q_51, .ref q_52, .int 0, .int 0])), (q_51, .inl (cI, 8, .inl (cn 0))), (q_52, .inl (cI, 8, .inl (cn 0))), (q_53, .inl (cI, 8, .inl (cn 7))), (q_54, .inl (cI, 8, .inl (cn 1))), (q_55, .inl (cI, 8, .inl (cn 110))), (q_56, .inr (8, [.ref q_57, .int 105, .int 0, .int (-1), .int 0, .int 0, .int 0])), (q_57, .inr (9, [.ref q_58, .ref q_59, .int 0])), (q_58, .inl (cI, 8, .inl (cn 0))), (q_59, .inl (cI, 8, .inl (cn 0))), (q_60, .inr (11, [.int (-1), .int 0, .int 0, .int 0, .int 0, .int 0])), (q_61, .inr (4, [.ref q_62, .ref q_68, .ref q_76, .ref q_79, .ref q_85, .ref q_89, .int 0, .int 0, .long 0])), (q_62, .inr (5, [.ref q_63, .ref q_67, .ref q_64, .ref q_65, .ref q_66, .int 15])), (q_63, .inl (cI, 4, .inl (cn 0))), (q_64, .inl (cI, 4, .inl (cn 0))), (q_65, .inl (cI, 4, .inl (cn 0))), (q_66, .inl (cI, 4, .inl (cn 0))), (q_67, .inl (cI, 4, .inl (cn 1))), (q_68, .inr (10, [.ref q_69, .ref q_72, .ref q_73, .ref q_74, .ref q_70, .ref q_71, .ref q_75, .int 0, .int 0])), (q_69, .inl (cI, 4, .inl (cn 0))), (q_70, .inl (cI, 4, .inl (cn 0))), (q_71, .inl (cI, 4, .inl (cn 0))), (q_72, .inl (cI, 4, .inl (cn 10))), (q_73, .inl (cI, 4, .inl (cn 10))), (q_74, .inl (cI, 4, .inl (cn (-1)))), (q_75, .inl (cI, 4, .inl (cn 110))), (q_76, .inr (7, [.ref q_77, .ref q_78, .int 0, .int 0])), (q_77, .inl (cI, 200, .inl (cn 0))), (q_78, .inl (cI, 200, .inl (cn 0))), (q_79, .inr (6, [.ref q_82, .ref q_83, .ref q_84, .ref q_80, .ref q_81, .int 0, .int 0])), (q_80, .inl (cI, 8, .inl (cn 0))), (q_81, .inl (cI, 8, .inl (cn 0))), (q_82, .inl (cI, 8, .inl (cn 7))), (q_83, .inl (cI, 8, .inl (cn 1))), (q_84, .inl (cI, 8, .inl (cn 110))), (q_85, .inr (8, [.ref q_86, .int 105, .int 0, .int (-1), .int 0, .int 0, .int 0])), (q_86, .inr (9, [.ref q_87, .ref q_88, .int 0])), (q_87, .inl (cI, 8, .inl (cn 0))), (q_88, .inl (cI, 8, .inl (cn 0))), (q_89, .inr (11, [.int (-1), .int 0, .int 0, .int 0, .int 0, .int 0])), (q_90, .inr (16, [.ref q_97, .ref q_103, .ref q_113, .ref q_92, .ref q_93, .int 0, .int 0, .int 0, .int 105, .int 0, .int 0, .int 0, .int (-1), .int 0, .int 0, .int 0, .int 0, .int 0, .int 0, .int 0, .long 0, .int 0, .int 0]))] H) (hD : va_D (fun q => s.heap.size ≤ q) [(q_1, .inr (12, [.ref q_3, .ref q_32, .ref q_61])), (q_3, .inr (4, [.ref q_4, .ref q_10, .ref q_18, .ref q_21, .ref q_27, .ref q_31, .int 0, .int 0, .long 0])), (q_4, .inr (5, [.ref q_5, .ref q_9, .ref q_6, .ref q_7, .ref q_8, .int 15])), (q_5, .inl (cI, 4, .inl (cn 0))), (q_6, .inl (cI, 4, .inl (cn 0))), (q_7, .inl (cI, 4, .inl (cn 0))), (q_8, .inl (cI, 4, .inl (cn 0))), (q_9, .inl (cI, 4, .inl (cn 1))), (q_10, .inr (10, [.ref q_11, .ref q_14, .ref q_15, .ref q_16, .ref q_12, .ref q_13, .ref q_17, .int 0, .int 0])), (q_11, .inl (cI, 4, .inl (cn 0))), (q_12, .inl (cI, 4, .inl (cn 0))), (q_13, .inl (cI, 4, .inl (cn 0))), (q_14, .inl (cI, 4, .inl (cn 10))), (q_15, .inl (cI, 4, .inl (cn 10))), (q_16, .inl (cI, 4, .inl (cn (-1)))), (q_17, .inl (cI, 4, .inl (cn 110))), (q_18, .inr (7, [.ref q_19, .ref q_20, .int 0, .int 0])), (q_19, .inl (cI, 200, .inl (cn 0))), (q_20, .inl (cI, 200, .inl (cn 0))), (q_21, .inr (6, [.ref q_24, .ref q_25, .ref q_26, .ref q_22, .ref q_23, .int 0, .int 0])), (q_22, .inl (cI, 8, .inl (cn 0))), (q_23, .inl (cI, 8, .inl (cn 0))), (q_24, .inl (cI, 8, .inl (cn 7))), (q_25, .inl (cI, 8, .inl (cn 1))), (q_26, .inl (cI, 8, .inl (cn 110))), (q_27, .inr (8, [.ref q_28, .int 105, .int 0, .int (-1), .int 0, .int 0, .int 0])), (q_28, .inr (9, [.ref q_29, .ref q_30, .int 0])), (q_29, .inl (cI, 8, .inl (cn 0))), (q_30, .inl (cI, 8, .inl (cn 0))), (q_31, .inr (11, [.int (-1), .int 0, .int 0, .int 0, .int 0, .int 0])), (q_32, .inr (4, [.ref q_33, .ref q_39, .ref q_47, .ref q_50, .ref q_56, .ref q_60, .int 0, .int 0, .long 0])), (q_33, .inr (5, [.ref q_34, .ref q_38, .ref q_35, .ref q_36, .ref q_37, .int 15])), (q_34, .inl (cI, 4, .inl (cn 0))), (q_35, .inl (cI, 4, .inl (cn 0))), (q_36, .inl (cI, 4, .inl (cn 0))), (q_37, .inl (cI, 4, .inl (cn 0))), (q_38, .inl (cI, 4, .inl (cn 1))), (q_39, .inr (10, [.ref q_40, .ref q_43, .ref q_44, .ref q_45, .ref q_41, .ref q_42, .ref q_46, .int 0, .int 0])), (q_40, .inl (cI, 4, .inl (cn 0))), (q_41, .inl (cI, 4, .inl (cn 0))), (q_42, .inl (cI, 4, .inl (cn 0))), (q_43, .inl (cI, 4, .inl (cn 10))), (q_44, .inl (cI, 4, .inl (cn 10))), (q_45, .inl (cI, 4, .inl (cn (-1)))), (q_46, .inl (cI, 4, .inl (cn 110))), (q_47, .inr (7, [.ref q_48, .ref q_49, .int 0, .int 0])), (q_48, .inl (cI, 200, .inl (cn 0))), (q_49, .inl (cI, 200, .inl (cn 0))), (q_50, .inr (6, [.ref q_53, .ref q_54, .ref q_55, .ref q_51, .ref q_52, .int 0, .int 0])), (q_51, .inl (cI, 8, .inl (cn 0))), (q_52, .inl (cI, 8, .inl (cn 0))), (q_53, .inl (cI, 8, .inl (cn 7))), (q_54, .inl (cI, 8, .inl (cn 1))), (q_55, .inl (cI, 8, .inl (cn 110))), (q_56, .inr (8, [.ref q_57, .int 105, .int 0, .int (-1), .int 0, .int 0, .int 0])), (q_57, .inr (9, [.ref q_58, .ref q_59, .int 0])), (q_58, .inl (cI, 8, .inl (cn 0))), (q_59, .inl (cI, 8, .inl (cn 0))), (q_60, .inr (11, [.int (-1), .int 0, .int 0, .int 0, .int 0, .int 0])), (q_61, .inr (4, [.ref q_62, .ref q_68, .ref q_76, .ref q_79, .ref q_85, .ref q_89, .int 0, .int 0, .long 0])), (q_62, .inr (5, [.ref q_63, .ref q_67, .ref q_64, .ref q_65, .ref q_66, .int 15])), (q_63, .inl (cI, 4, .inl (cn 0))), (q_64, .inl (cI, 4, .inl (cn 0))), (q_65, .inl (cI, 4, .inl (cn 0))), (q_66, .inl (cI, 4, .inl (cn 0))), (q_67, .inl (cI, 4, .inl (cn 1))), (q_68, .inr (10, [.ref q_69, .ref q_72, .ref q_73, .ref q_74, .ref q_70, .ref q_71, .ref q_75, .int 0, .int 0])), (q_69, .inl (cI, 4, .inl (cn 0))), (q_70, .inl (cI, 4, .inl (cn 0))), (q_71, .inl (cI, 4, .inl (cn 0))), (q_72, .inl (cI, 4, .inl (cn 10))), (q_73, .inl (cI, 4, .inl (cn 10))), (q_74, .inl (cI, 4, .inl (cn (-1)))), (q_75, .inl (cI, 4, .inl (cn 110))), (q_76, .inr (7, [.ref q_77, .ref q_78, .int 0, .int 0])), (q_77, .inl (cI, 200, .inl (cn 0))), (q_78, .inl (cI, 200, .inl (cn 0))), (q_79, .inr (6, [.ref q_82, .ref q_83, .ref q_84, .ref q_80, .ref q_81, .int 0, .int 0])), (q_80, .inl (cI, 8, .inl (cn 0))), (q_81, .inl (cI, 8, .inl (cn 0))), (q_82, .inl (cI, 8, .inl (cn 7))), (q_83, .inl (cI, 8, .inl (cn 1))), (q_84, .inl (cI, 8, .inl (cn 110))), (q_85, .inr (8, [.ref q_86, .int 105, .int 0, .int (-1), .int 0, .int 0, .int 0])), (q_86, .inr (9, [.ref q_87, .ref q_88, .int 0])), (q_87, .inl (cI, 8, .inl (cn 0))), (q_88, .inl (cI, 8, .inl (cn 0))), (q_89, .inr (11, [.int (-1), .int 0, .int 0, .int 0, .int 0, .int 0])), (q_90, .inr (16, [.ref q_97, .ref q_103, .ref q_113, .ref q_92, .ref q_93, .int 0, .int 0, .int 0, .int 105, .int 0, .int 0, .int 0, .int (-1), .int 0, .int 0, .int 0, .int 0, .int 0, .int 0, .int 0, .long 0, .int 0, .int 0]))]) (hS : va_S (fun q => s.heap.size ≤ q) s.heap H locs) (hl : lv_has ls 9 [(5, .int 0), (4, .ref q_118), (3, .ref q_116), (2, .ref q_90), (1, .ref q_1), (0, .ref b)]) : W p l e room_1 s m #[Value.ref b] below meth c H locs 115 1854 (lw_Z below #[Value.ref b] s) (F0 m 28 ls []) := by
  have hN := hG.1
  obtain ⟨A, hAe⟩ : ∃ A : Nat → Prop, A = (fun q => s.heap.size ≤ q) := ⟨_, rfl⟩
  rw [← hAe] at hG hD hS
  have hA : ∀ q : Nat, s.heap.size ≤ q → A q := fun q h => by rw [hAe]; exact h
  have hbA : ¬ A b := by rw [hAe]; exact Nat.not_le.mpr hbl
  refine lv_iload hx hb dL_law_28 (lv_at hl 0 rfl) ?_
  refine lv_aload_n hx hb dL_law_30 rfl (lv_at hl 5 rfl) ?_
  refine va_slen hx hb hX hbl hbA hS dL_law_31 ?_
  refine lt_ci (y := 6) rfl ?_
  refine lv_bipush (v := 6) hx hb dL_law_32 (by decide) ?_
  refine lv_isub hx hb dL_law_34 ?_
  refine lt_ci (y := 0) (by first | rfl | decide) ?_
  refine lv_icmp_gt (tgt := 1982) hx hb dL_law_35 (by decide) (fun c => absurd c (by decide)) (fun _ => ?_)
  refine lv_aload_n hx hb dL_law_38 rfl (lv_at hl 5 rfl) ?_
  refine lv_iload hx hb dL_law_39 (lv_at hl 0 rfl) ?_
  refine va_sld hx hb hX hbl hbA hS (by unfold vp_in; decide) dL_law_41 ?_
  refine lt_ci (y := (xs 0)) rfl ?_
  refine lv_bipush (v := 63) hx hb dL_law_42 (by decide) ?_
  refine lv_iand hx hb dL_law_44 ?_
  refine lt_ci (y := 34) hk ?_
  refine lv_tableIn (off := 1918) (tgt := 1963) hx hb dL_law_45 (by decide) (by decide) (by decide) (by decide) ?_
  refine lv_aload_n hx hb dL_law_1963 rfl (lv_at hl 4 rfl) ?_
  have hPc := hP.sub (ws' := [(q_1, .inr (12, [.ref q_3, .ref q_32, .ref q_61])), (q_3, .inr (4, [.ref q_4, .ref q_10, .ref q_18, .ref q_21, .ref q_27, .ref q_31, .int 0, .int 0, .long 0])), (q_4, .inr (5, [.ref q_5, .ref q_9, .ref q_6, .ref q_7, .ref q_8, .int 15])), (q_5, .inl (cI, 4, .inl (cn 0))), (q_9, .inl (cI, 4, .inl (cn 1))), (q_6, .inl (cI, 4, .inl (cn 0))), (q_7, .inl (cI, 4, .inl (cn 0))), (q_8, .inl (cI, 4, .inl (cn 0))), (q_10, .inr (10, [.ref q_11, .ref q_14, .ref q_15, .ref q_16, .ref q_12, .ref q_13, .ref q_17, .int 0, .int 0])), (q_11, .inl (cI, 4, .inl (cn 0))), (q_14, .inl (cI, 4, .inl (cn 10))), (q_15, .inl (cI, 4, .inl (cn 10))), (q_16, .inl (cI, 4, .inl (cn (-1)))), (q_12, .inl (cI, 4, .inl (cn 0))), (q_13, .inl (cI, 4, .inl (cn 0))), (q_17, .inl (cI, 4, .inl (cn 110))), (q_18, .inr (7, [.ref q_19, .ref q_20, .int 0, .int 0])), (q_19, .inl (cI, 200, .inl (cn 0))), (q_20, .inl (cI, 200, .inl (cn 0))), (q_21, .inr (6, [.ref q_24, .ref q_25, .ref q_26, .ref q_22, .ref q_23, .int 0, .int 0])), (q_24, .inl (cI, 8, .inl (cn 7))), (q_25, .inl (cI, 8, .inl (cn 1))), (q_26, .inl (cI, 8, .inl (cn 110))), (q_22, .inl (cI, 8, .inl (cn 0))), (q_23, .inl (cI, 8, .inl (cn 0))), (q_28, .inr (9, [.ref q_29, .ref q_30, .int 0])), (q_29, .inl (cI, 8, .inl (cn 0))), (q_30, .inl (cI, 8, .inl (cn 0))), (q_27, .inr (8, [.ref q_28, .int 105, .int 0, .int (-1), .int 0, .int 0, .int 0])), (q_31, .inr (11, [.int (-1), .int 0, .int 0, .int 0, .int 0, .int 0])), (q_32, .inr (4, [.ref q_33, .ref q_39, .ref q_47, .ref q_50, .ref q_56, .ref q_60, .int 0, .int 0, .long 0])), (q_33, .inr (5, [.ref q_34, .ref q_38, .ref q_35, .ref q_36, .ref q_37, .int 15])), (q_34, .inl (cI, 4, .inl (cn 0))), (q_38, .inl (cI, 4, .inl (cn 1))), (q_35, .inl (cI, 4, .inl (cn 0))), (q_36, .inl (cI, 4, .inl (cn 0))), (q_37, .inl (cI, 4, .inl (cn 0))), (q_39, .inr (10, [.ref q_40, .ref q_43, .ref q_44, .ref q_45, .ref q_41, .ref q_42, .ref q_46, .int 0, .int 0])), (q_40, .inl (cI, 4, .inl (cn 0))), (q_43, .inl (cI, 4, .inl (cn 10))), (q_44, .inl (cI, 4, .inl (cn 10))), (q_45, .inl (cI, 4, .inl (cn (-1)))), (q_41, .inl (cI, 4, .inl (cn 0))), (q_42, .inl (cI, 4, .inl (cn 0))), (q_46, .inl (cI, 4, .inl (cn 110))), (q_47, .inr (7, [.ref q_48, .ref q_49, .int 0, .int 0])), (q_48, .inl (cI, 200, .inl (cn 0))), (q_49, .inl (cI, 200, .inl (cn 0))), (q_50, .inr (6, [.ref q_53, .ref q_54, .ref q_55, .ref q_51, .ref q_52, .int 0, .int 0])), (q_53, .inl (cI, 8, .inl (cn 7))), (q_54, .inl (cI, 8, .inl (cn 1))), (q_55, .inl (cI, 8, .inl (cn 110))), (q_51, .inl (cI, 8, .inl (cn 0))), (q_52, .inl (cI, 8, .inl (cn 0))), (q_57, .inr (9, [.ref q_58, .ref q_59, .int 0])), (q_58, .inl (cI, 8, .inl (cn 0))), (q_59, .inl (cI, 8, .inl (cn 0))), (q_56, .inr (8, [.ref q_57, .int 105, .int 0, .int (-1), .int 0, .int 0, .int 0])), (q_60, .inr (11, [.int (-1), .int 0, .int 0, .int 0, .int 0, .int 0])), (q_61, .inr (4, [.ref q_62, .ref q_68, .ref q_76, .ref q_79, .ref q_85, .ref q_89, .int 0, .int 0, .long 0])), (q_62, .inr (5, [.ref q_63, .ref q_67, .ref q_64, .ref q_65, .ref q_66, .int 15])), (q_63, .inl (cI, 4, .inl (cn 0))), (q_67, .inl (cI, 4, .inl (cn 1))), (q_64, .inl (cI, 4, .inl (cn 0))), (q_65, .inl (cI, 4, .inl (cn 0))), (q_66, .inl (cI, 4, .inl (cn 0))), (q_68, .inr (10, [.ref q_69, .ref q_72, .ref q_73, .ref q_74, .ref q_70, .ref q_71, .ref q_75, .int 0, .int 0])), (q_69, .inl (cI, 4, .inl (cn 0))), (q_72, .inl (cI, 4, .inl (cn 10))), (q_73, .inl (cI, 4, .inl (cn 10))), (q_74, .inl (cI, 4, .inl (cn (-1)))), (q_70, .inl (cI, 4, .inl (cn 0))), (q_71, .inl (cI, 4, .inl (cn 0))), (q_75, .inl (cI, 4, .inl (cn 110))), (q_76, .inr (7, [.ref q_77, .ref q_78, .int 0, .int 0])), (q_77, .inl (cI, 200, .inl (cn 0))), (q_78, .inl (cI, 200, .inl (cn 0))), (q_79, .inr (6, [.ref q_82, .ref q_83, .ref q_84, .ref q_80, .ref q_81, .int 0, .int 0])), (q_82, .inl (cI, 8, .inl (cn 7))), (q_83, .inl (cI, 8, .inl (cn 1))), (q_84, .inl (cI, 8, .inl (cn 110))), (q_80, .inl (cI, 8, .inl (cn 0))), (q_81, .inl (cI, 8, .inl (cn 0))), (q_86, .inr (9, [.ref q_87, .ref q_88, .int 0])), (q_87, .inl (cI, 8, .inl (cn 0))), (q_88, .inl (cI, 8, .inl (cn 0))), (q_85, .inr (8, [.ref q_86, .int 105, .int 0, .int (-1), .int 0, .int 0, .int 0])), (q_89, .inr (11, [.int (-1), .int 0, .int 0, .int 0, .int 0, .int 0]))]) [0, 1, 2, 3, 7, 4, 5, 6, 8, 9, 12, 13, 14, 10, 11, 15, 16, 17, 18, 19, 22, 23, 24, 20, 21, 26, 27, 28, 25, 29, 30, 31, 32, 36, 33, 34, 35, 37, 38, 41, 42, 43, 39, 40, 44, 45, 46, 47, 48, 51, 52, 53, 49, 50, 55, 56, 57, 54, 58, 59, 60, 61, 65, 62, 63, 64, 66, 67, 70, 71, 72, 68, 69, 73, 74, 75, 76, 77, 80, 81, 82, 78, 79, 84, 85, 86, 83, 87] rfl
  have hDc := hD.sub (ws' := [(q_1, .inr (12, [.ref q_3, .ref q_32, .ref q_61])), (q_3, .inr (4, [.ref q_4, .ref q_10, .ref q_18, .ref q_21, .ref q_27, .ref q_31, .int 0, .int 0, .long 0])), (q_4, .inr (5, [.ref q_5, .ref q_9, .ref q_6, .ref q_7, .ref q_8, .int 15])), (q_5, .inl (cI, 4, .inl (cn 0))), (q_9, .inl (cI, 4, .inl (cn 1))), (q_6, .inl (cI, 4, .inl (cn 0))), (q_7, .inl (cI, 4, .inl (cn 0))), (q_8, .inl (cI, 4, .inl (cn 0))), (q_10, .inr (10, [.ref q_11, .ref q_14, .ref q_15, .ref q_16, .ref q_12, .ref q_13, .ref q_17, .int 0, .int 0])), (q_11, .inl (cI, 4, .inl (cn 0))), (q_14, .inl (cI, 4, .inl (cn 10))), (q_15, .inl (cI, 4, .inl (cn 10))), (q_16, .inl (cI, 4, .inl (cn (-1)))), (q_12, .inl (cI, 4, .inl (cn 0))), (q_13, .inl (cI, 4, .inl (cn 0))), (q_17, .inl (cI, 4, .inl (cn 110))), (q_18, .inr (7, [.ref q_19, .ref q_20, .int 0, .int 0])), (q_19, .inl (cI, 200, .inl (cn 0))), (q_20, .inl (cI, 200, .inl (cn 0))), (q_21, .inr (6, [.ref q_24, .ref q_25, .ref q_26, .ref q_22, .ref q_23, .int 0, .int 0])), (q_24, .inl (cI, 8, .inl (cn 7))), (q_25, .inl (cI, 8, .inl (cn 1))), (q_26, .inl (cI, 8, .inl (cn 110))), (q_22, .inl (cI, 8, .inl (cn 0))), (q_23, .inl (cI, 8, .inl (cn 0))), (q_28, .inr (9, [.ref q_29, .ref q_30, .int 0])), (q_29, .inl (cI, 8, .inl (cn 0))), (q_30, .inl (cI, 8, .inl (cn 0))), (q_27, .inr (8, [.ref q_28, .int 105, .int 0, .int (-1), .int 0, .int 0, .int 0])), (q_31, .inr (11, [.int (-1), .int 0, .int 0, .int 0, .int 0, .int 0])), (q_32, .inr (4, [.ref q_33, .ref q_39, .ref q_47, .ref q_50, .ref q_56, .ref q_60, .int 0, .int 0, .long 0])), (q_33, .inr (5, [.ref q_34, .ref q_38, .ref q_35, .ref q_36, .ref q_37, .int 15])), (q_34, .inl (cI, 4, .inl (cn 0))), (q_38, .inl (cI, 4, .inl (cn 1))), (q_35, .inl (cI, 4, .inl (cn 0))), (q_36, .inl (cI, 4, .inl (cn 0))), (q_37, .inl (cI, 4, .inl (cn 0))), (q_39, .inr (10, [.ref q_40, .ref q_43, .ref q_44, .ref q_45, .ref q_41, .ref q_42, .ref q_46, .int 0, .int 0])), (q_40, .inl (cI, 4, .inl (cn 0))), (q_43, .inl (cI, 4, .inl (cn 10))), (q_44, .inl (cI, 4, .inl (cn 10))), (q_45, .inl (cI, 4, .inl (cn (-1)))), (q_41, .inl (cI, 4, .inl (cn 0))), (q_42, .inl (cI, 4, .inl (cn 0))), (q_46, .inl (cI, 4, .inl (cn 110))), (q_47, .inr (7, [.ref q_48, .ref q_49, .int 0, .int 0])), (q_48, .inl (cI, 200, .inl (cn 0))), (q_49, .inl (cI, 200, .inl (cn 0))), (q_50, .inr (6, [.ref q_53, .ref q_54, .ref q_55, .ref q_51, .ref q_52, .int 0, .int 0])), (q_53, .inl (cI, 8, .inl (cn 7))), (q_54, .inl (cI, 8, .inl (cn 1))), (q_55, .inl (cI, 8, .inl (cn 110))), (q_51, .inl (cI, 8, .inl (cn 0))), (q_52, .inl (cI, 8, .inl (cn 0))), (q_57, .inr (9, [.ref q_58, .ref q_59, .int 0])), (q_58, .inl (cI, 8, .inl (cn 0))), (q_59, .inl (cI, 8, .inl (cn 0))), (q_56, .inr (8, [.ref q_57, .int 105, .int 0, .int (-1), .int 0, .int 0, .int 0])), (q_60, .inr (11, [.int (-1), .int 0, .int 0, .int 0, .int 0, .int 0])), (q_61, .inr (4, [.ref q_62, .ref q_68, .ref q_76, .ref q_79, .ref q_85, .ref q_89, .int 0, .int 0, .long 0])), (q_62, .inr (5, [.ref q_63, .ref q_67, .ref q_64, .ref q_65, .ref q_66, .int 15])), (q_63, .inl (cI, 4, .inl (cn 0))), (q_67, .inl (cI, 4, .inl (cn 1))), (q_64, .inl (cI, 4, .inl (cn 0))), (q_65, .inl (cI, 4, .inl (cn 0))), (q_66, .inl (cI, 4, .inl (cn 0))), (q_68, .inr (10, [.ref q_69, .ref q_72, .ref q_73, .ref q_74, .ref q_70, .ref q_71, .ref q_75, .int 0, .int 0])), (q_69, .inl (cI, 4, .inl (cn 0))), (q_72, .inl (cI, 4, .inl (cn 10))), (q_73, .inl (cI, 4, .inl (cn 10))), (q_74, .inl (cI, 4, .inl (cn (-1)))), (q_70, .inl (cI, 4, .inl (cn 0))), (q_71, .inl (cI, 4, .inl (cn 0))), (q_75, .inl (cI, 4, .inl (cn 110))), (q_76, .inr (7, [.ref q_77, .ref q_78, .int 0, .int 0])), (q_77, .inl (cI, 200, .inl (cn 0))), (q_78, .inl (cI, 200, .inl (cn 0))), (q_79, .inr (6, [.ref q_82, .ref q_83, .ref q_84, .ref q_80, .ref q_81, .int 0, .int 0])), (q_82, .inl (cI, 8, .inl (cn 7))), (q_83, .inl (cI, 8, .inl (cn 1))), (q_84, .inl (cI, 8, .inl (cn 110))), (q_80, .inl (cI, 8, .inl (cn 0))), (q_81, .inl (cI, 8, .inl (cn 0))), (q_86, .inr (9, [.ref q_87, .ref q_88, .int 0])), (q_87, .inl (cI, 8, .inl (cn 0))), (q_88, .inl (cI, 8, .inl (cn 0))), (q_85, .inr (8, [.ref q_86, .int 105, .int 0, .int (-1), .int 0, .int 0, .int 0])), (q_89, .inr (11, [.int (-1), .int 0, .int 0, .int 0, .int 0, .int 0]))]) [0, 1, 2, 3, 7, 4, 5, 6, 8, 9, 12, 13, 14, 10, 11, 15, 16, 17, 18, 19, 22, 23, 24, 20, 21, 26, 27, 28, 25, 29, 30, 31, 32, 36, 33, 34, 35, 37, 38, 41, 42, 43, 39, 40, 44, 45, 46, 47, 48, 51, 52, 53, 49, 50, 55, 56, 57, 54, 58, 59, 60, 61, 65, 62, 63, 64, 66, 67, 70, 71, 72, 68, 69, 73, 74, 75, 76, 77, 80, 81, 82, 78, 79, 84, 85, 86, 83, 87] (by decide) rfl
  have hKc := hK.sub (tys' := [(cI, .int)]) [0] rfl
  have hFc := va_free (wc := [(q_1, .inr (12, [.ref q_3, .ref q_32, .ref q_61])), (q_3, .inr (4, [.ref q_4, .ref q_10, .ref q_18, .ref q_21, .ref q_27, .ref q_31, .int 0, .int 0, .long 0])), (q_4, .inr (5, [.ref q_5, .ref q_9, .ref q_6, .ref q_7, .ref q_8, .int 15])), (q_5, .inl (cI, 4, .inl (cn 0))), (q_9, .inl (cI, 4, .inl (cn 1))), (q_6, .inl (cI, 4, .inl (cn 0))), (q_7, .inl (cI, 4, .inl (cn 0))), (q_8, .inl (cI, 4, .inl (cn 0))), (q_10, .inr (10, [.ref q_11, .ref q_14, .ref q_15, .ref q_16, .ref q_12, .ref q_13, .ref q_17, .int 0, .int 0])), (q_11, .inl (cI, 4, .inl (cn 0))), (q_14, .inl (cI, 4, .inl (cn 10))), (q_15, .inl (cI, 4, .inl (cn 10))), (q_16, .inl (cI, 4, .inl (cn (-1)))), (q_12, .inl (cI, 4, .inl (cn 0))), (q_13, .inl (cI, 4, .inl (cn 0))), (q_17, .inl (cI, 4, .inl (cn 110))), (q_18, .inr (7, [.ref q_19, .ref q_20, .int 0, .int 0])), (q_19, .inl (cI, 200, .inl (cn 0))), (q_20, .inl (cI, 200, .inl (cn 0))), (q_21, .inr (6, [.ref q_24, .ref q_25, .ref q_26, .ref q_22, .ref q_23, .int 0, .int 0])), (q_24, .inl (cI, 8, .inl (cn 7))), (q_25, .inl (cI, 8, .inl (cn 1))), (q_26, .inl (cI, 8, .inl (cn 110))), (q_22, .inl (cI, 8, .inl (cn 0))), (q_23, .inl (cI, 8, .inl (cn 0))), (q_28, .inr (9, [.ref q_29, .ref q_30, .int 0])), (q_29, .inl (cI, 8, .inl (cn 0))), (q_30, .inl (cI, 8, .inl (cn 0))), (q_27, .inr (8, [.ref q_28, .int 105, .int 0, .int (-1), .int 0, .int 0, .int 0])), (q_31, .inr (11, [.int (-1), .int 0, .int 0, .int 0, .int 0, .int 0])), (q_32, .inr (4, [.ref q_33, .ref q_39, .ref q_47, .ref q_50, .ref q_56, .ref q_60, .int 0, .int 0, .long 0])), (q_33, .inr (5, [.ref q_34, .ref q_38, .ref q_35, .ref q_36, .ref q_37, .int 15])), (q_34, .inl (cI, 4, .inl (cn 0))), (q_38, .inl (cI, 4, .inl (cn 1))), (q_35, .inl (cI, 4, .inl (cn 0))), (q_36, .inl (cI, 4, .inl (cn 0))), (q_37, .inl (cI, 4, .inl (cn 0))), (q_39, .inr (10, [.ref q_40, .ref q_43, .ref q_44, .ref q_45, .ref q_41, .ref q_42, .ref q_46, .int 0, .int 0])), (q_40, .inl (cI, 4, .inl (cn 0))), (q_43, .inl (cI, 4, .inl (cn 10))), (q_44, .inl (cI, 4, .inl (cn 10))), (q_45, .inl (cI, 4, .inl (cn (-1)))), (q_41, .inl (cI, 4, .inl (cn 0))), (q_42, .inl (cI, 4, .inl (cn 0))), (q_46, .inl (cI, 4, .inl (cn 110))), (q_47, .inr (7, [.ref q_48, .ref q_49, .int 0, .int 0])), (q_48, .inl (cI, 200, .inl (cn 0))), (q_49, .inl (cI, 200, .inl (cn 0))), (q_50, .inr (6, [.ref q_53, .ref q_54, .ref q_55, .ref q_51, .ref q_52, .int 0, .int 0])), (q_53, .inl (cI, 8, .inl (cn 7))), (q_54, .inl (cI, 8, .inl (cn 1))), (q_55, .inl (cI, 8, .inl (cn 110))), (q_51, .inl (cI, 8, .inl (cn 0))), (q_52, .inl (cI, 8, .inl (cn 0))), (q_57, .inr (9, [.ref q_58, .ref q_59, .int 0])), (q_58, .inl (cI, 8, .inl (cn 0))), (q_59, .inl (cI, 8, .inl (cn 0))), (q_56, .inr (8, [.ref q_57, .int 105, .int 0, .int (-1), .int 0, .int 0, .int 0])), (q_60, .inr (11, [.int (-1), .int 0, .int 0, .int 0, .int 0, .int 0])), (q_61, .inr (4, [.ref q_62, .ref q_68, .ref q_76, .ref q_79, .ref q_85, .ref q_89, .int 0, .int 0, .long 0])), (q_62, .inr (5, [.ref q_63, .ref q_67, .ref q_64, .ref q_65, .ref q_66, .int 15])), (q_63, .inl (cI, 4, .inl (cn 0))), (q_67, .inl (cI, 4, .inl (cn 1))), (q_64, .inl (cI, 4, .inl (cn 0))), (q_65, .inl (cI, 4, .inl (cn 0))), (q_66, .inl (cI, 4, .inl (cn 0))), (q_68, .inr (10, [.ref q_69, .ref q_72, .ref q_73, .ref q_74, .ref q_70, .ref q_71, .ref q_75, .int 0, .int 0])), (q_69, .inl (cI, 4, .inl (cn 0))), (q_72, .inl (cI, 4, .inl (cn 10))), (q_73, .inl (cI, 4, .inl (cn 10))), (q_74, .inl (cI, 4, .inl (cn (-1)))), (q_70, .inl (cI, 4, .inl (cn 0))), (q_71, .inl (cI, 4, .inl (cn 0))), (q_75, .inl (cI, 4, .inl (cn 110))), (q_76, .inr (7, [.ref q_77, .ref q_78, .int 0, .int 0])), (q_77, .inl (cI, 200, .inl (cn 0))), (q_78, .inl (cI, 200, .inl (cn 0))), (q_79, .inr (6, [.ref q_82, .ref q_83, .ref q_84, .ref q_80, .ref q_81, .int 0, .int 0])), (q_82, .inl (cI, 8, .inl (cn 7))), (q_83, .inl (cI, 8, .inl (cn 1))), (q_84, .inl (cI, 8, .inl (cn 110))), (q_80, .inl (cI, 8, .inl (cn 0))), (q_81, .inl (cI, 8, .inl (cn 0))), (q_86, .inr (9, [.ref q_87, .ref q_88, .int 0])), (q_87, .inl (cI, 8, .inl (cn 0))), (q_88, .inl (cI, 8, .inl (cn 0))), (q_85, .inr (8, [.ref q_86, .int 105, .int 0, .int (-1), .int 0, .int 0, .int 0])), (q_89, .inr (11, [.int (-1), .int 0, .int 0, .int 0, .int 0, .int 0]))]) hD hS hA [0, 1, 2, 3, 7, 4, 5, 6, 8, 9, 12, 13, 14, 10, 11, 15, 16, 17, 18, 19, 22, 23, 24, 20, 21, 26, 27, 28, 25, 29, 30, 31, 32, 36, 33, 34, 35, 37, 38, 41, 42, 43, 39, 40, 44, 45, 46, 47, 48, 51, 52, 53, 49, 50, 55, 56, 57, 54, 58, 59, 60, 61, 65, 62, 63, 64, 66, 67, 70, 71, 72, 68, 69, 73, 74, 75, 76, 77, 80, 81, 82, 78, 79, 84, 85, 86, 83, 87] rfl
  refine va_calli (va_runV (As := []) (rest := []) ⟨hx, hb, hml, hown, hts⟩ (c_X8_isConsistent l dC dI g q_1 q_3 q_4 q_5 q_9 q_6 q_7 q_8 q_10 q_11 q_14 q_15 q_16 q_12 q_13 q_17 q_18 q_19 q_20 q_21 q_24 q_25 q_26 q_22 q_23 q_28 q_29 q_30 q_27 q_31 q_32 q_33 q_34 q_38 q_35 q_36 q_37 q_39 q_40 q_43 q_44 q_45 q_41 q_42 q_46 q_47 q_48 q_49 q_50 q_53 q_54 q_55 q_51 q_52 q_57 q_58 q_59 q_56 q_60 q_61 q_62 q_63 q_67 q_64 q_65 q_66 q_68 q_69 q_72 q_73 q_74 q_70 q_71 q_75 q_76 q_77 q_78 q_79 q_82 q_83 q_84 q_80 q_81 q_86 q_87 q_88 q_85 q_89 cI H.size) (cwV 0 hts gL_law_X8_isConsistent rfl rfl rfl (by decide +kernel) ⟨Nat.le_of_ble_eq_true rfl, Nat.le_of_ble_eq_true rfl⟩) ⟨wIn_blind, va_recv hK hP (ci := 12) (q0 := 0) rfl rfl, wIn_at hPc hKc hDc hG hS hFc⟩ rfl rfl hl.1 rfl (lv_room (Nat.le_of_ble_eq_true rfl)) dL_law_1964 ⟨Nat.le_of_ble_eq_true rfl, Nat.le_of_ble_eq_true rfl⟩) hS (fun q _ h => hFc q h) hFc (fun r_120 u t H1 locs ht hvm hw hB hz1 hk1 hS => ?_)
  obtain ⟨hP1, hK1, hD1⟩ := hB
  rw [ht] at hP1
  obtain ⟨hP, hD⟩ := va_join (wr := [(q_90, .inr (16, [.ref q_97, .ref q_103, .ref q_113, .ref q_92, .ref q_93, .int 0, .int 0, .int 0, .int 105, .int 0, .int 0, .int 0, .int (-1), .int 0, .int 0, .int 0, .int 0, .int 0, .int 0, .int 0, .long 0, .int 0, .int 0]))]) (w1 := []) hP hD [0, 1, 2, 3, 7, 4, 5, 6, 8, 9, 12, 13, 14, 10, 11, 15, 16, 17, 18, 19, 22, 23, 24, 20, 21, 26, 27, 28, 25, 29, 30, 31, 32, 36, 33, 34, 35, 37, 38, 41, 42, 43, 39, 40, 44, 45, 46, 47, 48, 51, 52, 53, 49, 50, 55, 56, 57, 54, 58, 59, 60, 61, 65, 62, 63, 64, 66, 67, 70, 71, 72, 68, 69, 73, 74, 75, 76, 77, 80, 81, 82, 78, 79, 84, 85, 86, 83, 87] [88] rfl rfl (by decide) (by decide) hk1 hFc hP1 hD1
  generalize H1 = H at hP hS ⊢
  have hP : va_P (dC, dI) vwCl [(q_90, .inr (16, [.ref q_97, .ref q_103, .ref q_113, .ref q_92, .ref q_93, .int 0, .int 0, .int 0, .int 105, .int 0, .int 0, .int 0, .int (-1), .int 0, .int 0, .int 0, .int 0, .int 0, .int 0, .int 0, .long 0, .int 0, .int 0]))] H := hP
  have hD : va_D A [(q_90, .inr (16, [.ref q_97, .ref q_103, .ref q_113, .ref q_92, .ref q_93, .int 0, .int 0, .int 0, .int 105, .int 0, .int 0, .int 0, .int (-1), .int 0, .int 0, .int 0, .int 0, .int 0, .int 0, .int 0, .long 0, .int 0, .int 0]))] := hD
  refine lt_ci (y := 1) hw ?_
  refine lv_aload_n hx hb dL_law_1967 rfl (lv_at hl 3 rfl) ?_
  have hPc := hP.sub (ws' := [(q_90, .inr (16, [.ref q_97, .ref q_103, .ref q_113, .ref q_92, .ref q_93, .int 0, .int 0, .int 0, .int 105, .int 0, .int 0, .int 0, .int (-1), .int 0, .int 0, .int 0, .int 0, .int 0, .int 0, .int 0, .long 0, .int 0, .int 0]))]) [0] rfl
  have hDc := hD.sub (ws' := [(q_90, .inr (16, [.ref q_97, .ref q_103, .ref q_113, .ref q_92, .ref q_93, .int 0, .int 0, .int 0, .int 105, .int 0, .int 0, .int 0, .int (-1), .int 0, .int 0, .int 0, .int 0, .int 0, .int 0, .int 0, .long 0, .int 0, .int 0]))]) [0] (by decide) rfl
  have hKc := hK.sub (tys' := [(cI, .int), (cZ, .boolean), (cO, .object "java/lang/Object")]) [0, 1, 2] rfl
  have hFc := va_free (wc := [(q_90, .inr (16, [.ref q_97, .ref q_103, .ref q_113, .ref q_92, .ref q_93, .int 0, .int 0, .int 0, .int 105, .int 0, .int 0, .int 0, .int (-1), .int 0, .int 0, .int 0, .int 0, .int 0, .int 0, .int 0, .long 0, .int 0, .int 0]))]) hD hS hA [0] rfl
  refine va_calli (va_runV (As := []) (rest := [.int 1]) ⟨hx, hb, hml, hown, hts⟩ (c_X12_isConsistent l dC dI g q_90 q_92 q_93 q_97 q_103 q_113 cI cZ cO 0 H.size) (cwV 0 hts gL_law_X12_isConsistent rfl rfl rfl (by decide +kernel) ⟨Nat.le_of_ble_eq_true rfl, Nat.le_of_ble_eq_true rfl⟩) ⟨wIn_blind, va_recv hK hP (ci := 16) (q0 := 0) rfl rfl, wIn_at hPc hKc hDc hG hS hFc⟩ rfl rfl hl.1 rfl (lv_room (Nat.le_of_ble_eq_true rfl)) dL_law_1968 ⟨Nat.le_of_ble_eq_true rfl, Nat.le_of_ble_eq_true rfl⟩) hS (fun q _ h => hFc q h) hFc (fun r_121 u t H1 locs ht hvm hw hB hz1 hk1 hS => ?_)
  obtain ⟨v_122, rfl⟩ : ∃ z, z = u := ⟨_, rfl⟩
  have hw : v_122 = mp_X12_isConsistent ∧ (mp_X12_isConsistent = 0 → r_121 = 1) := hw
  obtain ⟨hm9, hv_123⟩ := hw
  have hm9 := hm9.trans ((kc_mp_X12_isConsistent))
  subst hm9
  obtain ⟨hP1, hK1, hD1⟩ := hB
  rw [ht] at hP1
  obtain ⟨hP, hD⟩ := va_join (wr := []) (w1 := [(q_90, .inr (16, [.ref q_97, .ref q_103, .ref q_113, .ref q_92, .ref q_93, .int 0, .int 0, .int 0, .int 105, .int 0, .int 0, .int 0, .int (-1), .int 0, .int 0, .int 0, .int 0, .int 0, .int 0, .int 0, .long 0, .int 0, .int 0]))]) hP hD [0] [] rfl rfl (by decide) (by decide) hk1 hFc hP1 hD1
  generalize H1 = H at hP hS ⊢
  have hP : va_P (dC, dI) vwCl [(q_90, .inr (16, [.ref q_97, .ref q_103, .ref q_113, .ref q_92, .ref q_93, .int 0, .int 0, .int 0, .int 105, .int 0, .int 0, .int 0, .int (-1), .int 0, .int 0, .int 0, .int 0, .int 0, .int 0, .int 0, .long 0, .int 0, .int 0]))] H := hP
  have hD : va_D A [(q_90, .inr (16, [.ref q_97, .ref q_103, .ref q_113, .ref q_92, .ref q_93, .int 0, .int 0, .int 0, .int 105, .int 0, .int 0, .int 0, .int (-1), .int 0, .int 0, .int 0, .int 0, .int 0, .int 0, .int 0, .long 0, .int 0, .int 0]))] := hD
  refine lt_ci (y := 1) (hv_123 (kc_mp_X12_isConsistent)) ?_
  refine lv_icmp_eq (tgt := 1976) hx hb dL_law_1971 (by decide) (fun _ => ?_) (fun c => absurd (by decide) c)
  refine lv_iinc (v := 6) (lv' := [(5, .int 6), (4, .ref q_118), (3, .ref q_116), (2, .ref q_90), (1, .ref q_1), (0, .ref b)]) hx hb dL_law_1976 hl (k := 0) rfl (by first | rfl | decide) (by decide) rfl (fun ls hl => ?_)
  refine lv_goto (tgt := 28) hx hb dL_law_1979 (by decide) ?_
  refine lv_iload hx hb dL_law_28 (lv_at hl 0 rfl) ?_
  refine lv_aload_n hx hb dL_law_30 rfl (lv_at hl 5 rfl) ?_
  refine va_slen hx hb hX hbl hbA hS dL_law_31 ?_
  refine lt_ci (y := 6) rfl ?_
  refine lv_bipush (v := 6) hx hb dL_law_32 (by decide) ?_
  refine lv_isub hx hb dL_law_34 ?_
  refine lt_ci (y := 0) (by first | rfl | decide) ?_
  refine lv_icmp_gt (tgt := 1982) hx hb dL_law_35 (by decide) (fun _ => ?_) (fun c => absurd (by decide) c)
  refine lv_iconst (v := 1) hx hb dL_law_1982 (by decide) ?_
  refine W.widen (k := 735603) (n := 6895256) (Nat.le_of_ble_eq_true rfl) (Nat.le_of_ble_eq_true rfl) ?_
  refine va_forget (fun q hq => by have h9 := hS.2.2 q hq; rw [hAe] at h9; exact h9) ?_
  exact W.base (lw_ret (Drawn.sameBut.refl s.drawn lw_cs) hx hb hr hlocks dL_law_1983)
set_option maxHeartbeats 8000000 in
set_option maxRecDepth 100000 in
theorem c_L_law_else {p : Program} {e : Env} {s : State} {m : MethodId} {below : List Frame} {meth : Method} {c : Code} (l : Launch) (hl9 : l.stackTraces = false) (dC : Nat → ClassId) (dI : Nat → Nat → Nat) (g : Nat × Nat × Nat) (b : Nat) (xs : Nat → Int32) (cI cZ cO : ClassId) (hx : p.tables.exec = Jvm.exec) (hb : c.code = cL_law) (hr : meth.sig.returnType = ret) (hml : c.maxLocals = 9) (hown : s.vm.findClass RL = some m.cls) (hts : ∀ w ∈ wsL_law, w.before #[Value.ref b] s = true) (hX : va_X b 6 xs s s.heap) (hbl : b < s.heap.size) (hlocks : meth.locks = false) (hG : gx g (fun q => s.heap.size ≤ q) s s.heap) (hk : (xs 0 &&& 63).toInt < 0 ∨ 34 < (xs 0 &&& 63).toInt) (cA_117 : ClassId) (cA_119 : ClassId) (q_1 : Nat) (q_90 : Nat) (q_116 : Nat) (q_118 : Nat) (H : Heap) (locs : List Loc) (ls : Array Slot) (hK : va_K (dC, dI) vwCl [(cI, .int), (cZ, .boolean), (cO, .object "java/lang/Object"), (cA_117, .long), (cA_119, .double)] s) (hP : va_P (dC, dI) vwCl [] H) (hD : va_D (fun q => s.heap.size ≤ q) []) (hS : va_S (fun q => s.heap.size ≤ q) s.heap H locs) (hl : lv_has ls 9 [(5, .int 0), (4, .ref q_118), (3, .ref q_116), (2, .ref q_90), (1, .ref q_1), (0, .ref b)]) : W p l e room_1 s m #[Value.ref b] below meth c H locs 115 1854 (lw_Z below #[Value.ref b] s) (F0 m 28 ls []) := by
  have hN := hG.1
  obtain ⟨A, hAe⟩ : ∃ A : Nat → Prop, A = (fun q => s.heap.size ≤ q) := ⟨_, rfl⟩
  rw [← hAe] at hG hD hS
  have hA : ∀ q : Nat, s.heap.size ≤ q → A q := fun q h => by rw [hAe]; exact h
  have hbA : ¬ A b := by rw [hAe]; exact Nat.not_le.mpr hbl
  refine lv_iload hx hb dL_law_28 (lv_at hl 0 rfl) ?_
  refine lv_aload_n hx hb dL_law_30 rfl (lv_at hl 5 rfl) ?_
  refine va_slen hx hb hX hbl hbA hS dL_law_31 ?_
  refine lt_ci (y := 6) rfl ?_
  refine lv_bipush (v := 6) hx hb dL_law_32 (by decide) ?_
  refine lv_isub hx hb dL_law_34 ?_
  refine lt_ci (y := 0) (by first | rfl | decide) ?_
  refine lv_icmp_gt (tgt := 1982) hx hb dL_law_35 (by decide) (fun c => absurd c (by decide)) (fun _ => ?_)
  refine lv_aload_n hx hb dL_law_38 rfl (lv_at hl 5 rfl) ?_
  refine lv_iload hx hb dL_law_39 (lv_at hl 0 rfl) ?_
  refine va_sld hx hb hX hbl hbA hS (by unfold vp_in; decide) dL_law_41 ?_
  refine lt_ci (y := (xs 0)) rfl ?_
  refine lv_bipush (v := 63) hx hb dL_law_42 (by decide) ?_
  refine lv_iand hx hb dL_law_44 ?_
  refine lv_tableOut (tgt := 1976) hx hb dL_law_45 hk (by decide) ?_
  refine lv_iinc (v := 6) (lv' := [(5, .int 6), (4, .ref q_118), (3, .ref q_116), (2, .ref q_90), (1, .ref q_1), (0, .ref b)]) hx hb dL_law_1976 hl (k := 0) rfl (by first | rfl | decide) (by decide) rfl (fun ls hl => ?_)
  refine lv_goto (tgt := 28) hx hb dL_law_1979 (by decide) ?_
  refine lv_iload hx hb dL_law_28 (lv_at hl 0 rfl) ?_
  refine lv_aload_n hx hb dL_law_30 rfl (lv_at hl 5 rfl) ?_
  refine va_slen hx hb hX hbl hbA hS dL_law_31 ?_
  refine lt_ci (y := 6) rfl ?_
  refine lv_bipush (v := 6) hx hb dL_law_32 (by decide) ?_
  refine lv_isub hx hb dL_law_34 ?_
  refine lt_ci (y := 0) (by first | rfl | decide) ?_
  refine lv_icmp_gt (tgt := 1982) hx hb dL_law_35 (by decide) (fun _ => ?_) (fun c => absurd (by decide) c)
  refine lv_iconst (v := 1) hx hb dL_law_1982 (by decide) ?_
  refine W.widen (k := 735603) (n := 6895256) (Nat.le_of_ble_eq_true rfl) (Nat.le_of_ble_eq_true rfl) ?_
  refine va_forget (fun q hq => by have h9 := hS.2.2 q hq; rw [hAe] at h9; exact h9) ?_
  exact W.base (lw_ret (Drawn.sameBut.refl s.drawn lw_cs) hx hb hr hlocks dL_law_1983)
set_option maxHeartbeats 8000000 in
set_option maxRecDepth 100000 in
theorem c_L_law_short0 {p : Program} {e : Env} {s : State} {m : MethodId} {below : List Frame} {meth : Method} {c : Code} (l : Launch) (hl9 : l.stackTraces = false) (dC : Nat → ClassId) (dI : Nat → Nat → Nat) (g : Nat × Nat × Nat) (b : Nat) (xs : Nat → Int32) (cI cZ cO : ClassId) (hx : p.tables.exec = Jvm.exec) (hb : c.code = cL_law) (hr : meth.sig.returnType = ret) (hml : c.maxLocals = 9) (hown : s.vm.findClass RL = some m.cls) (hts : ∀ w ∈ wsL_law, w.before #[Value.ref b] s = true) (hX : va_X b 0 xs s s.heap) (hbl : b < s.heap.size) (hlocks : meth.locks = false) (hG : gx g (fun q => s.heap.size ≤ q) s s.heap) (cA_117 : ClassId) (cA_119 : ClassId) (q_1 : Nat) (q_90 : Nat) (q_116 : Nat) (q_118 : Nat) (H : Heap) (locs : List Loc) (ls : Array Slot) (hK : va_K (dC, dI) vwCl [(cI, .int), (cZ, .boolean), (cO, .object "java/lang/Object"), (cA_117, .long), (cA_119, .double)] s) (hP : va_P (dC, dI) vwCl [] H) (hD : va_D (fun q => s.heap.size ≤ q) []) (hS : va_S (fun q => s.heap.size ≤ q) s.heap H locs) (hl : lv_has ls 9 [(5, .int 0), (4, .ref q_118), (3, .ref q_116), (2, .ref q_90), (1, .ref q_1), (0, .ref b)]) : W p l e room_1 s m #[Value.ref b] below meth c H locs 115 1854 (lw_Z below #[Value.ref b] s) (F0 m 28 ls []) := by
  have hN := hG.1
  obtain ⟨A, hAe⟩ : ∃ A : Nat → Prop, A = (fun q => s.heap.size ≤ q) := ⟨_, rfl⟩
  rw [← hAe] at hG hD hS
  have hA : ∀ q : Nat, s.heap.size ≤ q → A q := fun q h => by rw [hAe]; exact h
  have hbA : ¬ A b := by rw [hAe]; exact Nat.not_le.mpr hbl
  refine lv_iload hx hb dL_law_28 (lv_at hl 0 rfl) ?_
  refine lv_aload_n hx hb dL_law_30 rfl (lv_at hl 5 rfl) ?_
  refine va_slen hx hb hX hbl hbA hS dL_law_31 ?_
  refine lt_ci (y := 0) rfl ?_
  refine lv_bipush (v := 6) hx hb dL_law_32 (by decide) ?_
  refine lv_isub hx hb dL_law_34 ?_
  refine lt_ci (y := (-6)) (by first | rfl | decide) ?_
  refine lv_icmp_gt (tgt := 1982) hx hb dL_law_35 (by decide) (fun _ => ?_) (fun c => absurd (by decide) c)
  refine lv_iconst (v := 1) hx hb dL_law_1982 (by decide) ?_
  refine W.widen (k := 735603) (n := 6895256) (Nat.le_of_ble_eq_true rfl) (Nat.le_of_ble_eq_true rfl) ?_
  refine va_forget (fun q hq => by have h9 := hS.2.2 q hq; rw [hAe] at h9; exact h9) ?_
  exact W.base (lw_ret (Drawn.sameBut.refl s.drawn lw_cs) hx hb hr hlocks dL_law_1983)
set_option maxHeartbeats 8000000 in
set_option maxRecDepth 100000 in
theorem c_L_law_short1 {p : Program} {e : Env} {s : State} {m : MethodId} {below : List Frame} {meth : Method} {c : Code} (l : Launch) (hl9 : l.stackTraces = false) (dC : Nat → ClassId) (dI : Nat → Nat → Nat) (g : Nat × Nat × Nat) (b : Nat) (xs : Nat → Int32) (cI cZ cO : ClassId) (hx : p.tables.exec = Jvm.exec) (hb : c.code = cL_law) (hr : meth.sig.returnType = ret) (hml : c.maxLocals = 9) (hown : s.vm.findClass RL = some m.cls) (hts : ∀ w ∈ wsL_law, w.before #[Value.ref b] s = true) (hX : va_X b 1 xs s s.heap) (hbl : b < s.heap.size) (hlocks : meth.locks = false) (hG : gx g (fun q => s.heap.size ≤ q) s s.heap) (cA_117 : ClassId) (cA_119 : ClassId) (q_1 : Nat) (q_90 : Nat) (q_116 : Nat) (q_118 : Nat) (H : Heap) (locs : List Loc) (ls : Array Slot) (hK : va_K (dC, dI) vwCl [(cI, .int), (cZ, .boolean), (cO, .object "java/lang/Object"), (cA_117, .long), (cA_119, .double)] s) (hP : va_P (dC, dI) vwCl [] H) (hD : va_D (fun q => s.heap.size ≤ q) []) (hS : va_S (fun q => s.heap.size ≤ q) s.heap H locs) (hl : lv_has ls 9 [(5, .int 0), (4, .ref q_118), (3, .ref q_116), (2, .ref q_90), (1, .ref q_1), (0, .ref b)]) : W p l e room_1 s m #[Value.ref b] below meth c H locs 115 1854 (lw_Z below #[Value.ref b] s) (F0 m 28 ls []) := by
  have hN := hG.1
  obtain ⟨A, hAe⟩ : ∃ A : Nat → Prop, A = (fun q => s.heap.size ≤ q) := ⟨_, rfl⟩
  rw [← hAe] at hG hD hS
  have hA : ∀ q : Nat, s.heap.size ≤ q → A q := fun q h => by rw [hAe]; exact h
  have hbA : ¬ A b := by rw [hAe]; exact Nat.not_le.mpr hbl
  refine lv_iload hx hb dL_law_28 (lv_at hl 0 rfl) ?_
  refine lv_aload_n hx hb dL_law_30 rfl (lv_at hl 5 rfl) ?_
  refine va_slen hx hb hX hbl hbA hS dL_law_31 ?_
  refine lt_ci (y := 1) rfl ?_
  refine lv_bipush (v := 6) hx hb dL_law_32 (by decide) ?_
  refine lv_isub hx hb dL_law_34 ?_
  refine lt_ci (y := (-5)) (by first | rfl | decide) ?_
  refine lv_icmp_gt (tgt := 1982) hx hb dL_law_35 (by decide) (fun _ => ?_) (fun c => absurd (by decide) c)
  refine lv_iconst (v := 1) hx hb dL_law_1982 (by decide) ?_
  refine W.widen (k := 735603) (n := 6895256) (Nat.le_of_ble_eq_true rfl) (Nat.le_of_ble_eq_true rfl) ?_
  refine va_forget (fun q hq => by have h9 := hS.2.2 q hq; rw [hAe] at h9; exact h9) ?_
  exact W.base (lw_ret (Drawn.sameBut.refl s.drawn lw_cs) hx hb hr hlocks dL_law_1983)
set_option maxHeartbeats 8000000 in
set_option maxRecDepth 100000 in
theorem c_L_law_short2 {p : Program} {e : Env} {s : State} {m : MethodId} {below : List Frame} {meth : Method} {c : Code} (l : Launch) (hl9 : l.stackTraces = false) (dC : Nat → ClassId) (dI : Nat → Nat → Nat) (g : Nat × Nat × Nat) (b : Nat) (xs : Nat → Int32) (cI cZ cO : ClassId) (hx : p.tables.exec = Jvm.exec) (hb : c.code = cL_law) (hr : meth.sig.returnType = ret) (hml : c.maxLocals = 9) (hown : s.vm.findClass RL = some m.cls) (hts : ∀ w ∈ wsL_law, w.before #[Value.ref b] s = true) (hX : va_X b 2 xs s s.heap) (hbl : b < s.heap.size) (hlocks : meth.locks = false) (hG : gx g (fun q => s.heap.size ≤ q) s s.heap) (cA_117 : ClassId) (cA_119 : ClassId) (q_1 : Nat) (q_90 : Nat) (q_116 : Nat) (q_118 : Nat) (H : Heap) (locs : List Loc) (ls : Array Slot) (hK : va_K (dC, dI) vwCl [(cI, .int), (cZ, .boolean), (cO, .object "java/lang/Object"), (cA_117, .long), (cA_119, .double)] s) (hP : va_P (dC, dI) vwCl [] H) (hD : va_D (fun q => s.heap.size ≤ q) []) (hS : va_S (fun q => s.heap.size ≤ q) s.heap H locs) (hl : lv_has ls 9 [(5, .int 0), (4, .ref q_118), (3, .ref q_116), (2, .ref q_90), (1, .ref q_1), (0, .ref b)]) : W p l e room_1 s m #[Value.ref b] below meth c H locs 115 1854 (lw_Z below #[Value.ref b] s) (F0 m 28 ls []) := by
  have hN := hG.1
  obtain ⟨A, hAe⟩ : ∃ A : Nat → Prop, A = (fun q => s.heap.size ≤ q) := ⟨_, rfl⟩
  rw [← hAe] at hG hD hS
  have hA : ∀ q : Nat, s.heap.size ≤ q → A q := fun q h => by rw [hAe]; exact h
  have hbA : ¬ A b := by rw [hAe]; exact Nat.not_le.mpr hbl
  refine lv_iload hx hb dL_law_28 (lv_at hl 0 rfl) ?_
  refine lv_aload_n hx hb dL_law_30 rfl (lv_at hl 5 rfl) ?_
  refine va_slen hx hb hX hbl hbA hS dL_law_31 ?_
  refine lt_ci (y := 2) rfl ?_
  refine lv_bipush (v := 6) hx hb dL_law_32 (by decide) ?_
  refine lv_isub hx hb dL_law_34 ?_
  refine lt_ci (y := (-4)) (by first | rfl | decide) ?_
  refine lv_icmp_gt (tgt := 1982) hx hb dL_law_35 (by decide) (fun _ => ?_) (fun c => absurd (by decide) c)
  refine lv_iconst (v := 1) hx hb dL_law_1982 (by decide) ?_
  refine W.widen (k := 735603) (n := 6895256) (Nat.le_of_ble_eq_true rfl) (Nat.le_of_ble_eq_true rfl) ?_
  refine va_forget (fun q hq => by have h9 := hS.2.2 q hq; rw [hAe] at h9; exact h9) ?_
  exact W.base (lw_ret (Drawn.sameBut.refl s.drawn lw_cs) hx hb hr hlocks dL_law_1983)
set_option maxHeartbeats 8000000 in
set_option maxRecDepth 100000 in
theorem c_L_law_short3 {p : Program} {e : Env} {s : State} {m : MethodId} {below : List Frame} {meth : Method} {c : Code} (l : Launch) (hl9 : l.stackTraces = false) (dC : Nat → ClassId) (dI : Nat → Nat → Nat) (g : Nat × Nat × Nat) (b : Nat) (xs : Nat → Int32) (cI cZ cO : ClassId) (hx : p.tables.exec = Jvm.exec) (hb : c.code = cL_law) (hr : meth.sig.returnType = ret) (hml : c.maxLocals = 9) (hown : s.vm.findClass RL = some m.cls) (hts : ∀ w ∈ wsL_law, w.before #[Value.ref b] s = true) (hX : va_X b 3 xs s s.heap) (hbl : b < s.heap.size) (hlocks : meth.locks = false) (hG : gx g (fun q => s.heap.size ≤ q) s s.heap) (cA_117 : ClassId) (cA_119 : ClassId) (q_1 : Nat) (q_90 : Nat) (q_116 : Nat) (q_118 : Nat) (H : Heap) (locs : List Loc) (ls : Array Slot) (hK : va_K (dC, dI) vwCl [(cI, .int), (cZ, .boolean), (cO, .object "java/lang/Object"), (cA_117, .long), (cA_119, .double)] s) (hP : va_P (dC, dI) vwCl [] H) (hD : va_D (fun q => s.heap.size ≤ q) []) (hS : va_S (fun q => s.heap.size ≤ q) s.heap H locs) (hl : lv_has ls 9 [(5, .int 0), (4, .ref q_118), (3, .ref q_116), (2, .ref q_90), (1, .ref q_1), (0, .ref b)]) : W p l e room_1 s m #[Value.ref b] below meth c H locs 115 1854 (lw_Z below #[Value.ref b] s) (F0 m 28 ls []) := by
  have hN := hG.1
  obtain ⟨A, hAe⟩ : ∃ A : Nat → Prop, A = (fun q => s.heap.size ≤ q) := ⟨_, rfl⟩
  rw [← hAe] at hG hD hS
  have hA : ∀ q : Nat, s.heap.size ≤ q → A q := fun q h => by rw [hAe]; exact h
  have hbA : ¬ A b := by rw [hAe]; exact Nat.not_le.mpr hbl
  refine lv_iload hx hb dL_law_28 (lv_at hl 0 rfl) ?_
  refine lv_aload_n hx hb dL_law_30 rfl (lv_at hl 5 rfl) ?_
  refine va_slen hx hb hX hbl hbA hS dL_law_31 ?_
  refine lt_ci (y := 3) rfl ?_
  refine lv_bipush (v := 6) hx hb dL_law_32 (by decide) ?_
  refine lv_isub hx hb dL_law_34 ?_
  refine lt_ci (y := (-3)) (by first | rfl | decide) ?_
  refine lv_icmp_gt (tgt := 1982) hx hb dL_law_35 (by decide) (fun _ => ?_) (fun c => absurd (by decide) c)
  refine lv_iconst (v := 1) hx hb dL_law_1982 (by decide) ?_
  refine W.widen (k := 735603) (n := 6895256) (Nat.le_of_ble_eq_true rfl) (Nat.le_of_ble_eq_true rfl) ?_
  refine va_forget (fun q hq => by have h9 := hS.2.2 q hq; rw [hAe] at h9; exact h9) ?_
  exact W.base (lw_ret (Drawn.sameBut.refl s.drawn lw_cs) hx hb hr hlocks dL_law_1983)
set_option maxHeartbeats 8000000 in
set_option maxRecDepth 100000 in
theorem c_L_law_short4 {p : Program} {e : Env} {s : State} {m : MethodId} {below : List Frame} {meth : Method} {c : Code} (l : Launch) (hl9 : l.stackTraces = false) (dC : Nat → ClassId) (dI : Nat → Nat → Nat) (g : Nat × Nat × Nat) (b : Nat) (xs : Nat → Int32) (cI cZ cO : ClassId) (hx : p.tables.exec = Jvm.exec) (hb : c.code = cL_law) (hr : meth.sig.returnType = ret) (hml : c.maxLocals = 9) (hown : s.vm.findClass RL = some m.cls) (hts : ∀ w ∈ wsL_law, w.before #[Value.ref b] s = true) (hX : va_X b 4 xs s s.heap) (hbl : b < s.heap.size) (hlocks : meth.locks = false) (hG : gx g (fun q => s.heap.size ≤ q) s s.heap) (cA_117 : ClassId) (cA_119 : ClassId) (q_1 : Nat) (q_90 : Nat) (q_116 : Nat) (q_118 : Nat) (H : Heap) (locs : List Loc) (ls : Array Slot) (hK : va_K (dC, dI) vwCl [(cI, .int), (cZ, .boolean), (cO, .object "java/lang/Object"), (cA_117, .long), (cA_119, .double)] s) (hP : va_P (dC, dI) vwCl [] H) (hD : va_D (fun q => s.heap.size ≤ q) []) (hS : va_S (fun q => s.heap.size ≤ q) s.heap H locs) (hl : lv_has ls 9 [(5, .int 0), (4, .ref q_118), (3, .ref q_116), (2, .ref q_90), (1, .ref q_1), (0, .ref b)]) : W p l e room_1 s m #[Value.ref b] below meth c H locs 115 1854 (lw_Z below #[Value.ref b] s) (F0 m 28 ls []) := by
  have hN := hG.1
  obtain ⟨A, hAe⟩ : ∃ A : Nat → Prop, A = (fun q => s.heap.size ≤ q) := ⟨_, rfl⟩
  rw [← hAe] at hG hD hS
  have hA : ∀ q : Nat, s.heap.size ≤ q → A q := fun q h => by rw [hAe]; exact h
  have hbA : ¬ A b := by rw [hAe]; exact Nat.not_le.mpr hbl
  refine lv_iload hx hb dL_law_28 (lv_at hl 0 rfl) ?_
  refine lv_aload_n hx hb dL_law_30 rfl (lv_at hl 5 rfl) ?_
  refine va_slen hx hb hX hbl hbA hS dL_law_31 ?_
  refine lt_ci (y := 4) rfl ?_
  refine lv_bipush (v := 6) hx hb dL_law_32 (by decide) ?_
  refine lv_isub hx hb dL_law_34 ?_
  refine lt_ci (y := (-2)) (by first | rfl | decide) ?_
  refine lv_icmp_gt (tgt := 1982) hx hb dL_law_35 (by decide) (fun _ => ?_) (fun c => absurd (by decide) c)
  refine lv_iconst (v := 1) hx hb dL_law_1982 (by decide) ?_
  refine W.widen (k := 735603) (n := 6895256) (Nat.le_of_ble_eq_true rfl) (Nat.le_of_ble_eq_true rfl) ?_
  refine va_forget (fun q hq => by have h9 := hS.2.2 q hq; rw [hAe] at h9; exact h9) ?_
  exact W.base (lw_ret (Drawn.sameBut.refl s.drawn lw_cs) hx hb hr hlocks dL_law_1983)
set_option maxHeartbeats 8000000 in
set_option maxRecDepth 100000 in
theorem c_L_law_short5 {p : Program} {e : Env} {s : State} {m : MethodId} {below : List Frame} {meth : Method} {c : Code} (l : Launch) (hl9 : l.stackTraces = false) (dC : Nat → ClassId) (dI : Nat → Nat → Nat) (g : Nat × Nat × Nat) (b : Nat) (xs : Nat → Int32) (cI cZ cO : ClassId) (hx : p.tables.exec = Jvm.exec) (hb : c.code = cL_law) (hr : meth.sig.returnType = ret) (hml : c.maxLocals = 9) (hown : s.vm.findClass RL = some m.cls) (hts : ∀ w ∈ wsL_law, w.before #[Value.ref b] s = true) (hX : va_X b 5 xs s s.heap) (hbl : b < s.heap.size) (hlocks : meth.locks = false) (hG : gx g (fun q => s.heap.size ≤ q) s s.heap) (cA_117 : ClassId) (cA_119 : ClassId) (q_1 : Nat) (q_90 : Nat) (q_116 : Nat) (q_118 : Nat) (H : Heap) (locs : List Loc) (ls : Array Slot) (hK : va_K (dC, dI) vwCl [(cI, .int), (cZ, .boolean), (cO, .object "java/lang/Object"), (cA_117, .long), (cA_119, .double)] s) (hP : va_P (dC, dI) vwCl [] H) (hD : va_D (fun q => s.heap.size ≤ q) []) (hS : va_S (fun q => s.heap.size ≤ q) s.heap H locs) (hl : lv_has ls 9 [(5, .int 0), (4, .ref q_118), (3, .ref q_116), (2, .ref q_90), (1, .ref q_1), (0, .ref b)]) : W p l e room_1 s m #[Value.ref b] below meth c H locs 115 1854 (lw_Z below #[Value.ref b] s) (F0 m 28 ls []) := by
  have hN := hG.1
  obtain ⟨A, hAe⟩ : ∃ A : Nat → Prop, A = (fun q => s.heap.size ≤ q) := ⟨_, rfl⟩
  rw [← hAe] at hG hD hS
  have hA : ∀ q : Nat, s.heap.size ≤ q → A q := fun q h => by rw [hAe]; exact h
  have hbA : ¬ A b := by rw [hAe]; exact Nat.not_le.mpr hbl
  refine lv_iload hx hb dL_law_28 (lv_at hl 0 rfl) ?_
  refine lv_aload_n hx hb dL_law_30 rfl (lv_at hl 5 rfl) ?_
  refine va_slen hx hb hX hbl hbA hS dL_law_31 ?_
  refine lt_ci (y := 5) rfl ?_
  refine lv_bipush (v := 6) hx hb dL_law_32 (by decide) ?_
  refine lv_isub hx hb dL_law_34 ?_
  refine lt_ci (y := (-1)) (by first | rfl | decide) ?_
  refine lv_icmp_gt (tgt := 1982) hx hb dL_law_35 (by decide) (fun _ => ?_) (fun c => absurd (by decide) c)
  refine lv_iconst (v := 1) hx hb dL_law_1982 (by decide) ?_
  refine W.widen (k := 735603) (n := 6895256) (Nat.le_of_ble_eq_true rfl) (Nat.le_of_ble_eq_true rfl) ?_
  refine va_forget (fun q hq => by have h9 := hS.2.2 q hq; rw [hAe] at h9; exact h9) ?_
  exact W.base (lw_ret (Drawn.sameBut.refl s.drawn lw_cs) hx hb hr hlocks dL_law_1983)

