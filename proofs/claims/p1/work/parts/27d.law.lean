set_option maxHeartbeats 8000000 in
set_option maxRecDepth 100000 in
theorem c_L_law_14 {p : Program} {e : Env} {s : State} {m : MethodId} {below : List Frame} {meth : Method} {c : Code} (l : Launch) (hl9 : l.stackTraces = false) (dC : Nat → ClassId) (dI : Nat → Nat → Nat) (g : Nat × Nat × Nat) (b : Nat) (xs : Nat → Int32) (cI cZ cO : ClassId) (hx : p.tables.exec = Jvm.exec) (hb : c.code = cL_law) (hr : meth.sig.returnType = ret) (hml : c.maxLocals = 9) (hown : s.vm.findClass RL = some m.cls) (hts : ∀ w ∈ wsL_law, w.before #[Value.ref b] s = true) (hX : va_X b 6 xs s s.heap) (hbl : b < s.heap.size) (hlocks : meth.locks = false) (hG : gx g (fun q => s.heap.size ≤ q) s s.heap) (hk : (xs 0 &&& 63) = 14) (cA_117 : ClassId) (cA_119 : ClassId) (q_1 : Nat) (q_3 : Nat) (q_4 : Nat) (q_10 : Nat) (q_18 : Nat) (q_21 : Nat) (q_27 : Nat) (q_31 : Nat) (q_32 : Nat) (q_61 : Nat) (q_90 : Nat) (q_92 : Nat) (q_93 : Nat) (q_97 : Nat) (q_103 : Nat) (q_113 : Nat) (q_116 : Nat) (q_118 : Nat) (H : Heap) (locs : List Loc) (ls : Array Slot) (hK : va_K (dC, dI) vwCl [(cI, .int), (cZ, .boolean), (cO, .object "java/lang/Object"), (cA_117, .long), (cA_119, .double)] s) (hP : va_P (dC, dI) vwCl [(q_1, .inr (12, [.ref q_3, .ref q_32, .ref q_61])), (q_3, .inr (4, [.ref q_4, .ref q_10, .ref q_18, .ref q_21, .ref q_27, .ref q_31, .int 0, .int 0, .long 0])), (q_90, .inr (16, [.ref q_97, .ref q_103, .ref q_113, .ref q_92, .ref q_93, .int 0, .int 0, .int 0, .int 105, .int 0, .int 0, .int 0, .int (-1), .int 0, .int 0, .int 0, .int 0, .int 0, .int 0, .int 0, .long 0, .int 0, .int 0]))] H) (hD : va_D (fun q => s.heap.size ≤ q) [(q_1, .inr (12, [.ref q_3, .ref q_32, .ref q_61])), (q_3, .inr (4, [.ref q_4, .ref q_10, .ref q_18, .ref q_21, .ref q_27, .ref q_31, .int 0, .int 0, .long 0])), (q_90, .inr (16, [.ref q_97, .ref q_103, .ref q_113, .ref q_92, .ref q_93, .int 0, .int 0, .int 0, .int 105, .int 0, .int 0, .int 0, .int (-1), .int 0, .int 0, .int 0, .int 0, .int 0, .int 0, .int 0, .long 0, .int 0, .int 0]))]) (hS : va_S (fun q => s.heap.size ≤ q) s.heap H locs) (hl : lv_has ls 9 [(5, .int 0), (4, .ref q_118), (3, .ref q_116), (2, .ref q_90), (1, .ref q_1), (0, .ref b)]) : W p l e room_1 s m #[Value.ref b] below meth c H locs 115 1854 (lw_Z below #[Value.ref b] s) (F0 m 28 ls []) := by
  have hN := hG.1
  obtain ⟨A, hAe⟩ : ∃ A : Nat → Prop, A = (fun q => s.heap.size ≤ q) := ⟨_, rfl⟩
  rw [← hAe] at hG hD hS
  have hA : ∀ q : Nat, s.heap.size ≤ q → A q := fun q h => by rw [hAe]; exact h
  have hbA : ¬ A b := by rw [hAe]; exact Nat.not_le.mpr hbl
  refine lv_iload hx hb dL_law_28 (lv_at hl 0 rfl) ?_
  refine lv_aload_n hx hb dL_law_30 rfl (lv_at hl 5 rfl) ?_
  refine va_slen hx hb hX hbl hbA hS dL_law_31 ?_
  refine lt_ci (y := 6) rfl ?_
  refine lv_bipush (v := 6) hx hb dL_law_32 (by decide) ?_
  refine lv_isub hx hb dL_law_34 ?_
  refine lt_ci (y := 0) (by first | rfl | decide) ?_
  refine lv_icmp_gt (tgt := 1982) hx hb dL_law_35 (by decide) (fun c => absurd c (by decide)) (fun _ => ?_)
  refine lv_aload_n hx hb dL_law_38 rfl (lv_at hl 5 rfl) ?_
  refine lv_iload hx hb dL_law_39 (lv_at hl 0 rfl) ?_
  refine va_sld hx hb hX hbl hbA hS (by unfold vp_in; decide) dL_law_41 ?_
  refine lt_ci (y := (xs 0)) rfl ?_
  refine lv_bipush (v := 63) hx hb dL_law_42 (by decide) ?_
  refine lv_iand hx hb dL_law_44 ?_
  refine lt_ci (y := 14) hk ?_
  refine lv_tableIn (off := 1175) (tgt := 1220) hx hb dL_law_45 (by decide) (by decide) (by decide) (by decide) ?_
  refine lv_aload_n hx hb dL_law_1220 rfl (lv_at hl 4 rfl) ?_
  have hPc := hP.sub (ws' := [(q_1, .inr (12, [.ref q_3, .ref q_32, .ref q_61])), (q_3, .inr (4, [.ref q_4, .ref q_10, .ref q_18, .ref q_21, .ref q_27, .ref q_31, .int 0, .int 0, .long 0]))]) [0, 1] rfl
  have hDc := hD.sub (ws' := [(q_1, .inr (12, [.ref q_3, .ref q_32, .ref q_61])), (q_3, .inr (4, [.ref q_4, .ref q_10, .ref q_18, .ref q_21, .ref q_27, .ref q_31, .int 0, .int 0, .long 0]))]) [0, 1] (by decide) rfl
  have hKc := hK.sub (tys' := [(cI, .int)]) [0] rfl
  have hFc := va_free (wc := [(q_1, .inr (12, [.ref q_3, .ref q_32, .ref q_61])), (q_3, .inr (4, [.ref q_4, .ref q_10, .ref q_18, .ref q_21, .ref q_27, .ref q_31, .int 0, .int 0, .long 0]))]) hD hS hA [0, 1] rfl
  refine va_calli (va_runV (As := []) (rest := []) ⟨hx, hb, hml, hown, hts⟩ (c_X8_time l dC dI g q_1 q_32 q_61 q_3 q_4 q_10 q_18 q_21 q_27 q_31 cI H.size) (cwV 0 hts gL_law_X8_time rfl rfl rfl (by decide +kernel) ⟨Nat.le_of_ble_eq_true rfl, Nat.le_of_ble_eq_true rfl⟩) ⟨wIn_blind, va_recv hK hP (ci := 12) (q0 := 0) rfl rfl, wIn_at hPc hKc hDc hG hS hFc⟩ rfl rfl hl.1 rfl (lv_room (Nat.le_of_ble_eq_true rfl)) dL_law_1221 ⟨Nat.le_of_ble_eq_true rfl, Nat.le_of_ble_eq_true rfl⟩) hS (fun q _ h => hFc q h) hFc (fun r_120 u t H1 locs ht hvm hw hB hz1 hk1 hS => ?_)
  obtain ⟨hP1, hK1, hD1⟩ := hB
  rw [ht] at hP1
  obtain ⟨hP, hD⟩ := va_join (wr := [(q_90, .inr (16, [.ref q_97, .ref q_103, .ref q_113, .ref q_92, .ref q_93, .int 0, .int 0, .int 0, .int 105, .int 0, .int 0, .int 0, .int (-1), .int 0, .int 0, .int 0, .int 0, .int 0, .int 0, .int 0, .long 0, .int 0, .int 0]))]) (w1 := []) hP hD [0, 1] [2] rfl rfl (by decide) (by decide) hk1 hFc hP1 hD1
  generalize H1 = H at hP hS ⊢
  have hP : va_P (dC, dI) vwCl [(q_90, .inr (16, [.ref q_97, .ref q_103, .ref q_113, .ref q_92, .ref q_93, .int 0, .int 0, .int 0, .int 105, .int 0, .int 0, .int 0, .int (-1), .int 0, .int 0, .int 0, .int 0, .int 0, .int 0, .int 0, .long 0, .int 0, .int 0]))] H := hP
  have hD : va_D A [(q_90, .inr (16, [.ref q_97, .ref q_103, .ref q_113, .ref q_92, .ref q_93, .int 0, .int 0, .int 0, .int 105, .int 0, .int 0, .int 0, .int (-1), .int 0, .int 0, .int 0, .int 0, .int 0, .int 0, .int 0, .long 0, .int 0, .int 0]))] := hD
  refine lt_ci (y := 0) hw ?_
  refine lv_aload_n hx hb dL_law_1224 rfl (lv_at hl 3 rfl) ?_
  have hPc := hP.sub (ws' := [(q_90, .inr (16, [.ref q_97, .ref q_103, .ref q_113, .ref q_92, .ref q_93, .int 0, .int 0, .int 0, .int 105, .int 0, .int 0, .int 0, .int (-1), .int 0, .int 0, .int 0, .int 0, .int 0, .int 0, .int 0, .long 0, .int 0, .int 0]))]) [0] rfl
  have hDc := hD.sub (ws' := [(q_90, .inr (16, [.ref q_97, .ref q_103, .ref q_113, .ref q_92, .ref q_93, .int 0, .int 0, .int 0, .int 105, .int 0, .int 0, .int 0, .int (-1), .int 0, .int 0, .int 0, .int 0, .int 0, .int 0, .int 0, .long 0, .int 0, .int 0]))]) [0] (by decide) rfl
  have hKc := hK.sub (tys' := [(cI, .int), (cZ, .boolean), (cO, .object "java/lang/Object")]) [0, 1, 2] rfl
  have hFc := va_free (wc := [(q_90, .inr (16, [.ref q_97, .ref q_103, .ref q_113, .ref q_92, .ref q_93, .int 0, .int 0, .int 0, .int 105, .int 0, .int 0, .int 0, .int (-1), .int 0, .int 0, .int 0, .int 0, .int 0, .int 0, .int 0, .long 0, .int 0, .int 0]))]) hD hS hA [0] rfl
  refine va_calli (va_runV (As := []) (rest := [.int 0]) ⟨hx, hb, hml, hown, hts⟩ (c_X12_time l dC dI g q_90 q_92 q_93 q_97 q_103 q_113 cI cZ cO 0 H.size) (cwV 0 hts gL_law_X12_time rfl rfl rfl (by decide +kernel) ⟨Nat.le_of_ble_eq_true rfl, Nat.le_of_ble_eq_true rfl⟩) ⟨wIn_blind, va_recv hK hP (ci := 16) (q0 := 0) rfl rfl, wIn_at hPc hKc hDc hG hS hFc⟩ rfl rfl hl.1 rfl (lv_room (Nat.le_of_ble_eq_true rfl)) dL_law_1225 ⟨Nat.le_of_ble_eq_true rfl, Nat.le_of_ble_eq_true rfl⟩) hS (fun q _ h => hFc q h) hFc (fun r_121 u t H1 locs ht hvm hw hB hz1 hk1 hS => ?_)
  obtain ⟨v_122, rfl⟩ : ∃ z, z = u := ⟨_, rfl⟩
  have hw : v_122 = mp_X12_time ∧ (mp_X12_time = 0 → r_121 = 0) := hw
  obtain ⟨hm9, hv_123⟩ := hw
  have hm9 := hm9.trans ((kc_mp_X12_time))
  subst hm9
  obtain ⟨hP1, hK1, hD1⟩ := hB
  rw [ht] at hP1
  obtain ⟨hP, hD⟩ := va_join (wr := []) (w1 := [(q_90, .inr (16, [.ref q_97, .ref q_103, .ref q_113, .ref q_92, .ref q_93, .int 0, .int 0, .int 0, .int 105, .int 0, .int 0, .int 0, .int (-1), .int 0, .int 0, .int 0, .int 0, .int 0, .int 0, .int 0, .long 0, .int 0, .int 0]))]) hP hD [0] [] rfl rfl (by decide) (by decide) hk1 hFc hP1 hD1
  generalize H1 = H at hP hS ⊢
  have hP : va_P (dC, dI) vwCl [(q_90, .inr (16, [.ref q_97, .ref q_103, .ref q_113, .ref q_92, .ref q_93, .int 0, .int 0, .int 0, .int 105, .int 0, .int 0, .int 0, .int (-1), .int 0, .int 0, .int 0, .int 0, .int 0, .int 0, .int 0, .long 0, .int 0, .int 0]))] H := hP
  have hD : va_D A [(q_90, .inr (16, [.ref q_97, .ref q_103, .ref q_113, .ref q_92, .ref q_93, .int 0, .int 0, .int 0, .int 105, .int 0, .int 0, .int 0, .int (-1), .int 0, .int 0, .int 0, .int 0, .int 0, .int 0, .int 0, .long 0, .int 0, .int 0]))] := hD
  refine lt_ci (y := 0) (hv_123 (kc_mp_X12_time)) ?_
  refine lv_icmp_eq (tgt := 1976) hx hb dL_law_1228 (by decide) (fun _ => ?_) (fun c => absurd (by decide) c)
  refine lv_iinc (v := 6) (lv' := [(5, .int 6), (4, .ref q_118), (3, .ref q_116), (2, .ref q_90), (1, .ref q_1), (0, .ref b)]) hx hb dL_law_1976 hl (k := 0) rfl (by first | rfl | decide) (by decide) rfl (fun ls hl => ?_)
  refine lv_goto (tgt := 28) hx hb dL_law_1979 (by decide) ?_
  refine lv_iload hx hb dL_law_28 (lv_at hl 0 rfl) ?_
  refine lv_aload_n hx hb dL_law_30 rfl (lv_at hl 5 rfl) ?_
  refine va_slen hx hb hX hbl hbA hS dL_law_31 ?_
  refine lt_ci (y := 6) rfl ?_
  refine lv_bipush (v := 6) hx hb dL_law_32 (by decide) ?_
  refine lv_isub hx hb dL_law_34 ?_
  refine lt_ci (y := 0) (by first | rfl | decide) ?_
  refine lv_icmp_gt (tgt := 1982) hx hb dL_law_35 (by decide) (fun _ => ?_) (fun c => absurd (by decide) c)
  refine lv_iconst (v := 1) hx hb dL_law_1982 (by decide) ?_
  refine W.widen (k := 735603) (n := 6895256) (Nat.le_of_ble_eq_true rfl) (Nat.le_of_ble_eq_true rfl) ?_
  refine va_forget (fun q hq => by have h9 := hS.2.2 q hq; rw [hAe] at h9; exact h9) ?_
  exact W.base (lw_ret (Drawn.sameBut.refl s.drawn lw_cs) hx hb hr hlocks dL_law_1983)
set_option maxHeartbeats 8000000 in
set_option maxRecDepth 100000 in
theorem c_L_law_15 {p : Program} {e : Env} {s : State} {m : MethodId} {below : List Frame} {meth : Method} {c : Code} (l : Launch) (hl9 : l.stackTraces = false) (dC : Nat → ClassId) (dI : Nat → Nat → Nat) (g : Nat × Nat × Nat) (b : Nat) (xs : Nat → Int32) (cI cZ cO : ClassId) (hx : p.tables.exec = Jvm.exec) (hb : c.code = cL_law) (hr : meth.sig.returnType = ret) (hml : c.maxLocals = 9) (hown : s.vm.findClass RL = some m.cls) (hts : ∀ w ∈ wsL_law, w.before #[Value.ref b] s = true) (hX : va_X b 6 xs s s.heap) (hbl : b < s.heap.size) (hlocks : meth.locks = false) (hG : gx g (fun q => s.heap.size ≤ q) s s.heap) (hk : (xs 0 &&& 63) = 15) (cA_117 : ClassId) (cA_119 : ClassId) (q_1 : Nat) (q_3 : Nat) (q_4 : Nat) (q_5 : Nat) (q_6 : Nat) (q_7 : Nat) (q_8 : Nat) (q_9 : Nat) (q_10 : Nat) (q_18 : Nat) (q_21 : Nat) (q_27 : Nat) (q_31 : Nat) (q_32 : Nat) (q_61 : Nat) (q_90 : Nat) (q_92 : Nat) (q_93 : Nat) (q_94 : Nat) (q_95 : Nat) (q_96 : Nat) (q_97 : Nat) (q_98 : Nat) (q_99 : Nat) (q_103 : Nat) (q_113 : Nat) (q_116 : Nat) (q_118 : Nat) (H : Heap) (locs : List Loc) (ls : Array Slot) (hK : va_K (dC, dI) vwCl [(cI, .int), (cZ, .boolean), (cO, .object "java/lang/Object"), (cA_117, .long), (cA_119, .double)] s) (hP : va_P (dC, dI) vwCl [(q_1, .inr (12, [.ref q_3, .ref q_32, .ref q_61])), (q_3, .inr (4, [.ref q_4, .ref q_10, .ref q_18, .ref q_21, .ref q_27, .ref q_31, .int 0, .int 0, .long 0])), (q_4, .inr (5, [.ref q_5, .ref q_9, .ref q_6, .ref q_7, .ref q_8, .int 15])), (q_5, .inl (cI, 4, .inl (cn 0))), (q_6, .inl (cI, 4, .inl (cn 0))), (q_7, .inl (cI, 4, .inl (cn 0))), (q_8, .inl (cI, 4, .inl (cn 0))), (q_9, .inl (cI, 4, .inl (cn 1))), (q_90, .inr (16, [.ref q_97, .ref q_103, .ref q_113, .ref q_92, .ref q_93, .int 0, .int 0, .int 0, .int 105, .int 0, .int 0, .int 0, .int (-1), .int 0, .int 0, .int 0, .int 0, .int 0, .int 0, .int 0, .long 0, .int 0, .int 0])), (q_94, .inr (13, [.int 0, .int 1, .int 1, .int 0, .int 0])), (q_95, .inr (13, [.int 0, .int 1, .int 1, .int 0, .int 0])), (q_96, .inr (13, [.int 0, .int 1, .int 1, .int 0, .int 0])), (q_97, .inr (3, [.int 4, .ref q_98, .int 4])), (q_98, .inl (cO, 10, .inr (.inr (.inr (.inr (va_up (va_up (va_up (va_up nn 0 (some q_94)) 1 (some q_95)) 2 (some q_96)) 3 (some q_99))))))), (q_99, .inr (13, [.int 0, .int 1, .int 1, .int 0, .int 0])), (q_116, .inl (cA_117, 1, .inr (.inl cnL)))] H) (hD : va_D (fun q => s.heap.size ≤ q) [(q_1, .inr (12, [.ref q_3, .ref q_32, .ref q_61])), (q_3, .inr (4, [.ref q_4, .ref q_10, .ref q_18, .ref q_21, .ref q_27, .ref q_31, .int 0, .int 0, .long 0])), (q_4, .inr (5, [.ref q_5, .ref q_9, .ref q_6, .ref q_7, .ref q_8, .int 15])), (q_5, .inl (cI, 4, .inl (cn 0))), (q_6, .inl (cI, 4, .inl (cn 0))), (q_7, .inl (cI, 4, .inl (cn 0))), (q_8, .inl (cI, 4, .inl (cn 0))), (q_9, .inl (cI, 4, .inl (cn 1))), (q_90, .inr (16, [.ref q_97, .ref q_103, .ref q_113, .ref q_92, .ref q_93, .int 0, .int 0, .int 0, .int 105, .int 0, .int 0, .int 0, .int (-1), .int 0, .int 0, .int 0, .int 0, .int 0, .int 0, .int 0, .long 0, .int 0, .int 0])), (q_94, .inr (13, [.int 0, .int 1, .int 1, .int 0, .int 0])), (q_95, .inr (13, [.int 0, .int 1, .int 1, .int 0, .int 0])), (q_96, .inr (13, [.int 0, .int 1, .int 1, .int 0, .int 0])), (q_97, .inr (3, [.int 4, .ref q_98, .int 4])), (q_98, .inl (cO, 10, .inr (.inr (.inr (.inr (va_up (va_up (va_up (va_up nn 0 (some q_94)) 1 (some q_95)) 2 (some q_96)) 3 (some q_99))))))), (q_99, .inr (13, [.int 0, .int 1, .int 1, .int 0, .int 0])), (q_116, .inl (cA_117, 1, .inr (.inl cnL)))]) (hS : va_S (fun q => s.heap.size ≤ q) s.heap H locs) (hl : lv_has ls 9 [(5, .int 0), (4, .ref q_118), (3, .ref q_116), (2, .ref q_90), (1, .ref q_1), (0, .ref b)]) : W p l e room_1 s m #[Value.ref b] below meth c H locs 115 1854 (lw_Z below #[Value.ref b] s) (F0 m 28 ls []) := by
  have hN := hG.1
  obtain ⟨A, hAe⟩ : ∃ A : Nat → Prop, A = (fun q => s.heap.size ≤ q) := ⟨_, rfl⟩
  rw [← hAe] at hG hD hS
  have hA : ∀ q : Nat, s.heap.size ≤ q → A q := fun q h => by rw [hAe]; exact h
  have hbA : ¬ A b := by rw [hAe]; exact Nat.not_le.mpr hbl
  refine lv_iload hx hb dL_law_28 (lv_at hl 0 rfl) ?_
  refine lv_aload_n hx hb dL_law_30 rfl (lv_at hl 5 rfl) ?_
  refine va_slen hx hb hX hbl hbA hS dL_law_31 ?_
  refine lt_ci (y := 6) rfl ?_
  refine lv_bipush (v := 6) hx hb dL_law_32 (by decide) ?_
  refine lv_isub hx hb dL_law_34 ?_
  refine lt_ci (y := 0) (by first | rfl | decide) ?_
  refine lv_icmp_gt (tgt := 1982) hx hb dL_law_35 (by decide) (fun c => absurd c (by decide)) (fun _ => ?_)
  refine lv_aload_n hx hb dL_law_38 rfl (lv_at hl 5 rfl) ?_
  refine lv_iload hx hb dL_law_39 (lv_at hl 0 rfl) ?_
  refine va_sld hx hb hX hbl hbA hS (by unfold vp_in; decide) dL_law_41 ?_
  refine lt_ci (y := (xs 0)) rfl ?_
  refine lv_bipush (v := 63) hx hb dL_law_42 (by decide) ?_
  refine lv_iand hx hb dL_law_44 ?_
  refine lt_ci (y := 15) hk ?_
  refine lv_tableIn (off := 1188) (tgt := 1233) hx hb dL_law_45 (by decide) (by decide) (by decide) (by decide) ?_
  refine lv_aload_n hx hb dL_law_1233 rfl (lv_at hl 4 rfl) ?_
  refine lv_aload_n hx hb dL_law_1234 rfl (lv_at hl 5 rfl) ?_
  refine lv_iload hx hb dL_law_1235 (lv_at hl 0 rfl) ?_
  refine lv_iconst (v := 1) hx hb dL_law_1237 (by decide) ?_
  refine lv_iadd hx hb dL_law_1238 ?_
  refine lt_ci (y := 1) (by first | rfl | decide) ?_
  refine va_sld hx hb hX hbl hbA hS (by unfold vp_in; decide) dL_law_1239 ?_
  refine lt_ci (y := (xs 1)) rfl ?_
  refine lv_aload_n hx hb dL_law_1240 rfl (lv_at hl 2 rfl) ?_
  have hPc := hP.sub (ws' := [(q_1, .inr (12, [.ref q_3, .ref q_32, .ref q_61])), (q_3, .inr (4, [.ref q_4, .ref q_10, .ref q_18, .ref q_21, .ref q_27, .ref q_31, .int 0, .int 0, .long 0])), (q_4, .inr (5, [.ref q_5, .ref q_9, .ref q_6, .ref q_7, .ref q_8, .int 15])), (q_5, .inl (cI, 4, .inl (cn 0))), (q_9, .inl (cI, 4, .inl (cn 1))), (q_6, .inl (cI, 4, .inl (cn 0))), (q_7, .inl (cI, 4, .inl (cn 0))), (q_8, .inl (cI, 4, .inl (cn 0))), (q_116, .inl (cA_117, 1, .inr (.inl cnL)))]) [0, 1, 2, 3, 7, 4, 5, 6, 15] rfl
  have hDc := hD.sub (ws' := [(q_1, .inr (12, [.ref q_3, .ref q_32, .ref q_61])), (q_3, .inr (4, [.ref q_4, .ref q_10, .ref q_18, .ref q_21, .ref q_27, .ref q_31, .int 0, .int 0, .long 0])), (q_4, .inr (5, [.ref q_5, .ref q_9, .ref q_6, .ref q_7, .ref q_8, .int 15])), (q_5, .inl (cI, 4, .inl (cn 0))), (q_9, .inl (cI, 4, .inl (cn 1))), (q_6, .inl (cI, 4, .inl (cn 0))), (q_7, .inl (cI, 4, .inl (cn 0))), (q_8, .inl (cI, 4, .inl (cn 0))), (q_116, .inl (cA_117, 1, .inr (.inl cnL)))]) [0, 1, 2, 3, 7, 4, 5, 6, 15] (by decide) rfl
  have hKc := hK.sub (tys' := [(cI, .int), (cA_117, .long)]) [0, 3] rfl
  have hFc := va_free (wc := [(q_1, .inr (12, [.ref q_3, .ref q_32, .ref q_61])), (q_3, .inr (4, [.ref q_4, .ref q_10, .ref q_18, .ref q_21, .ref q_27, .ref q_31, .int 0, .int 0, .long 0])), (q_4, .inr (5, [.ref q_5, .ref q_9, .ref q_6, .ref q_7, .ref q_8, .int 15])), (q_5, .inl (cI, 4, .inl (cn 0))), (q_9, .inl (cI, 4, .inl (cn 1))), (q_6, .inl (cI, 4, .inl (cn 0))), (q_7, .inl (cI, 4, .inl (cn 0))), (q_8, .inl (cI, 4, .inl (cn 0))), (q_116, .inl (cA_117, 1, .inr (.inl cnL)))]) hD hS hA [0, 1, 2, 3, 7, 4, 5, 6, 15] rfl
  refine vx_calli (vx_runSX (As := [.ref q_1, .int (xs 1), .ref q_116]) (rest := []) ⟨hx, hb, hml, hown, hts⟩ (c_L_ticks l hl9 dC dI g q_1 q_32 q_61 q_3 q_4 q_5 q_9 q_6 q_7 q_8 q_10 q_18 q_21 q_27 q_31 cI (xs 1) cnL q_116 cA_117 H.size) (vx_cwSW 3 hts gL_law_L_ticks rfl rfl rfl (by decide +kernel) ⟨Nat.le_of_ble_eq_true rfl, Nat.le_of_ble_eq_true rfl⟩) ⟨wIn_blind, wIn_at hPc hKc hDc hG hS hFc⟩ rfl rfl hl.1 rfl (lv_room (Nat.le_of_ble_eq_true rfl)) dL_law_1241 ⟨Nat.le_of_ble_eq_true rfl, Nat.le_of_ble_eq_true rfl⟩) hS (fun q _ h => hFc q h) hFc (fun q _ h => hFc q h) (fun E9 ce9 q9 u9 t H1 locs ht hvm hx9 hB9 hz1 hk1 hS hce hcv hcl => False.elim hx9) (fun r_120 u t H1 locs ht hvm hw hB hz1 hk1 hS => ?_)
  obtain ⟨v_121, rfl⟩ : ∃ z, z = u := ⟨_, rfl⟩
  obtain ⟨hP1, hK1, hD1⟩ := hB
  rw [ht] at hP1
  obtain ⟨hP, hD⟩ := va_join (wr := [(q_90, .inr (16, [.ref q_97, .ref q_103, .ref q_113, .ref q_92, .ref q_93, .int 0, .int 0, .int 0, .int 105, .int 0, .int 0, .int 0, .int (-1), .int 0, .int 0, .int 0, .int 0, .int 0, .int 0, .int 0, .long 0, .int 0, .int 0])), (q_94, .inr (13, [.int 0, .int 1, .int 1, .int 0, .int 0])), (q_95, .inr (13, [.int 0, .int 1, .int 1, .int 0, .int 0])), (q_96, .inr (13, [.int 0, .int 1, .int 1, .int 0, .int 0])), (q_97, .inr (3, [.int 4, .ref q_98, .int 4])), (q_98, .inl (cO, 10, .inr (.inr (.inr (.inr (va_up (va_up (va_up (va_up nn 0 (some q_94)) 1 (some q_95)) 2 (some q_96)) 3 (some q_99))))))), (q_99, .inr (13, [.int 0, .int 1, .int 1, .int 0, .int 0]))]) (w1 := [(q_116, .inl (cA_117, 1, .inr (.inl v_121)))]) hP hD [0, 1, 2, 3, 7, 4, 5, 6, 15] [8, 9, 10, 11, 12, 13, 14] rfl rfl (by decide) (by decide) hk1 hFc hP1 hD1
  generalize H1 = H at hP hS ⊢
  have hP : va_P (dC, dI) vwCl [(q_90, .inr (16, [.ref q_97, .ref q_103, .ref q_113, .ref q_92, .ref q_93, .int 0, .int 0, .int 0, .int 105, .int 0, .int 0, .int 0, .int (-1), .int 0, .int 0, .int 0, .int 0, .int 0, .int 0, .int 0, .long 0, .int 0, .int 0])), (q_94, .inr (13, [.int 0, .int 1, .int 1, .int 0, .int 0])), (q_95, .inr (13, [.int 0, .int 1, .int 1, .int 0, .int 0])), (q_96, .inr (13, [.int 0, .int 1, .int 1, .int 0, .int 0])), (q_97, .inr (3, [.int 4, .ref q_98, .int 4])), (q_98, .inl (cO, 10, .inr (.inr (.inr (.inr (va_up (va_up (va_up (va_up nn 0 (some q_94)) 1 (some q_95)) 2 (some q_96)) 3 (some q_99))))))), (q_99, .inr (13, [.int 0, .int 1, .int 1, .int 0, .int 0])), (q_116, .inl (cA_117, 1, .inr (.inl v_121)))] H := hP
  have hD : va_D A [(q_90, .inr (16, [.ref q_97, .ref q_103, .ref q_113, .ref q_92, .ref q_93, .int 0, .int 0, .int 0, .int 105, .int 0, .int 0, .int 0, .int (-1), .int 0, .int 0, .int 0, .int 0, .int 0, .int 0, .int 0, .long 0, .int 0, .int 0])), (q_94, .inr (13, [.int 0, .int 1, .int 1, .int 0, .int 0])), (q_95, .inr (13, [.int 0, .int 1, .int 1, .int 0, .int 0])), (q_96, .inr (13, [.int 0, .int 1, .int 1, .int 0, .int 0])), (q_97, .inr (3, [.int 4, .ref q_98, .int 4])), (q_98, .inl (cO, 10, .inr (.inr (.inr (.inr (va_up (va_up (va_up (va_up nn 0 (some q_94)) 1 (some q_95)) 2 (some q_96)) 3 (some q_99))))))), (q_99, .inr (13, [.int 0, .int 1, .int 1, .int 0, .int 0])), (q_116, .inl (cA_117, 1, .inr (.inl v_121)))] := hD
  refine lt_ci (y := sp_X8_ticks (xs 1)) (hw.1) ?_
  have hv_122 : sp_X8_ticks (xs 1) = 0 → v_121 0 = 0 := hw.2
  refine W.widen (k := 116) (n := 1860) (Nat.le_of_ble_eq_true rfl) (Nat.le_of_ble_eq_true rfl) ?_
  refine lv_istore (lv' := [(6, .int (sp_X8_ticks (xs 1))), (5, .int 0), (4, .ref q_118), (3, .ref q_116), (2, .ref q_90), (1, .ref q_1), (0, .ref b)]) hx hb dL_law_1244 hl (by decide) rfl (fun ls hl => ?_)
  refine lv_aload_n hx hb dL_law_1246 rfl (lv_at hl 4 rfl) ?_
  refine lv_aload_n hx hb dL_law_1247 rfl (lv_at hl 6 rfl) ?_
  refine lv_iload hx hb dL_law_1248 (lv_at hl 1 rfl) ?_
  refine lv_iconst (v := 1) hx hb dL_law_1250 (by decide) ?_
  refine lv_iadd hx hb dL_law_1251 ?_
  refine lt_ci (y := 1) (by first | rfl | decide) ?_
  refine va_sld hx hb hX hbl hbA hS (by unfold vp_in; decide) dL_law_1252 ?_
  refine lt_ci (y := (xs 1)) rfl ?_
  have hPc := hP.sub (ws' := [(q_90, .inr (16, [.ref q_97, .ref q_103, .ref q_113, .ref q_92, .ref q_93, .int 0, .int 0, .int 0, .int 105, .int 0, .int 0, .int 0, .int (-1), .int 0, .int 0, .int 0, .int 0, .int 0, .int 0, .int 0, .long 0, .int 0, .int 0])), (q_97, .inr (3, [.int 4, .ref q_98, .int 4])), (q_98, .inl (cO, 10, .inr (.inr (.inr (.inr (va_up (va_up (va_up (va_up nn 0 (some q_94)) 1 (some q_95)) 2 (some q_96)) 3 (some q_99))))))), (q_94, .inr (13, [.int 0, .int 1, .int 1, .int 0, .int 0])), (q_95, .inr (13, [.int 0, .int 1, .int 1, .int 0, .int 0])), (q_96, .inr (13, [.int 0, .int 1, .int 1, .int 0, .int 0])), (q_99, .inr (13, [.int 0, .int 1, .int 1, .int 0, .int 0]))]) [0, 4, 5, 1, 2, 3, 6] rfl
  have hDc := hD.sub (ws' := [(q_90, .inr (16, [.ref q_97, .ref q_103, .ref q_113, .ref q_92, .ref q_93, .int 0, .int 0, .int 0, .int 105, .int 0, .int 0, .int 0, .int (-1), .int 0, .int 0, .int 0, .int 0, .int 0, .int 0, .int 0, .long 0, .int 0, .int 0])), (q_97, .inr (3, [.int 4, .ref q_98, .int 4])), (q_98, .inl (cO, 10, .inr (.inr (.inr (.inr (va_up (va_up (va_up (va_up nn 0 (some q_94)) 1 (some q_95)) 2 (some q_96)) 3 (some q_99))))))), (q_94, .inr (13, [.int 0, .int 1, .int 1, .int 0, .int 0])), (q_95, .inr (13, [.int 0, .int 1, .int 1, .int 0, .int 0])), (q_96, .inr (13, [.int 0, .int 1, .int 1, .int 0, .int 0])), (q_99, .inr (13, [.int 0, .int 1, .int 1, .int 0, .int 0]))]) [0, 4, 5, 1, 2, 3, 6] (by decide) rfl
  have hKc := hK.sub (tys' := [(cI, .int), (cZ, .boolean), (cO, .object "java/lang/Object")]) [0, 1, 2] rfl
  have hFc := va_free (wc := [(q_90, .inr (16, [.ref q_97, .ref q_103, .ref q_113, .ref q_92, .ref q_93, .int 0, .int 0, .int 0, .int 105, .int 0, .int 0, .int 0, .int (-1), .int 0, .int 0, .int 0, .int 0, .int 0, .int 0, .int 0, .long 0, .int 0, .int 0])), (q_97, .inr (3, [.int 4, .ref q_98, .int 4])), (q_98, .inl (cO, 10, .inr (.inr (.inr (.inr (va_up (va_up (va_up (va_up nn 0 (some q_94)) 1 (some q_95)) 2 (some q_96)) 3 (some q_99))))))), (q_94, .inr (13, [.int 0, .int 1, .int 1, .int 0, .int 0])), (q_95, .inr (13, [.int 0, .int 1, .int 1, .int 0, .int 0])), (q_96, .inr (13, [.int 0, .int 1, .int 1, .int 0, .int 0])), (q_99, .inr (13, [.int 0, .int 1, .int 1, .int 0, .int 0]))]) hD hS hA [0, 4, 5, 1, 2, 3, 6] rfl
  refine va_calli (va_runV (As := [.int (xs 1)]) (rest := []) ⟨hx, hb, hml, hown, hts⟩ (c_X12_ticks l dC dI g q_90 q_92 q_93 q_97 q_98 q_94 q_95 q_96 q_99 q_103 q_113 cI cZ cO 0 (xs 1) H.size) (cwV 1 hts gL_law_X12_ticks rfl rfl rfl (by decide +kernel) ⟨Nat.le_of_ble_eq_true rfl, Nat.le_of_ble_eq_true rfl⟩) ⟨wIn_blind, va_recv hK hP (ci := 16) (q0 := 0) rfl rfl, wIn_at hPc hKc hDc hG hS hFc⟩ rfl rfl hl.1 rfl (lv_room (Nat.le_of_ble_eq_true rfl)) dL_law_1253 ⟨Nat.le_of_ble_eq_true rfl, Nat.le_of_ble_eq_true rfl⟩) hS (fun q _ h => hFc q h) hFc (fun r_123 u t H1 locs ht hvm hw hB hz1 hk1 hS => ?_)
  obtain ⟨v_124, rfl⟩ : ∃ z, z = u := ⟨_, rfl⟩
  have hw : v_124 = mp_X12_ticks (xs 1) ∧ (mp_X12_ticks (xs 1) = 0 → r_123 = 0) := hw
  obtain ⟨hm9, hv_125⟩ := hw
  subst hm9
  obtain ⟨hP1, hK1, hD1⟩ := hB
  rw [ht] at hP1
  obtain ⟨hP, hD⟩ := va_join (wr := [(q_116, .inl (cA_117, 1, .inr (.inl v_121)))]) (w1 := [(q_90, .inr (16, [.ref q_97, .ref q_103, .ref q_113, .ref q_92, .ref q_93, .int 0, .int 0, .int 0, .int 105, .int 0, .int 0, .int 0, .int (-1), .int 0, .int 0, .int 0, .int 0, .int 0, .int 0, .int 0, .long 0, .int 0, .int (mp_X12_ticks (xs 1))]))]) hP hD [0, 4, 5, 1, 2, 3, 6] [7] rfl rfl (by decide) (by decide) hk1 hFc hP1 hD1
  generalize H1 = H at hP hS ⊢
  have hP : va_P (dC, dI) vwCl [(q_116, .inl (cA_117, 1, .inr (.inl v_121))), (q_90, .inr (16, [.ref q_97, .ref q_103, .ref q_113, .ref q_92, .ref q_93, .int 0, .int 0, .int 0, .int 105, .int 0, .int 0, .int 0, .int (-1), .int 0, .int 0, .int 0, .int 0, .int 0, .int 0, .int 0, .long 0, .int 0, .int (mp_X12_ticks (xs 1))]))] H := hP
  have hD : va_D A [(q_116, .inl (cA_117, 1, .inr (.inl v_121))), (q_90, .inr (16, [.ref q_97, .ref q_103, .ref q_113, .ref q_92, .ref q_93, .int 0, .int 0, .int 0, .int 105, .int 0, .int 0, .int 0, .int (-1), .int 0, .int 0, .int 0, .int 0, .int 0, .int 0, .int 0, .long 0, .int 0, .int (mp_X12_ticks (xs 1))]))] := hD
  refine lv_istore (lv' := [(7, .int r_123), (6, .int (sp_X8_ticks (xs 1))), (5, .int 0), (4, .ref q_118), (3, .ref q_116), (2, .ref q_90), (1, .ref q_1), (0, .ref b)]) hx hb dL_law_1256 hl (by decide) rfl (fun ls hl => ?_)
  refine lv_aload_n hx hb dL_law_1258 rfl (lv_at hl 5 rfl) ?_
  have hPc := hP.sub (ws' := [(q_90, .inr (16, [.ref q_97, .ref q_103, .ref q_113, .ref q_92, .ref q_93, .int 0, .int 0, .int 0, .int 105, .int 0, .int 0, .int 0, .int (-1), .int 0, .int 0, .int 0, .int 0, .int 0, .int 0, .int 0, .long 0, .int 0, .int (mp_X12_ticks (xs 1))]))]) [1] rfl
  have hDc := hD.sub (ws' := [(q_90, .inr (16, [.ref q_97, .ref q_103, .ref q_113, .ref q_92, .ref q_93, .int 0, .int 0, .int 0, .int 105, .int 0, .int 0, .int 0, .int (-1), .int 0, .int 0, .int 0, .int 0, .int 0, .int 0, .int 0, .long 0, .int 0, .int (mp_X12_ticks (xs 1))]))]) [1] (by decide) rfl
  have hKc := hK.sub (tys' := [(cI, .int), (cZ, .boolean), (cO, .object "java/lang/Object")]) [0, 1, 2] rfl
  have hFc := va_free (wc := [(q_90, .inr (16, [.ref q_97, .ref q_103, .ref q_113, .ref q_92, .ref q_93, .int 0, .int 0, .int 0, .int 105, .int 0, .int 0, .int 0, .int (-1), .int 0, .int 0, .int 0, .int 0, .int 0, .int 0, .int 0, .long 0, .int 0, .int (mp_X12_ticks (xs 1))]))]) hD hS hA [1] rfl
  refine va_calli (va_runV (As := []) (rest := []) ⟨hx, hb, hml, hown, hts⟩ (c_X12_thrown l dC dI g q_90 (.ref q_97) (.ref q_103) (.ref q_113) (.ref q_92) (.ref q_93) (.int 0) (.int 0) (.int 0) (.int 105) (.int 0) (.int 0) (.int 0) (.int (-1)) (.int 0) (.int 0) (.int 0) (.int 0) (.int 0) (.int 0) (.int 0) (.long 0) (.int 0) cI cZ cO (mp_X12_ticks (xs 1)) H.size) (cwV 0 hts gL_law_X12_thrown rfl rfl rfl (by decide +kernel) ⟨Nat.le_of_ble_eq_true rfl, Nat.le_of_ble_eq_true rfl⟩) ⟨wIn_blind, va_recv hK hP (ci := 16) (q0 := 1) rfl rfl, wIn_at hPc hKc hDc hG hS hFc⟩ rfl rfl hl.1 rfl (lv_room (Nat.le_of_ble_eq_true rfl)) dL_law_1259 ⟨Nat.le_of_ble_eq_true rfl, Nat.le_of_ble_eq_true rfl⟩) hS (fun q _ h => hFc q h) hFc (fun r_126 u t H1 locs ht hvm hw hB hz1 hk1 hS => ?_)
  obtain ⟨hP1, hK1, hD1⟩ := hB
  rw [ht] at hP1
  obtain ⟨hP, hD⟩ := va_join (wr := [(q_116, .inl (cA_117, 1, .inr (.inl v_121)))]) (w1 := [(q_90, .inr (16, [.ref q_97, .ref q_103, .ref q_113, .ref q_92, .ref q_93, .int 0, .int 0, .int 0, .int 105, .int 0, .int 0, .int 0, .int (-1), .int 0, .int 0, .int 0, .int 0, .int 0, .int 0, .int 0, .long 0, .int 0, .int (mp_X12_ticks (xs 1))]))]) hP hD [1] [0] rfl rfl (by decide) (by decide) hk1 hFc hP1 hD1
  generalize H1 = H at hP hS ⊢
  have hP : va_P (dC, dI) vwCl [(q_116, .inl (cA_117, 1, .inr (.inl v_121))), (q_90, .inr (16, [.ref q_97, .ref q_103, .ref q_113, .ref q_92, .ref q_93, .int 0, .int 0, .int 0, .int 105, .int 0, .int 0, .int 0, .int (-1), .int 0, .int 0, .int 0, .int 0, .int 0, .int 0, .int 0, .long 0, .int 0, .int (mp_X12_ticks (xs 1))]))] H := hP
  have hD : va_D A [(q_116, .inl (cA_117, 1, .inr (.inl v_121))), (q_90, .inr (16, [.ref q_97, .ref q_103, .ref q_113, .ref q_92, .ref q_93, .int 0, .int 0, .int 0, .int 105, .int 0, .int 0, .int 0, .int (-1), .int 0, .int 0, .int 0, .int 0, .int 0, .int 0, .int 0, .long 0, .int 0, .int (mp_X12_ticks (xs 1))]))] := hD
  refine lt_ci (y := (mp_X12_ticks (xs 1))) hw ?_
  refine lt_ci (y := sp_X8_ticks (xs 1)) (sm_X12_ticks _) ?_
  refine lv_iload hx hb dL_law_1262 (lv_at hl 1 rfl) ?_
  refine lv_icmp_eq (tgt := 1269) hx hb dL_law_1264 (by decide) (fun _ => ?_) (fun c => absurd (rfl) c)
  refine lv_iload hx hb dL_law_1269 (lv_at hl 1 rfl) ?_
  refine lv_if_ne (tgt := 1286) hx hb dL_law_1271 (by decide) (fun c_1271 => ?_) (fun c_1271 => ?_)
  · refine lv_goto (tgt := 1976) hx hb dL_law_1286 (by decide) ?_
    refine lv_iinc (v := 6) (lv' := [(5, .int 6), (7, .int r_123), (6, .int (sp_X8_ticks (xs 1))), (4, .ref q_118), (3, .ref q_116), (2, .ref q_90), (1, .ref q_1), (0, .ref b)]) hx hb dL_law_1976 hl (k := 2) rfl (by first | rfl | decide) (by decide) rfl (fun ls hl => ?_)
    refine lv_goto (tgt := 28) hx hb dL_law_1979 (by decide) ?_
    refine lv_iload hx hb dL_law_28 (lv_at hl 0 rfl) ?_
    refine lv_aload_n hx hb dL_law_30 rfl (lv_at hl 7 rfl) ?_
    refine va_slen hx hb hX hbl hbA hS dL_law_31 ?_
    refine lt_ci (y := 6) rfl ?_
    refine lv_bipush (v := 6) hx hb dL_law_32 (by decide) ?_
    refine lv_isub hx hb dL_law_34 ?_
    refine lt_ci (y := 0) (by first | rfl | decide) ?_
    refine lv_icmp_gt (tgt := 1982) hx hb dL_law_35 (by decide) (fun _ => ?_) (fun c => absurd (by decide) c)
    refine lv_iconst (v := 1) hx hb dL_law_1982 (by decide) ?_
    refine W.widen (k := 735603) (n := 6895256) (Nat.le_of_ble_eq_true rfl) (Nat.le_of_ble_eq_true rfl) ?_
    refine va_forget (fun q hq => by have h9 := hS.2.2 q hq; rw [hAe] at h9; exact h9) ?_
    exact W.base (lw_ret (Drawn.sameBut.refl s.drawn lw_cs) hx hb hr hlocks dL_law_1983)
  · refine lv_aload_n hx hb dL_law_1274 rfl (lv_at hl 4 rfl) ?_
    refine lv_iconst (v := 0) hx hb dL_law_1275 (by decide) ?_
    refine va_lald (D := (dC, dI)) hx hb hK hP 0 3 rfl rfl (by unfold vp_in; decide) dL_law_1276 ?_
    refine lt_cl (y := 0) (show _ = (0 : Int64) from hv_122 c_1271) ?_
    refine lv_iload hx hb dL_law_1277 (lv_at hl 0 rfl) ?_
    refine lt_ci (y := 0) (hv_125 ((sm_X12_ticks _).trans c_1271)) ?_
    refine lv_i2l (v := 0) hx hb dL_law_1279 (by first | rfl | decide) ?_
    refine W.lcmp hx hb dL_law_1280 ?_
    refine lt_ci (y := 0) (by first | rfl | decide) ?_
    refine lv_if_eq (tgt := 1286) hx hb dL_law_1281 (by decide) (fun _ => ?_) (fun c => absurd (by decide) c)
    refine lv_goto (tgt := 1976) hx hb dL_law_1286 (by decide) ?_
    refine lv_iinc (v := 6) (lv' := [(5, .int 6), (7, .int r_123), (6, .int (sp_X8_ticks (xs 1))), (4, .ref q_118), (3, .ref q_116), (2, .ref q_90), (1, .ref q_1), (0, .ref b)]) hx hb dL_law_1976 hl (k := 2) rfl (by first | rfl | decide) (by decide) rfl (fun ls hl => ?_)
    refine lv_goto (tgt := 28) hx hb dL_law_1979 (by decide) ?_
    refine lv_iload hx hb dL_law_28 (lv_at hl 0 rfl) ?_
    refine lv_aload_n hx hb dL_law_30 rfl (lv_at hl 7 rfl) ?_
    refine va_slen hx hb hX hbl hbA hS dL_law_31 ?_
    refine lt_ci (y := 6) rfl ?_
    refine lv_bipush (v := 6) hx hb dL_law_32 (by decide) ?_
    refine lv_isub hx hb dL_law_34 ?_
    refine lt_ci (y := 0) (by first | rfl | decide) ?_
    refine lv_icmp_gt (tgt := 1982) hx hb dL_law_35 (by decide) (fun _ => ?_) (fun c => absurd (by decide) c)
    refine lv_iconst (v := 1) hx hb dL_law_1982 (by decide) ?_
    refine W.widen (k := 735603) (n := 6895256) (Nat.le_of_ble_eq_true rfl) (Nat.le_of_ble_eq_true rfl) ?_
    refine va_forget (fun q hq => by have h9 := hS.2.2 q hq; rw [hAe] at h9; exact h9) ?_
    exact W.base (lw_ret (Drawn.sameBut.refl s.drawn lw_cs) hx hb hr hlocks dL_law_1983)
set_option maxHeartbeats 8000000 in
set_option maxRecDepth 100000 in
theorem c_L_law_16 {p : Program} {e : Env} {s : State} {m : MethodId} {below : List Frame} {meth : Method} {c : Code} (l : Launch) (hl9 : l.stackTraces = false) (dC : Nat → ClassId) (dI : Nat → Nat → Nat) (g : Nat × Nat × Nat) (b : Nat) (xs : Nat → Int32) (cI cZ cO : ClassId) (hx : p.tables.exec = Jvm.exec) (hb : c.code = cL_law) (hr : meth.sig.returnType = ret) (hml : c.maxLocals = 9) (hown : s.vm.findClass RL = some m.cls) (hts : ∀ w ∈ wsL_law, w.before #[Value.ref b] s = true) (hX : va_X b 6 xs s s.heap) (hbl : b < s.heap.size) (hlocks : meth.locks = false) (hG : gx g (fun q => s.heap.size ≤ q) s s.heap) (hk : (xs 0 &&& 63) = 16) (cA_117 : ClassId) (cA_119 : ClassId) (q_1 : Nat) (q_3 : Nat) (q_4 : Nat) (q_10 : Nat) (q_11 : Nat) (q_12 : Nat) (q_13 : Nat) (q_14 : Nat) (q_15 : Nat) (q_16 : Nat) (q_17 : Nat) (q_18 : Nat) (q_21 : Nat) (q_27 : Nat) (q_31 : Nat) (q_32 : Nat) (q_61 : Nat) (q_90 : Nat) (q_92 : Nat) (q_93 : Nat) (q_97 : Nat) (q_100 : Nat) (q_101 : Nat) (q_102 : Nat) (q_103 : Nat) (q_104 : Nat) (q_105 : Nat) (q_113 : Nat) (q_116 : Nat) (q_118 : Nat) (H : Heap) (locs : List Loc) (ls : Array Slot) (hK : va_K (dC, dI) vwCl [(cI, .int), (cZ, .boolean), (cO, .object "java/lang/Object"), (cA_117, .long), (cA_119, .double)] s) (hP : va_P (dC, dI) vwCl [(q_1, .inr (12, [.ref q_3, .ref q_32, .ref q_61])), (q_3, .inr (4, [.ref q_4, .ref q_10, .ref q_18, .ref q_21, .ref q_27, .ref q_31, .int 0, .int 0, .long 0])), (q_10, .inr (10, [.ref q_11, .ref q_14, .ref q_15, .ref q_16, .ref q_12, .ref q_13, .ref q_17, .int 0, .int 0])), (q_11, .inl (cI, 4, .inl (cn 0))), (q_12, .inl (cI, 4, .inl (cn 0))), (q_13, .inl (cI, 4, .inl (cn 0))), (q_14, .inl (cI, 4, .inl (cn 10))), (q_15, .inl (cI, 4, .inl (cn 10))), (q_16, .inl (cI, 4, .inl (cn (-1)))), (q_17, .inl (cI, 4, .inl (cn 110))), (q_90, .inr (16, [.ref q_97, .ref q_103, .ref q_113, .ref q_92, .ref q_93, .int 0, .int 0, .int 0, .int 105, .int 0, .int 0, .int 0, .int (-1), .int 0, .int 0, .int 0, .int 0, .int 0, .int 0, .int 0, .long 0, .int 0, .int 0])), (q_100, .inr (15, [.int 0, .int 10, .int 10, .int 114, .int 0, .int 0, .int (-1), .int 0, .int 110, .int 0])), (q_101, .inr (15, [.int 0, .int 10, .int 10, .int 114, .int 0, .int 0, .int (-1), .int 0, .int 110, .int 0])), (q_102, .inr (15, [.int 0, .int 10, .int 10, .int 114, .int 0, .int 0, .int (-1), .int 0, .int 110, .int 0])), (q_103, .inr (3, [.int 4, .ref q_104, .int 4])), (q_104, .inl (cO, 10, .inr (.inr (.inr (.inr (va_up (va_up (va_up (va_up nn 0 (some q_100)) 1 (some q_101)) 2 (some q_102)) 3 (some q_105))))))), (q_105, .inr (15, [.int 0, .int 10, .int 10, .int 114, .int 0, .int 0, .int (-1), .int 0, .int 110, .int 0])), (q_116, .inl (cA_117, 1, .inr (.inl cnL)))] H) (hD : va_D (fun q => s.heap.size ≤ q) [(q_1, .inr (12, [.ref q_3, .ref q_32, .ref q_61])), (q_3, .inr (4, [.ref q_4, .ref q_10, .ref q_18, .ref q_21, .ref q_27, .ref q_31, .int 0, .int 0, .long 0])), (q_10, .inr (10, [.ref q_11, .ref q_14, .ref q_15, .ref q_16, .ref q_12, .ref q_13, .ref q_17, .int 0, .int 0])), (q_11, .inl (cI, 4, .inl (cn 0))), (q_12, .inl (cI, 4, .inl (cn 0))), (q_13, .inl (cI, 4, .inl (cn 0))), (q_14, .inl (cI, 4, .inl (cn 10))), (q_15, .inl (cI, 4, .inl (cn 10))), (q_16, .inl (cI, 4, .inl (cn (-1)))), (q_17, .inl (cI, 4, .inl (cn 110))), (q_90, .inr (16, [.ref q_97, .ref q_103, .ref q_113, .ref q_92, .ref q_93, .int 0, .int 0, .int 0, .int 105, .int 0, .int 0, .int 0, .int (-1), .int 0, .int 0, .int 0, .int 0, .int 0, .int 0, .int 0, .long 0, .int 0, .int 0])), (q_100, .inr (15, [.int 0, .int 10, .int 10, .int 114, .int 0, .int 0, .int (-1), .int 0, .int 110, .int 0])), (q_101, .inr (15, [.int 0, .int 10, .int 10, .int 114, .int 0, .int 0, .int (-1), .int 0, .int 110, .int 0])), (q_102, .inr (15, [.int 0, .int 10, .int 10, .int 114, .int 0, .int 0, .int (-1), .int 0, .int 110, .int 0])), (q_103, .inr (3, [.int 4, .ref q_104, .int 4])), (q_104, .inl (cO, 10, .inr (.inr (.inr (.inr (va_up (va_up (va_up (va_up nn 0 (some q_100)) 1 (some q_101)) 2 (some q_102)) 3 (some q_105))))))), (q_105, .inr (15, [.int 0, .int 10, .int 10, .int 114, .int 0, .int 0, .int (-1), .int 0, .int 110, .int 0])), (q_116, .inl (cA_117, 1, .inr (.inl cnL)))]) (hS : va_S (fun q => s.heap.size ≤ q) s.heap H locs) (hl : lv_has ls 9 [(5, .int 0), (4, .ref q_118), (3, .ref q_116), (2, .ref q_90), (1, .ref q_1), (0, .ref b)]) : W p l e room_1 s m #[Value.ref b] below meth c H locs 115 1854 (lw_Z below #[Value.ref b] s) (F0 m 28 ls []) := by
  have hN := hG.1
  obtain ⟨A, hAe⟩ : ∃ A : Nat → Prop, A = (fun q => s.heap.size ≤ q) := ⟨_, rfl⟩
  rw [← hAe] at hG hD hS
  have hA : ∀ q : Nat, s.heap.size ≤ q → A q := fun q h => by rw [hAe]; exact h
  have hbA : ¬ A b := by rw [hAe]; exact Nat.not_le.mpr hbl
  refine lv_iload hx hb dL_law_28 (lv_at hl 0 rfl) ?_
  refine lv_aload_n hx hb dL_law_30 rfl (lv_at hl 5 rfl) ?_
  refine va_slen hx hb hX hbl hbA hS dL_law_31 ?_
  refine lt_ci (y := 6) rfl ?_
  refine lv_bipush (v := 6) hx hb dL_law_32 (by decide) ?_
  refine lv_isub hx hb dL_law_34 ?_
  refine lt_ci (y := 0) (by first | rfl | decide) ?_
  refine lv_icmp_gt (tgt := 1982) hx hb dL_law_35 (by decide) (fun c => absurd c (by decide)) (fun _ => ?_)
  refine lv_aload_n hx hb dL_law_38 rfl (lv_at hl 5 rfl) ?_
  refine lv_iload hx hb dL_law_39 (lv_at hl 0 rfl) ?_
  refine va_sld hx hb hX hbl hbA hS (by unfold vp_in; decide) dL_law_41 ?_
  refine lt_ci (y := (xs 0)) rfl ?_
  refine lv_bipush (v := 63) hx hb dL_law_42 (by decide) ?_
  refine lv_iand hx hb dL_law_44 ?_
  refine lt_ci (y := 16) hk ?_
  refine lv_tableIn (off := 1244) (tgt := 1289) hx hb dL_law_45 (by decide) (by decide) (by decide) (by decide) ?_
  refine lv_aload_n hx hb dL_law_1289 rfl (lv_at hl 4 rfl) ?_
  refine lv_aload_n hx hb dL_law_1290 rfl (lv_at hl 5 rfl) ?_
  refine lv_iload hx hb dL_law_1291 (lv_at hl 0 rfl) ?_
  refine lv_iconst (v := 1) hx hb dL_law_1293 (by decide) ?_
  refine lv_iadd hx hb dL_law_1294 ?_
  refine lt_ci (y := 1) (by first | rfl | decide) ?_
  refine va_sld hx hb hX hbl hbA hS (by unfold vp_in; decide) dL_law_1295 ?_
  refine lt_ci (y := (xs 1)) rfl ?_
  refine lv_aload_n hx hb dL_law_1296 rfl (lv_at hl 2 rfl) ?_
  have hPc := hP.sub (ws' := [(q_1, .inr (12, [.ref q_3, .ref q_32, .ref q_61])), (q_3, .inr (4, [.ref q_4, .ref q_10, .ref q_18, .ref q_21, .ref q_27, .ref q_31, .int 0, .int 0, .long 0])), (q_10, .inr (10, [.ref q_11, .ref q_14, .ref q_15, .ref q_16, .ref q_12, .ref q_13, .ref q_17, .int 0, .int 0])), (q_11, .inl (cI, 4, .inl (cn 0))), (q_14, .inl (cI, 4, .inl (cn 10))), (q_15, .inl (cI, 4, .inl (cn 10))), (q_16, .inl (cI, 4, .inl (cn (-1)))), (q_12, .inl (cI, 4, .inl (cn 0))), (q_13, .inl (cI, 4, .inl (cn 0))), (q_17, .inl (cI, 4, .inl (cn 110))), (q_116, .inl (cA_117, 1, .inr (.inl cnL)))]) [0, 1, 2, 3, 6, 7, 8, 4, 5, 9, 17] rfl
  have hDc := hD.sub (ws' := [(q_1, .inr (12, [.ref q_3, .ref q_32, .ref q_61])), (q_3, .inr (4, [.ref q_4, .ref q_10, .ref q_18, .ref q_21, .ref q_27, .ref q_31, .int 0, .int 0, .long 0])), (q_10, .inr (10, [.ref q_11, .ref q_14, .ref q_15, .ref q_16, .ref q_12, .ref q_13, .ref q_17, .int 0, .int 0])), (q_11, .inl (cI, 4, .inl (cn 0))), (q_14, .inl (cI, 4, .inl (cn 10))), (q_15, .inl (cI, 4, .inl (cn 10))), (q_16, .inl (cI, 4, .inl (cn (-1)))), (q_12, .inl (cI, 4, .inl (cn 0))), (q_13, .inl (cI, 4, .inl (cn 0))), (q_17, .inl (cI, 4, .inl (cn 110))), (q_116, .inl (cA_117, 1, .inr (.inl cnL)))]) [0, 1, 2, 3, 6, 7, 8, 4, 5, 9, 17] (by decide) rfl
  have hKc := hK.sub (tys' := [(cI, .int), (cA_117, .long)]) [0, 3] rfl
  have hFc := va_free (wc := [(q_1, .inr (12, [.ref q_3, .ref q_32, .ref q_61])), (q_3, .inr (4, [.ref q_4, .ref q_10, .ref q_18, .ref q_21, .ref q_27, .ref q_31, .int 0, .int 0, .long 0])), (q_10, .inr (10, [.ref q_11, .ref q_14, .ref q_15, .ref q_16, .ref q_12, .ref q_13, .ref q_17, .int 0, .int 0])), (q_11, .inl (cI, 4, .inl (cn 0))), (q_14, .inl (cI, 4, .inl (cn 10))), (q_15, .inl (cI, 4, .inl (cn 10))), (q_16, .inl (cI, 4, .inl (cn (-1)))), (q_12, .inl (cI, 4, .inl (cn 0))), (q_13, .inl (cI, 4, .inl (cn 0))), (q_17, .inl (cI, 4, .inl (cn 110))), (q_116, .inl (cA_117, 1, .inr (.inl cnL)))]) hD hS hA [0, 1, 2, 3, 6, 7, 8, 4, 5, 9, 17] rfl
  refine vx_calli (vx_runSX (As := [.ref q_1, .int (xs 1), .ref q_116]) (rest := []) ⟨hx, hb, hml, hown, hts⟩ (c_L_count l hl9 dC dI g q_1 q_32 q_61 q_3 q_4 q_10 q_11 q_14 q_15 q_16 q_12 q_13 q_17 q_18 q_21 q_27 q_31 cI (xs 1) cnL q_116 cA_117 H.size) (vx_cwSW 3 hts gL_law_L_count rfl rfl rfl (by decide +kernel) ⟨Nat.le_of_ble_eq_true rfl, Nat.le_of_ble_eq_true rfl⟩) ⟨wIn_blind, wIn_at hPc hKc hDc hG hS hFc⟩ rfl rfl hl.1 rfl (lv_room (Nat.le_of_ble_eq_true rfl)) dL_law_1297 ⟨Nat.le_of_ble_eq_true rfl, Nat.le_of_ble_eq_true rfl⟩) hS (fun q _ h => hFc q h) hFc (fun q _ h => hFc q h) (fun E9 ce9 q9 u9 t H1 locs ht hvm hx9 hB9 hz1 hk1 hS hce hcv hcl => False.elim hx9) (fun r_120 u t H1 locs ht hvm hw hB hz1 hk1 hS => ?_)
  obtain ⟨v_121, rfl⟩ : ∃ z, z = u := ⟨_, rfl⟩
  obtain ⟨hP1, hK1, hD1⟩ := hB
  rw [ht] at hP1
  obtain ⟨hP, hD⟩ := va_join (wr := [(q_90, .inr (16, [.ref q_97, .ref q_103, .ref q_113, .ref q_92, .ref q_93, .int 0, .int 0, .int 0, .int 105, .int 0, .int 0, .int 0, .int (-1), .int 0, .int 0, .int 0, .int 0, .int 0, .int 0, .int 0, .long 0, .int 0, .int 0])), (q_100, .inr (15, [.int 0, .int 10, .int 10, .int 114, .int 0, .int 0, .int (-1), .int 0, .int 110, .int 0])), (q_101, .inr (15, [.int 0, .int 10, .int 10, .int 114, .int 0, .int 0, .int (-1), .int 0, .int 110, .int 0])), (q_102, .inr (15, [.int 0, .int 10, .int 10, .int 114, .int 0, .int 0, .int (-1), .int 0, .int 110, .int 0])), (q_103, .inr (3, [.int 4, .ref q_104, .int 4])), (q_104, .inl (cO, 10, .inr (.inr (.inr (.inr (va_up (va_up (va_up (va_up nn 0 (some q_100)) 1 (some q_101)) 2 (some q_102)) 3 (some q_105))))))), (q_105, .inr (15, [.int 0, .int 10, .int 10, .int 114, .int 0, .int 0, .int (-1), .int 0, .int 110, .int 0]))]) (w1 := [(q_116, .inl (cA_117, 1, .inr (.inl v_121)))]) hP hD [0, 1, 2, 3, 6, 7, 8, 4, 5, 9, 17] [10, 11, 12, 13, 14, 15, 16] rfl rfl (by decide) (by decide) hk1 hFc hP1 hD1
  generalize H1 = H at hP hS ⊢
  have hP : va_P (dC, dI) vwCl [(q_90, .inr (16, [.ref q_97, .ref q_103, .ref q_113, .ref q_92, .ref q_93, .int 0, .int 0, .int 0, .int 105, .int 0, .int 0, .int 0, .int (-1), .int 0, .int 0, .int 0, .int 0, .int 0, .int 0, .int 0, .long 0, .int 0, .int 0])), (q_100, .inr (15, [.int 0, .int 10, .int 10, .int 114, .int 0, .int 0, .int (-1), .int 0, .int 110, .int 0])), (q_101, .inr (15, [.int 0, .int 10, .int 10, .int 114, .int 0, .int 0, .int (-1), .int 0, .int 110, .int 0])), (q_102, .inr (15, [.int 0, .int 10, .int 10, .int 114, .int 0, .int 0, .int (-1), .int 0, .int 110, .int 0])), (q_103, .inr (3, [.int 4, .ref q_104, .int 4])), (q_104, .inl (cO, 10, .inr (.inr (.inr (.inr (va_up (va_up (va_up (va_up nn 0 (some q_100)) 1 (some q_101)) 2 (some q_102)) 3 (some q_105))))))), (q_105, .inr (15, [.int 0, .int 10, .int 10, .int 114, .int 0, .int 0, .int (-1), .int 0, .int 110, .int 0])), (q_116, .inl (cA_117, 1, .inr (.inl v_121)))] H := hP
  have hD : va_D A [(q_90, .inr (16, [.ref q_97, .ref q_103, .ref q_113, .ref q_92, .ref q_93, .int 0, .int 0, .int 0, .int 105, .int 0, .int 0, .int 0, .int (-1), .int 0, .int 0, .int 0, .int 0, .int 0, .int 0, .int 0, .long 0, .int 0, .int 0])), (q_100, .inr (15, [.int 0, .int 10, .int 10, .int 114, .int 0, .int 0, .int (-1), .int 0, .int 110, .int 0])), (q_101, .inr (15, [.int 0, .int 10, .int 10, .int 114, .int 0, .int 0, .int (-1), .int 0, .int 110, .int 0])), (q_102, .inr (15, [.int 0, .int 10, .int 10, .int 114, .int 0, .int 0, .int (-1), .int 0, .int 110, .int 0])), (q_103, .inr (3, [.int 4, .ref q_104, .int 4])), (q_104, .inl (cO, 10, .inr (.inr (.inr (.inr (va_up (va_up (va_up (va_up nn 0 (some q_100)) 1 (some q_101)) 2 (some q_102)) 3 (some q_105))))))), (q_105, .inr (15, [.int 0, .int 10, .int 10, .int 114, .int 0, .int 0, .int (-1), .int 0, .int 110, .int 0])), (q_116, .inl (cA_117, 1, .inr (.inl v_121)))] := hD
  refine lt_ci (y := sp_X8_count (xs 1)) (hw.1) ?_
  have hv_122 : sp_X8_count (xs 1) = 0 → v_121 0 = 0 := hw.2
  refine W.widen (k := 116) (n := 1860) (Nat.le_of_ble_eq_true rfl) (Nat.le_of_ble_eq_true rfl) ?_
  refine lv_istore (lv' := [(6, .int (sp_X8_count (xs 1))), (5, .int 0), (4, .ref q_118), (3, .ref q_116), (2, .ref q_90), (1, .ref q_1), (0, .ref b)]) hx hb dL_law_1300 hl (by decide) rfl (fun ls hl => ?_)
  refine lv_aload_n hx hb dL_law_1302 rfl (lv_at hl 4 rfl) ?_
  refine lv_aload_n hx hb dL_law_1303 rfl (lv_at hl 6 rfl) ?_
  refine lv_iload hx hb dL_law_1304 (lv_at hl 1 rfl) ?_
  refine lv_iconst (v := 1) hx hb dL_law_1306 (by decide) ?_
  refine lv_iadd hx hb dL_law_1307 ?_
  refine lt_ci (y := 1) (by first | rfl | decide) ?_
  refine va_sld hx hb hX hbl hbA hS (by unfold vp_in; decide) dL_law_1308 ?_
  refine lt_ci (y := (xs 1)) rfl ?_
  have hPc := hP.sub (ws' := [(q_90, .inr (16, [.ref q_97, .ref q_103, .ref q_113, .ref q_92, .ref q_93, .int 0, .int 0, .int 0, .int 105, .int 0, .int 0, .int 0, .int (-1), .int 0, .int 0, .int 0, .int 0, .int 0, .int 0, .int 0, .long 0, .int 0, .int 0])), (q_103, .inr (3, [.int 4, .ref q_104, .int 4])), (q_104, .inl (cO, 10, .inr (.inr (.inr (.inr (va_up (va_up (va_up (va_up nn 0 (some q_100)) 1 (some q_101)) 2 (some q_102)) 3 (some q_105))))))), (q_100, .inr (15, [.int 0, .int 10, .int 10, .int 114, .int 0, .int 0, .int (-1), .int 0, .int 110, .int 0])), (q_101, .inr (15, [.int 0, .int 10, .int 10, .int 114, .int 0, .int 0, .int (-1), .int 0, .int 110, .int 0])), (q_102, .inr (15, [.int 0, .int 10, .int 10, .int 114, .int 0, .int 0, .int (-1), .int 0, .int 110, .int 0])), (q_105, .inr (15, [.int 0, .int 10, .int 10, .int 114, .int 0, .int 0, .int (-1), .int 0, .int 110, .int 0]))]) [0, 4, 5, 1, 2, 3, 6] rfl
  have hDc := hD.sub (ws' := [(q_90, .inr (16, [.ref q_97, .ref q_103, .ref q_113, .ref q_92, .ref q_93, .int 0, .int 0, .int 0, .int 105, .int 0, .int 0, .int 0, .int (-1), .int 0, .int 0, .int 0, .int 0, .int 0, .int 0, .int 0, .long 0, .int 0, .int 0])), (q_103, .inr (3, [.int 4, .ref q_104, .int 4])), (q_104, .inl (cO, 10, .inr (.inr (.inr (.inr (va_up (va_up (va_up (va_up nn 0 (some q_100)) 1 (some q_101)) 2 (some q_102)) 3 (some q_105))))))), (q_100, .inr (15, [.int 0, .int 10, .int 10, .int 114, .int 0, .int 0, .int (-1), .int 0, .int 110, .int 0])), (q_101, .inr (15, [.int 0, .int 10, .int 10, .int 114, .int 0, .int 0, .int (-1), .int 0, .int 110, .int 0])), (q_102, .inr (15, [.int 0, .int 10, .int 10, .int 114, .int 0, .int 0, .int (-1), .int 0, .int 110, .int 0])), (q_105, .inr (15, [.int 0, .int 10, .int 10, .int 114, .int 0, .int 0, .int (-1), .int 0, .int 110, .int 0]))]) [0, 4, 5, 1, 2, 3, 6] (by decide) rfl
  have hKc := hK.sub (tys' := [(cI, .int), (cZ, .boolean), (cO, .object "java/lang/Object")]) [0, 1, 2] rfl
  have hFc := va_free (wc := [(q_90, .inr (16, [.ref q_97, .ref q_103, .ref q_113, .ref q_92, .ref q_93, .int 0, .int 0, .int 0, .int 105, .int 0, .int 0, .int 0, .int (-1), .int 0, .int 0, .int 0, .int 0, .int 0, .int 0, .int 0, .long 0, .int 0, .int 0])), (q_103, .inr (3, [.int 4, .ref q_104, .int 4])), (q_104, .inl (cO, 10, .inr (.inr (.inr (.inr (va_up (va_up (va_up (va_up nn 0 (some q_100)) 1 (some q_101)) 2 (some q_102)) 3 (some q_105))))))), (q_100, .inr (15, [.int 0, .int 10, .int 10, .int 114, .int 0, .int 0, .int (-1), .int 0, .int 110, .int 0])), (q_101, .inr (15, [.int 0, .int 10, .int 10, .int 114, .int 0, .int 0, .int (-1), .int 0, .int 110, .int 0])), (q_102, .inr (15, [.int 0, .int 10, .int 10, .int 114, .int 0, .int 0, .int (-1), .int 0, .int 110, .int 0])), (q_105, .inr (15, [.int 0, .int 10, .int 10, .int 114, .int 0, .int 0, .int (-1), .int 0, .int 110, .int 0]))]) hD hS hA [0, 4, 5, 1, 2, 3, 6] rfl
  refine va_calli (va_runV (As := [.int (xs 1)]) (rest := []) ⟨hx, hb, hml, hown, hts⟩ (c_X12_count_ l dC dI g q_90 q_92 q_93 q_97 q_103 q_104 q_100 q_101 q_102 q_105 q_113 cI cZ cO 0 (xs 1) H.size) (cwV 1 hts gL_law_X12_count_ rfl rfl rfl (by decide +kernel) ⟨Nat.le_of_ble_eq_true rfl, Nat.le_of_ble_eq_true rfl⟩) ⟨wIn_blind, va_recv hK hP (ci := 16) (q0 := 0) rfl rfl, wIn_at hPc hKc hDc hG hS hFc⟩ rfl rfl hl.1 rfl (lv_room (Nat.le_of_ble_eq_true rfl)) dL_law_1309 ⟨Nat.le_of_ble_eq_true rfl, Nat.le_of_ble_eq_true rfl⟩) hS (fun q _ h => hFc q h) hFc (fun r_123 u t H1 locs ht hvm hw hB hz1 hk1 hS => ?_)
  obtain ⟨v_124, rfl⟩ : ∃ z, z = u := ⟨_, rfl⟩
  have hw : v_124 = mp_X12_count_ (xs 1) ∧ (mp_X12_count_ (xs 1) = 0 → r_123 = 0) := hw
  obtain ⟨hm9, hv_125⟩ := hw
  subst hm9
  obtain ⟨hP1, hK1, hD1⟩ := hB
  rw [ht] at hP1
  obtain ⟨hP, hD⟩ := va_join (wr := [(q_116, .inl (cA_117, 1, .inr (.inl v_121)))]) (w1 := [(q_90, .inr (16, [.ref q_97, .ref q_103, .ref q_113, .ref q_92, .ref q_93, .int 0, .int 0, .int 0, .int 105, .int 0, .int 0, .int 0, .int (-1), .int 0, .int 0, .int 0, .int 0, .int 0, .int 0, .int 0, .long 0, .int 0, .int (mp_X12_count_ (xs 1))]))]) hP hD [0, 4, 5, 1, 2, 3, 6] [7] rfl rfl (by decide) (by decide) hk1 hFc hP1 hD1
  generalize H1 = H at hP hS ⊢
  have hP : va_P (dC, dI) vwCl [(q_116, .inl (cA_117, 1, .inr (.inl v_121))), (q_90, .inr (16, [.ref q_97, .ref q_103, .ref q_113, .ref q_92, .ref q_93, .int 0, .int 0, .int 0, .int 105, .int 0, .int 0, .int 0, .int (-1), .int 0, .int 0, .int 0, .int 0, .int 0, .int 0, .int 0, .long 0, .int 0, .int (mp_X12_count_ (xs 1))]))] H := hP
  have hD : va_D A [(q_116, .inl (cA_117, 1, .inr (.inl v_121))), (q_90, .inr (16, [.ref q_97, .ref q_103, .ref q_113, .ref q_92, .ref q_93, .int 0, .int 0, .int 0, .int 105, .int 0, .int 0, .int 0, .int (-1), .int 0, .int 0, .int 0, .int 0, .int 0, .int 0, .int 0, .long 0, .int 0, .int (mp_X12_count_ (xs 1))]))] := hD
  refine lv_istore (lv' := [(7, .int r_123), (6, .int (sp_X8_count (xs 1))), (5, .int 0), (4, .ref q_118), (3, .ref q_116), (2, .ref q_90), (1, .ref q_1), (0, .ref b)]) hx hb dL_law_1312 hl (by decide) rfl (fun ls hl => ?_)
  refine lv_aload_n hx hb dL_law_1314 rfl (lv_at hl 5 rfl) ?_
  have hPc := hP.sub (ws' := [(q_90, .inr (16, [.ref q_97, .ref q_103, .ref q_113, .ref q_92, .ref q_93, .int 0, .int 0, .int 0, .int 105, .int 0, .int 0, .int 0, .int (-1), .int 0, .int 0, .int 0, .int 0, .int 0, .int 0, .int 0, .long 0, .int 0, .int (mp_X12_count_ (xs 1))]))]) [1] rfl
  have hDc := hD.sub (ws' := [(q_90, .inr (16, [.ref q_97, .ref q_103, .ref q_113, .ref q_92, .ref q_93, .int 0, .int 0, .int 0, .int 105, .int 0, .int 0, .int 0, .int (-1), .int 0, .int 0, .int 0, .int 0, .int 0, .int 0, .int 0, .long 0, .int 0, .int (mp_X12_count_ (xs 1))]))]) [1] (by decide) rfl
  have hKc := hK.sub (tys' := [(cI, .int), (cZ, .boolean), (cO, .object "java/lang/Object")]) [0, 1, 2] rfl
  have hFc := va_free (wc := [(q_90, .inr (16, [.ref q_97, .ref q_103, .ref q_113, .ref q_92, .ref q_93, .int 0, .int 0, .int 0, .int 105, .int 0, .int 0, .int 0, .int (-1), .int 0, .int 0, .int 0, .int 0, .int 0, .int 0, .int 0, .long 0, .int 0, .int (mp_X12_count_ (xs 1))]))]) hD hS hA [1] rfl
  refine va_calli (va_runV (As := []) (rest := []) ⟨hx, hb, hml, hown, hts⟩ (c_X12_thrown l dC dI g q_90 (.ref q_97) (.ref q_103) (.ref q_113) (.ref q_92) (.ref q_93) (.int 0) (.int 0) (.int 0) (.int 105) (.int 0) (.int 0) (.int 0) (.int (-1)) (.int 0) (.int 0) (.int 0) (.int 0) (.int 0) (.int 0) (.int 0) (.long 0) (.int 0) cI cZ cO (mp_X12_count_ (xs 1)) H.size) (cwV 0 hts gL_law_X12_thrown rfl rfl rfl (by decide +kernel) ⟨Nat.le_of_ble_eq_true rfl, Nat.le_of_ble_eq_true rfl⟩) ⟨wIn_blind, va_recv hK hP (ci := 16) (q0 := 1) rfl rfl, wIn_at hPc hKc hDc hG hS hFc⟩ rfl rfl hl.1 rfl (lv_room (Nat.le_of_ble_eq_true rfl)) dL_law_1315 ⟨Nat.le_of_ble_eq_true rfl, Nat.le_of_ble_eq_true rfl⟩) hS (fun q _ h => hFc q h) hFc (fun r_126 u t H1 locs ht hvm hw hB hz1 hk1 hS => ?_)
  obtain ⟨hP1, hK1, hD1⟩ := hB
  rw [ht] at hP1
  obtain ⟨hP, hD⟩ := va_join (wr := [(q_116, .inl (cA_117, 1, .inr (.inl v_121)))]) (w1 := [(q_90, .inr (16, [.ref q_97, .ref q_103, .ref q_113, .ref q_92, .ref q_93, .int 0, .int 0, .int 0, .int 105, .int 0, .int 0, .int 0, .int (-1), .int 0, .int 0, .int 0, .int 0, .int 0, .int 0, .int 0, .long 0, .int 0, .int (mp_X12_count_ (xs 1))]))]) hP hD [1] [0] rfl rfl (by decide) (by decide) hk1 hFc hP1 hD1
  generalize H1 = H at hP hS ⊢
  have hP : va_P (dC, dI) vwCl [(q_116, .inl (cA_117, 1, .inr (.inl v_121))), (q_90, .inr (16, [.ref q_97, .ref q_103, .ref q_113, .ref q_92, .ref q_93, .int 0, .int 0, .int 0, .int 105, .int 0, .int 0, .int 0, .int (-1), .int 0, .int 0, .int 0, .int 0, .int 0, .int 0, .int 0, .long 0, .int 0, .int (mp_X12_count_ (xs 1))]))] H := hP
  have hD : va_D A [(q_116, .inl (cA_117, 1, .inr (.inl v_121))), (q_90, .inr (16, [.ref q_97, .ref q_103, .ref q_113, .ref q_92, .ref q_93, .int 0, .int 0, .int 0, .int 105, .int 0, .int 0, .int 0, .int (-1), .int 0, .int 0, .int 0, .int 0, .int 0, .int 0, .int 0, .long 0, .int 0, .int (mp_X12_count_ (xs 1))]))] := hD
  refine lt_ci (y := (mp_X12_count_ (xs 1))) hw ?_
  refine lt_ci (y := sp_X8_count (xs 1)) (sm_X12_count_ _) ?_
  refine lv_iload hx hb dL_law_1318 (lv_at hl 1 rfl) ?_
  refine lv_icmp_eq (tgt := 1325) hx hb dL_law_1320 (by decide) (fun _ => ?_) (fun c => absurd (rfl) c)
  refine lv_iload hx hb dL_law_1325 (lv_at hl 1 rfl) ?_
  refine lv_if_ne (tgt := 1342) hx hb dL_law_1327 (by decide) (fun c_1327 => ?_) (fun c_1327 => ?_)
  · refine lv_goto (tgt := 1976) hx hb dL_law_1342 (by decide) ?_
    refine lv_iinc (v := 6) (lv' := [(5, .int 6), (7, .int r_123), (6, .int (sp_X8_count (xs 1))), (4, .ref q_118), (3, .ref q_116), (2, .ref q_90), (1, .ref q_1), (0, .ref b)]) hx hb dL_law_1976 hl (k := 2) rfl (by first | rfl | decide) (by decide) rfl (fun ls hl => ?_)
    refine lv_goto (tgt := 28) hx hb dL_law_1979 (by decide) ?_
    refine lv_iload hx hb dL_law_28 (lv_at hl 0 rfl) ?_
    refine lv_aload_n hx hb dL_law_30 rfl (lv_at hl 7 rfl) ?_
    refine va_slen hx hb hX hbl hbA hS dL_law_31 ?_
    refine lt_ci (y := 6) rfl ?_
    refine lv_bipush (v := 6) hx hb dL_law_32 (by decide) ?_
    refine lv_isub hx hb dL_law_34 ?_
    refine lt_ci (y := 0) (by first | rfl | decide) ?_
    refine lv_icmp_gt (tgt := 1982) hx hb dL_law_35 (by decide) (fun _ => ?_) (fun c => absurd (by decide) c)
    refine lv_iconst (v := 1) hx hb dL_law_1982 (by decide) ?_
    refine W.widen (k := 735603) (n := 6895256) (Nat.le_of_ble_eq_true rfl) (Nat.le_of_ble_eq_true rfl) ?_
    refine va_forget (fun q hq => by have h9 := hS.2.2 q hq; rw [hAe] at h9; exact h9) ?_
    exact W.base (lw_ret (Drawn.sameBut.refl s.drawn lw_cs) hx hb hr hlocks dL_law_1983)
  · refine lv_aload_n hx hb dL_law_1330 rfl (lv_at hl 4 rfl) ?_
    refine lv_iconst (v := 0) hx hb dL_law_1331 (by decide) ?_
    refine va_lald (D := (dC, dI)) hx hb hK hP 0 3 rfl rfl (by unfold vp_in; decide) dL_law_1332 ?_
    refine lt_cl (y := 0) (show _ = (0 : Int64) from hv_122 c_1327) ?_
    refine lv_iload hx hb dL_law_1333 (lv_at hl 0 rfl) ?_
    refine lt_ci (y := 0) (hv_125 ((sm_X12_count_ _).trans c_1327)) ?_
    refine lv_i2l (v := 0) hx hb dL_law_1335 (by first | rfl | decide) ?_
    refine W.lcmp hx hb dL_law_1336 ?_
    refine lt_ci (y := 0) (by first | rfl | decide) ?_
    refine lv_if_eq (tgt := 1342) hx hb dL_law_1337 (by decide) (fun _ => ?_) (fun c => absurd (by decide) c)
    refine lv_goto (tgt := 1976) hx hb dL_law_1342 (by decide) ?_
    refine lv_iinc (v := 6) (lv' := [(5, .int 6), (7, .int r_123), (6, .int (sp_X8_count (xs 1))), (4, .ref q_118), (3, .ref q_116), (2, .ref q_90), (1, .ref q_1), (0, .ref b)]) hx hb dL_law_1976 hl (k := 2) rfl (by first | rfl | decide) (by decide) rfl (fun ls hl => ?_)
    refine lv_goto (tgt := 28) hx hb dL_law_1979 (by decide) ?_
    refine lv_iload hx hb dL_law_28 (lv_at hl 0 rfl) ?_
    refine lv_aload_n hx hb dL_law_30 rfl (lv_at hl 7 rfl) ?_
    refine va_slen hx hb hX hbl hbA hS dL_law_31 ?_
    refine lt_ci (y := 6) rfl ?_
    refine lv_bipush (v := 6) hx hb dL_law_32 (by decide) ?_
    refine lv_isub hx hb dL_law_34 ?_
    refine lt_ci (y := 0) (by first | rfl | decide) ?_
    refine lv_icmp_gt (tgt := 1982) hx hb dL_law_35 (by decide) (fun _ => ?_) (fun c => absurd (by decide) c)
    refine lv_iconst (v := 1) hx hb dL_law_1982 (by decide) ?_
    refine W.widen (k := 735603) (n := 6895256) (Nat.le_of_ble_eq_true rfl) (Nat.le_of_ble_eq_true rfl) ?_
    refine va_forget (fun q hq => by have h9 := hS.2.2 q hq; rw [hAe] at h9; exact h9) ?_
    exact W.base (lw_ret (Drawn.sameBut.refl s.drawn lw_cs) hx hb hr hlocks dL_law_1983)
set_option maxHeartbeats 8000000 in
set_option maxRecDepth 100000 in
theorem c_L_law_17 {p : Program} {e : Env} {s : State} {m : MethodId} {below : List Frame} {meth : Method} {c : Code} (l : Launch) (hl9 : l.stackTraces = false) (dC : Nat → ClassId) (dI : Nat → Nat → Nat) (g : Nat × Nat × Nat) (b : Nat) (xs : Nat → Int32) (cI cZ cO : ClassId) (hx : p.tables.exec = Jvm.exec) (hb : c.code = cL_law) (hr : meth.sig.returnType = ret) (hml : c.maxLocals = 9) (hown : s.vm.findClass RL = some m.cls) (hts : ∀ w ∈ wsL_law, w.before #[Value.ref b] s = true) (hX : va_X b 6 xs s s.heap) (hbl : b < s.heap.size) (hlocks : meth.locks = false) (hG : gx g (fun q => s.heap.size ≤ q) s s.heap) (hk : (xs 0 &&& 63) = 17) (cA_117 : ClassId) (cA_119 : ClassId) (q_1 : Nat) (q_3 : Nat) (q_4 : Nat) (q_10 : Nat) (q_11 : Nat) (q_12 : Nat) (q_13 : Nat) (q_14 : Nat) (q_15 : Nat) (q_16 : Nat) (q_17 : Nat) (q_18 : Nat) (q_21 : Nat) (q_27 : Nat) (q_31 : Nat) (q_32 : Nat) (q_61 : Nat) (q_90 : Nat) (q_92 : Nat) (q_93 : Nat) (q_97 : Nat) (q_100 : Nat) (q_101 : Nat) (q_102 : Nat) (q_103 : Nat) (q_104 : Nat) (q_105 : Nat) (q_113 : Nat) (q_116 : Nat) (q_118 : Nat) (H : Heap) (locs : List Loc) (ls : Array Slot) (hK : va_K (dC, dI) vwCl [(cI, .int), (cZ, .boolean), (cO, .object "java/lang/Object"), (cA_117, .long), (cA_119, .double)] s) (hP : va_P (dC, dI) vwCl [(q_1, .inr (12, [.ref q_3, .ref q_32, .ref q_61])), (q_3, .inr (4, [.ref q_4, .ref q_10, .ref q_18, .ref q_21, .ref q_27, .ref q_31, .int 0, .int 0, .long 0])), (q_10, .inr (10, [.ref q_11, .ref q_14, .ref q_15, .ref q_16, .ref q_12, .ref q_13, .ref q_17, .int 0, .int 0])), (q_11, .inl (cI, 4, .inl (cn 0))), (q_12, .inl (cI, 4, .inl (cn 0))), (q_13, .inl (cI, 4, .inl (cn 0))), (q_14, .inl (cI, 4, .inl (cn 10))), (q_15, .inl (cI, 4, .inl (cn 10))), (q_16, .inl (cI, 4, .inl (cn (-1)))), (q_17, .inl (cI, 4, .inl (cn 110))), (q_90, .inr (16, [.ref q_97, .ref q_103, .ref q_113, .ref q_92, .ref q_93, .int 0, .int 0, .int 0, .int 105, .int 0, .int 0, .int 0, .int (-1), .int 0, .int 0, .int 0, .int 0, .int 0, .int 0, .int 0, .long 0, .int 0, .int 0])), (q_100, .inr (15, [.int 0, .int 10, .int 10, .int 114, .int 0, .int 0, .int (-1), .int 0, .int 110, .int 0])), (q_101, .inr (15, [.int 0, .int 10, .int 10, .int 114, .int 0, .int 0, .int (-1), .int 0, .int 110, .int 0])), (q_102, .inr (15, [.int 0, .int 10, .int 10, .int 114, .int 0, .int 0, .int (-1), .int 0, .int 110, .int 0])), (q_103, .inr (3, [.int 4, .ref q_104, .int 4])), (q_104, .inl (cO, 10, .inr (.inr (.inr (.inr (va_up (va_up (va_up (va_up nn 0 (some q_100)) 1 (some q_101)) 2 (some q_102)) 3 (some q_105))))))), (q_105, .inr (15, [.int 0, .int 10, .int 10, .int 114, .int 0, .int 0, .int (-1), .int 0, .int 110, .int 0])), (q_116, .inl (cA_117, 1, .inr (.inl cnL)))] H) (hD : va_D (fun q => s.heap.size ≤ q) [(q_1, .inr (12, [.ref q_3, .ref q_32, .ref q_61])), (q_3, .inr (4, [.ref q_4, .ref q_10, .ref q_18, .ref q_21, .ref q_27, .ref q_31, .int 0, .int 0, .long 0])), (q_10, .inr (10, [.ref q_11, .ref q_14, .ref q_15, .ref q_16, .ref q_12, .ref q_13, .ref q_17, .int 0, .int 0])), (q_11, .inl (cI, 4, .inl (cn 0))), (q_12, .inl (cI, 4, .inl (cn 0))), (q_13, .inl (cI, 4, .inl (cn 0))), (q_14, .inl (cI, 4, .inl (cn 10))), (q_15, .inl (cI, 4, .inl (cn 10))), (q_16, .inl (cI, 4, .inl (cn (-1)))), (q_17, .inl (cI, 4, .inl (cn 110))), (q_90, .inr (16, [.ref q_97, .ref q_103, .ref q_113, .ref q_92, .ref q_93, .int 0, .int 0, .int 0, .int 105, .int 0, .int 0, .int 0, .int (-1), .int 0, .int 0, .int 0, .int 0, .int 0, .int 0, .int 0, .long 0, .int 0, .int 0])), (q_100, .inr (15, [.int 0, .int 10, .int 10, .int 114, .int 0, .int 0, .int (-1), .int 0, .int 110, .int 0])), (q_101, .inr (15, [.int 0, .int 10, .int 10, .int 114, .int 0, .int 0, .int (-1), .int 0, .int 110, .int 0])), (q_102, .inr (15, [.int 0, .int 10, .int 10, .int 114, .int 0, .int 0, .int (-1), .int 0, .int 110, .int 0])), (q_103, .inr (3, [.int 4, .ref q_104, .int 4])), (q_104, .inl (cO, 10, .inr (.inr (.inr (.inr (va_up (va_up (va_up (va_up nn 0 (some q_100)) 1 (some q_101)) 2 (some q_102)) 3 (some q_105))))))), (q_105, .inr (15, [.int 0, .int 10, .int 10, .int 114, .int 0, .int 0, .int (-1), .int 0, .int 110, .int 0])), (q_116, .inl (cA_117, 1, .inr (.inl cnL)))]) (hS : va_S (fun q => s.heap.size ≤ q) s.heap H locs) (hl : lv_has ls 9 [(5, .int 0), (4, .ref q_118), (3, .ref q_116), (2, .ref q_90), (1, .ref q_1), (0, .ref b)]) : W p l e room_1 s m #[Value.ref b] below meth c H locs 115 1854 (lw_Z below #[Value.ref b] s) (F0 m 28 ls []) := by
  have hN := hG.1
  obtain ⟨A, hAe⟩ : ∃ A : Nat → Prop, A = (fun q => s.heap.size ≤ q) := ⟨_, rfl⟩
  rw [← hAe] at hG hD hS
  have hA : ∀ q : Nat, s.heap.size ≤ q → A q := fun q h => by rw [hAe]; exact h
  have hbA : ¬ A b := by rw [hAe]; exact Nat.not_le.mpr hbl
  refine lv_iload hx hb dL_law_28 (lv_at hl 0 rfl) ?_
  refine lv_aload_n hx hb dL_law_30 rfl (lv_at hl 5 rfl) ?_
  refine va_slen hx hb hX hbl hbA hS dL_law_31 ?_
  refine lt_ci (y := 6) rfl ?_
  refine lv_bipush (v := 6) hx hb dL_law_32 (by decide) ?_
  refine lv_isub hx hb dL_law_34 ?_
  refine lt_ci (y := 0) (by first | rfl | decide) ?_
  refine lv_icmp_gt (tgt := 1982) hx hb dL_law_35 (by decide) (fun c => absurd c (by decide)) (fun _ => ?_)
  refine lv_aload_n hx hb dL_law_38 rfl (lv_at hl 5 rfl) ?_
  refine lv_iload hx hb dL_law_39 (lv_at hl 0 rfl) ?_
  refine va_sld hx hb hX hbl hbA hS (by unfold vp_in; decide) dL_law_41 ?_
  refine lt_ci (y := (xs 0)) rfl ?_
  refine lv_bipush (v := 63) hx hb dL_law_42 (by decide) ?_
  refine lv_iand hx hb dL_law_44 ?_
  refine lt_ci (y := 17) hk ?_
  refine lv_tableIn (off := 1300) (tgt := 1345) hx hb dL_law_45 (by decide) (by decide) (by decide) (by decide) ?_
  refine lv_aload_n hx hb dL_law_1345 rfl (lv_at hl 4 rfl) ?_
  refine lv_aload_n hx hb dL_law_1346 rfl (lv_at hl 5 rfl) ?_
  refine lv_iload hx hb dL_law_1347 (lv_at hl 0 rfl) ?_
  refine lv_iconst (v := 1) hx hb dL_law_1349 (by decide) ?_
  refine lv_iadd hx hb dL_law_1350 ?_
  refine lt_ci (y := 1) (by first | rfl | decide) ?_
  refine va_sld hx hb hX hbl hbA hS (by unfold vp_in; decide) dL_law_1351 ?_
  refine lt_ci (y := (xs 1)) rfl ?_
  refine lv_aload_n hx hb dL_law_1352 rfl (lv_at hl 2 rfl) ?_
  have hPc := hP.sub (ws' := [(q_1, .inr (12, [.ref q_3, .ref q_32, .ref q_61])), (q_3, .inr (4, [.ref q_4, .ref q_10, .ref q_18, .ref q_21, .ref q_27, .ref q_31, .int 0, .int 0, .long 0])), (q_10, .inr (10, [.ref q_11, .ref q_14, .ref q_15, .ref q_16, .ref q_12, .ref q_13, .ref q_17, .int 0, .int 0])), (q_11, .inl (cI, 4, .inl (cn 0))), (q_14, .inl (cI, 4, .inl (cn 10))), (q_15, .inl (cI, 4, .inl (cn 10))), (q_16, .inl (cI, 4, .inl (cn (-1)))), (q_12, .inl (cI, 4, .inl (cn 0))), (q_13, .inl (cI, 4, .inl (cn 0))), (q_17, .inl (cI, 4, .inl (cn 110))), (q_116, .inl (cA_117, 1, .inr (.inl cnL)))]) [0, 1, 2, 3, 6, 7, 8, 4, 5, 9, 17] rfl
  have hDc := hD.sub (ws' := [(q_1, .inr (12, [.ref q_3, .ref q_32, .ref q_61])), (q_3, .inr (4, [.ref q_4, .ref q_10, .ref q_18, .ref q_21, .ref q_27, .ref q_31, .int 0, .int 0, .long 0])), (q_10, .inr (10, [.ref q_11, .ref q_14, .ref q_15, .ref q_16, .ref q_12, .ref q_13, .ref q_17, .int 0, .int 0])), (q_11, .inl (cI, 4, .inl (cn 0))), (q_14, .inl (cI, 4, .inl (cn 10))), (q_15, .inl (cI, 4, .inl (cn 10))), (q_16, .inl (cI, 4, .inl (cn (-1)))), (q_12, .inl (cI, 4, .inl (cn 0))), (q_13, .inl (cI, 4, .inl (cn 0))), (q_17, .inl (cI, 4, .inl (cn 110))), (q_116, .inl (cA_117, 1, .inr (.inl cnL)))]) [0, 1, 2, 3, 6, 7, 8, 4, 5, 9, 17] (by decide) rfl
  have hKc := hK.sub (tys' := [(cI, .int), (cA_117, .long)]) [0, 3] rfl
  have hFc := va_free (wc := [(q_1, .inr (12, [.ref q_3, .ref q_32, .ref q_61])), (q_3, .inr (4, [.ref q_4, .ref q_10, .ref q_18, .ref q_21, .ref q_27, .ref q_31, .int 0, .int 0, .long 0])), (q_10, .inr (10, [.ref q_11, .ref q_14, .ref q_15, .ref q_16, .ref q_12, .ref q_13, .ref q_17, .int 0, .int 0])), (q_11, .inl (cI, 4, .inl (cn 0))), (q_14, .inl (cI, 4, .inl (cn 10))), (q_15, .inl (cI, 4, .inl (cn 10))), (q_16, .inl (cI, 4, .inl (cn (-1)))), (q_12, .inl (cI, 4, .inl (cn 0))), (q_13, .inl (cI, 4, .inl (cn 0))), (q_17, .inl (cI, 4, .inl (cn 110))), (q_116, .inl (cA_117, 1, .inr (.inl cnL)))]) hD hS hA [0, 1, 2, 3, 6, 7, 8, 4, 5, 9, 17] rfl
  refine vx_calli (vx_runSX (As := [.ref q_1, .int (xs 1), .ref q_116]) (rest := []) ⟨hx, hb, hml, hown, hts⟩ (c_L_isRunning l hl9 dC dI g q_1 q_32 q_61 q_3 q_4 q_10 q_11 q_14 q_15 q_16 q_12 q_13 q_17 q_18 q_21 q_27 q_31 cI (xs 1) cnL q_116 cA_117 H.size) (vx_cwSW 3 hts gL_law_L_isRunning rfl rfl rfl (by decide +kernel) ⟨Nat.le_of_ble_eq_true rfl, Nat.le_of_ble_eq_true rfl⟩) ⟨wIn_blind, wIn_at hPc hKc hDc hG hS hFc⟩ rfl rfl hl.1 rfl (lv_room (Nat.le_of_ble_eq_true rfl)) dL_law_1353 ⟨Nat.le_of_ble_eq_true rfl, Nat.le_of_ble_eq_true rfl⟩) hS (fun q _ h => hFc q h) hFc (fun q _ h => hFc q h) (fun E9 ce9 q9 u9 t H1 locs ht hvm hx9 hB9 hz1 hk1 hS hce hcv hcl => False.elim hx9) (fun r_120 u t H1 locs ht hvm hw hB hz1 hk1 hS => ?_)
  obtain ⟨v_121, rfl⟩ : ∃ z, z = u := ⟨_, rfl⟩
  obtain ⟨hP1, hK1, hD1⟩ := hB
  rw [ht] at hP1
  obtain ⟨hP, hD⟩ := va_join (wr := [(q_90, .inr (16, [.ref q_97, .ref q_103, .ref q_113, .ref q_92, .ref q_93, .int 0, .int 0, .int 0, .int 105, .int 0, .int 0, .int 0, .int (-1), .int 0, .int 0, .int 0, .int 0, .int 0, .int 0, .int 0, .long 0, .int 0, .int 0])), (q_100, .inr (15, [.int 0, .int 10, .int 10, .int 114, .int 0, .int 0, .int (-1), .int 0, .int 110, .int 0])), (q_101, .inr (15, [.int 0, .int 10, .int 10, .int 114, .int 0, .int 0, .int (-1), .int 0, .int 110, .int 0])), (q_102, .inr (15, [.int 0, .int 10, .int 10, .int 114, .int 0, .int 0, .int (-1), .int 0, .int 110, .int 0])), (q_103, .inr (3, [.int 4, .ref q_104, .int 4])), (q_104, .inl (cO, 10, .inr (.inr (.inr (.inr (va_up (va_up (va_up (va_up nn 0 (some q_100)) 1 (some q_101)) 2 (some q_102)) 3 (some q_105))))))), (q_105, .inr (15, [.int 0, .int 10, .int 10, .int 114, .int 0, .int 0, .int (-1), .int 0, .int 110, .int 0]))]) (w1 := [(q_116, .inl (cA_117, 1, .inr (.inl v_121)))]) hP hD [0, 1, 2, 3, 6, 7, 8, 4, 5, 9, 17] [10, 11, 12, 13, 14, 15, 16] rfl rfl (by decide) (by decide) hk1 hFc hP1 hD1
  generalize H1 = H at hP hS ⊢
  have hP : va_P (dC, dI) vwCl [(q_90, .inr (16, [.ref q_97, .ref q_103, .ref q_113, .ref q_92, .ref q_93, .int 0, .int 0, .int 0, .int 105, .int 0, .int 0, .int 0, .int (-1), .int 0, .int 0, .int 0, .int 0, .int 0, .int 0, .int 0, .long 0, .int 0, .int 0])), (q_100, .inr (15, [.int 0, .int 10, .int 10, .int 114, .int 0, .int 0, .int (-1), .int 0, .int 110, .int 0])), (q_101, .inr (15, [.int 0, .int 10, .int 10, .int 114, .int 0, .int 0, .int (-1), .int 0, .int 110, .int 0])), (q_102, .inr (15, [.int 0, .int 10, .int 10, .int 114, .int 0, .int 0, .int (-1), .int 0, .int 110, .int 0])), (q_103, .inr (3, [.int 4, .ref q_104, .int 4])), (q_104, .inl (cO, 10, .inr (.inr (.inr (.inr (va_up (va_up (va_up (va_up nn 0 (some q_100)) 1 (some q_101)) 2 (some q_102)) 3 (some q_105))))))), (q_105, .inr (15, [.int 0, .int 10, .int 10, .int 114, .int 0, .int 0, .int (-1), .int 0, .int 110, .int 0])), (q_116, .inl (cA_117, 1, .inr (.inl v_121)))] H := hP
  have hD : va_D A [(q_90, .inr (16, [.ref q_97, .ref q_103, .ref q_113, .ref q_92, .ref q_93, .int 0, .int 0, .int 0, .int 105, .int 0, .int 0, .int 0, .int (-1), .int 0, .int 0, .int 0, .int 0, .int 0, .int 0, .int 0, .long 0, .int 0, .int 0])), (q_100, .inr (15, [.int 0, .int 10, .int 10, .int 114, .int 0, .int 0, .int (-1), .int 0, .int 110, .int 0])), (q_101, .inr (15, [.int 0, .int 10, .int 10, .int 114, .int 0, .int 0, .int (-1), .int 0, .int 110, .int 0])), (q_102, .inr (15, [.int 0, .int 10, .int 10, .int 114, .int 0, .int 0, .int (-1), .int 0, .int 110, .int 0])), (q_103, .inr (3, [.int 4, .ref q_104, .int 4])), (q_104, .inl (cO, 10, .inr (.inr (.inr (.inr (va_up (va_up (va_up (va_up nn 0 (some q_100)) 1 (some q_101)) 2 (some q_102)) 3 (some q_105))))))), (q_105, .inr (15, [.int 0, .int 10, .int 10, .int 114, .int 0, .int 0, .int (-1), .int 0, .int 110, .int 0])), (q_116, .inl (cA_117, 1, .inr (.inl v_121)))] := hD
  refine lt_ci (y := sp_X8_isRunning (xs 1)) (hw.1) ?_
  have hv_122 : sp_X8_isRunning (xs 1) = 0 → v_121 0 = 0 := hw.2
  refine W.widen (k := 116) (n := 1860) (Nat.le_of_ble_eq_true rfl) (Nat.le_of_ble_eq_true rfl) ?_
  refine lv_istore (lv' := [(6, .int (sp_X8_isRunning (xs 1))), (5, .int 0), (4, .ref q_118), (3, .ref q_116), (2, .ref q_90), (1, .ref q_1), (0, .ref b)]) hx hb dL_law_1356 hl (by decide) rfl (fun ls hl => ?_)
  refine lv_aload_n hx hb dL_law_1358 rfl (lv_at hl 4 rfl) ?_
  refine lv_aload_n hx hb dL_law_1359 rfl (lv_at hl 6 rfl) ?_
  refine lv_iload hx hb dL_law_1360 (lv_at hl 1 rfl) ?_
  refine lv_iconst (v := 1) hx hb dL_law_1362 (by decide) ?_
  refine lv_iadd hx hb dL_law_1363 ?_
  refine lt_ci (y := 1) (by first | rfl | decide) ?_
  refine va_sld hx hb hX hbl hbA hS (by unfold vp_in; decide) dL_law_1364 ?_
  refine lt_ci (y := (xs 1)) rfl ?_
  have hPc := hP.sub (ws' := [(q_90, .inr (16, [.ref q_97, .ref q_103, .ref q_113, .ref q_92, .ref q_93, .int 0, .int 0, .int 0, .int 105, .int 0, .int 0, .int 0, .int (-1), .int 0, .int 0, .int 0, .int 0, .int 0, .int 0, .int 0, .long 0, .int 0, .int 0])), (q_103, .inr (3, [.int 4, .ref q_104, .int 4])), (q_104, .inl (cO, 10, .inr (.inr (.inr (.inr (va_up (va_up (va_up (va_up nn 0 (some q_100)) 1 (some q_101)) 2 (some q_102)) 3 (some q_105))))))), (q_100, .inr (15, [.int 0, .int 10, .int 10, .int 114, .int 0, .int 0, .int (-1), .int 0, .int 110, .int 0])), (q_101, .inr (15, [.int 0, .int 10, .int 10, .int 114, .int 0, .int 0, .int (-1), .int 0, .int 110, .int 0])), (q_102, .inr (15, [.int 0, .int 10, .int 10, .int 114, .int 0, .int 0, .int (-1), .int 0, .int 110, .int 0])), (q_105, .inr (15, [.int 0, .int 10, .int 10, .int 114, .int 0, .int 0, .int (-1), .int 0, .int 110, .int 0]))]) [0, 4, 5, 1, 2, 3, 6] rfl
  have hDc := hD.sub (ws' := [(q_90, .inr (16, [.ref q_97, .ref q_103, .ref q_113, .ref q_92, .ref q_93, .int 0, .int 0, .int 0, .int 105, .int 0, .int 0, .int 0, .int (-1), .int 0, .int 0, .int 0, .int 0, .int 0, .int 0, .int 0, .long 0, .int 0, .int 0])), (q_103, .inr (3, [.int 4, .ref q_104, .int 4])), (q_104, .inl (cO, 10, .inr (.inr (.inr (.inr (va_up (va_up (va_up (va_up nn 0 (some q_100)) 1 (some q_101)) 2 (some q_102)) 3 (some q_105))))))), (q_100, .inr (15, [.int 0, .int 10, .int 10, .int 114, .int 0, .int 0, .int (-1), .int 0, .int 110, .int 0])), (q_101, .inr (15, [.int 0, .int 10, .int 10, .int 114, .int 0, .int 0, .int (-1), .int 0, .int 110, .int 0])), (q_102, .inr (15, [.int 0, .int 10, .int 10, .int 114, .int 0, .int 0, .int (-1), .int 0, .int 110, .int 0])), (q_105, .inr (15, [.int 0, .int 10, .int 10, .int 114, .int 0, .int 0, .int (-1), .int 0, .int 110, .int 0]))]) [0, 4, 5, 1, 2, 3, 6] (by decide) rfl
  have hKc := hK.sub (tys' := [(cI, .int), (cZ, .boolean), (cO, .object "java/lang/Object")]) [0, 1, 2] rfl
  have hFc := va_free (wc := [(q_90, .inr (16, [.ref q_97, .ref q_103, .ref q_113, .ref q_92, .ref q_93, .int 0, .int 0, .int 0, .int 105, .int 0, .int 0, .int 0, .int (-1), .int 0, .int 0, .int 0, .int 0, .int 0, .int 0, .int 0, .long 0, .int 0, .int 0])), (q_103, .inr (3, [.int 4, .ref q_104, .int 4])), (q_104, .inl (cO, 10, .inr (.inr (.inr (.inr (va_up (va_up (va_up (va_up nn 0 (some q_100)) 1 (some q_101)) 2 (some q_102)) 3 (some q_105))))))), (q_100, .inr (15, [.int 0, .int 10, .int 10, .int 114, .int 0, .int 0, .int (-1), .int 0, .int 110, .int 0])), (q_101, .inr (15, [.int 0, .int 10, .int 10, .int 114, .int 0, .int 0, .int (-1), .int 0, .int 110, .int 0])), (q_102, .inr (15, [.int 0, .int 10, .int 10, .int 114, .int 0, .int 0, .int (-1), .int 0, .int 110, .int 0])), (q_105, .inr (15, [.int 0, .int 10, .int 10, .int 114, .int 0, .int 0, .int (-1), .int 0, .int 110, .int 0]))]) hD hS hA [0, 4, 5, 1, 2, 3, 6] rfl
  refine va_calli (va_runV (As := [.int (xs 1)]) (rest := []) ⟨hx, hb, hml, hown, hts⟩ (c_X12_isRunning l dC dI g q_90 q_92 q_93 q_97 q_103 q_104 q_100 q_101 q_102 q_105 q_113 cI cZ cO 0 (xs 1) H.size) (cwV 1 hts gL_law_X12_isRunning rfl rfl rfl (by decide +kernel) ⟨Nat.le_of_ble_eq_true rfl, Nat.le_of_ble_eq_true rfl⟩) ⟨wIn_blind, va_recv hK hP (ci := 16) (q0 := 0) rfl rfl, wIn_at hPc hKc hDc hG hS hFc⟩ rfl rfl hl.1 rfl (lv_room (Nat.le_of_ble_eq_true rfl)) dL_law_1365 ⟨Nat.le_of_ble_eq_true rfl, Nat.le_of_ble_eq_true rfl⟩) hS (fun q _ h => hFc q h) hFc (fun r_123 u t H1 locs ht hvm hw hB hz1 hk1 hS => ?_)
  obtain ⟨v_124, rfl⟩ : ∃ z, z = u := ⟨_, rfl⟩
  have hw : v_124 = mp_X12_isRunning (xs 1) ∧ (mp_X12_isRunning (xs 1) = 0 → r_123 = 0) := hw
  obtain ⟨hm9, hv_125⟩ := hw
  subst hm9
  obtain ⟨hP1, hK1, hD1⟩ := hB
  rw [ht] at hP1
  obtain ⟨hP, hD⟩ := va_join (wr := [(q_116, .inl (cA_117, 1, .inr (.inl v_121)))]) (w1 := [(q_90, .inr (16, [.ref q_97, .ref q_103, .ref q_113, .ref q_92, .ref q_93, .int 0, .int 0, .int 0, .int 105, .int 0, .int 0, .int 0, .int (-1), .int 0, .int 0, .int 0, .int 0, .int 0, .int 0, .int 0, .long 0, .int 0, .int (mp_X12_isRunning (xs 1))]))]) hP hD [0, 4, 5, 1, 2, 3, 6] [7] rfl rfl (by decide) (by decide) hk1 hFc hP1 hD1
  generalize H1 = H at hP hS ⊢
  have hP : va_P (dC, dI) vwCl [(q_116, .inl (cA_117, 1, .inr (.inl v_121))), (q_90, .inr (16, [.ref q_97, .ref q_103, .ref q_113, .ref q_92, .ref q_93, .int 0, .int 0, .int 0, .int 105, .int 0, .int 0, .int 0, .int (-1), .int 0, .int 0, .int 0, .int 0, .int 0, .int 0, .int 0, .long 0, .int 0, .int (mp_X12_isRunning (xs 1))]))] H := hP
  have hD : va_D A [(q_116, .inl (cA_117, 1, .inr (.inl v_121))), (q_90, .inr (16, [.ref q_97, .ref q_103, .ref q_113, .ref q_92, .ref q_93, .int 0, .int 0, .int 0, .int 105, .int 0, .int 0, .int 0, .int (-1), .int 0, .int 0, .int 0, .int 0, .int 0, .int 0, .int 0, .long 0, .int 0, .int (mp_X12_isRunning (xs 1))]))] := hD
  refine lv_istore (lv' := [(7, .int r_123), (6, .int (sp_X8_isRunning (xs 1))), (5, .int 0), (4, .ref q_118), (3, .ref q_116), (2, .ref q_90), (1, .ref q_1), (0, .ref b)]) hx hb dL_law_1368 hl (by decide) rfl (fun ls hl => ?_)
  refine lv_aload_n hx hb dL_law_1370 rfl (lv_at hl 5 rfl) ?_
  have hPc := hP.sub (ws' := [(q_90, .inr (16, [.ref q_97, .ref q_103, .ref q_113, .ref q_92, .ref q_93, .int 0, .int 0, .int 0, .int 105, .int 0, .int 0, .int 0, .int (-1), .int 0, .int 0, .int 0, .int 0, .int 0, .int 0, .int 0, .long 0, .int 0, .int (mp_X12_isRunning (xs 1))]))]) [1] rfl
  have hDc := hD.sub (ws' := [(q_90, .inr (16, [.ref q_97, .ref q_103, .ref q_113, .ref q_92, .ref q_93, .int 0, .int 0, .int 0, .int 105, .int 0, .int 0, .int 0, .int (-1), .int 0, .int 0, .int 0, .int 0, .int 0, .int 0, .int 0, .long 0, .int 0, .int (mp_X12_isRunning (xs 1))]))]) [1] (by decide) rfl
  have hKc := hK.sub (tys' := [(cI, .int), (cZ, .boolean), (cO, .object "java/lang/Object")]) [0, 1, 2] rfl
  have hFc := va_free (wc := [(q_90, .inr (16, [.ref q_97, .ref q_103, .ref q_113, .ref q_92, .ref q_93, .int 0, .int 0, .int 0, .int 105, .int 0, .int 0, .int 0, .int (-1), .int 0, .int 0, .int 0, .int 0, .int 0, .int 0, .int 0, .long 0, .int 0, .int (mp_X12_isRunning (xs 1))]))]) hD hS hA [1] rfl
  refine va_calli (va_runV (As := []) (rest := []) ⟨hx, hb, hml, hown, hts⟩ (c_X12_thrown l dC dI g q_90 (.ref q_97) (.ref q_103) (.ref q_113) (.ref q_92) (.ref q_93) (.int 0) (.int 0) (.int 0) (.int 105) (.int 0) (.int 0) (.int 0) (.int (-1)) (.int 0) (.int 0) (.int 0) (.int 0) (.int 0) (.int 0) (.int 0) (.long 0) (.int 0) cI cZ cO (mp_X12_isRunning (xs 1)) H.size) (cwV 0 hts gL_law_X12_thrown rfl rfl rfl (by decide +kernel) ⟨Nat.le_of_ble_eq_true rfl, Nat.le_of_ble_eq_true rfl⟩) ⟨wIn_blind, va_recv hK hP (ci := 16) (q0 := 1) rfl rfl, wIn_at hPc hKc hDc hG hS hFc⟩ rfl rfl hl.1 rfl (lv_room (Nat.le_of_ble_eq_true rfl)) dL_law_1371 ⟨Nat.le_of_ble_eq_true rfl, Nat.le_of_ble_eq_true rfl⟩) hS (fun q _ h => hFc q h) hFc (fun r_126 u t H1 locs ht hvm hw hB hz1 hk1 hS => ?_)
  obtain ⟨hP1, hK1, hD1⟩ := hB
  rw [ht] at hP1
  obtain ⟨hP, hD⟩ := va_join (wr := [(q_116, .inl (cA_117, 1, .inr (.inl v_121)))]) (w1 := [(q_90, .inr (16, [.ref q_97, .ref q_103, .ref q_113, .ref q_92, .ref q_93, .int 0, .int 0, .int 0, .int 105, .int 0, .int 0, .int 0, .int (-1), .int 0, .int 0, .int 0, .int 0, .int 0, .int 0, .int 0, .long 0, .int 0, .int (mp_X12_isRunning (xs 1))]))]) hP hD [1] [0] rfl rfl (by decide) (by decide) hk1 hFc hP1 hD1
  generalize H1 = H at hP hS ⊢
  have hP : va_P (dC, dI) vwCl [(q_116, .inl (cA_117, 1, .inr (.inl v_121))), (q_90, .inr (16, [.ref q_97, .ref q_103, .ref q_113, .ref q_92, .ref q_93, .int 0, .int 0, .int 0, .int 105, .int 0, .int 0, .int 0, .int (-1), .int 0, .int 0, .int 0, .int 0, .int 0, .int 0, .int 0, .long 0, .int 0, .int (mp_X12_isRunning (xs 1))]))] H := hP
  have hD : va_D A [(q_116, .inl (cA_117, 1, .inr (.inl v_121))), (q_90, .inr (16, [.ref q_97, .ref q_103, .ref q_113, .ref q_92, .ref q_93, .int 0, .int 0, .int 0, .int 105, .int 0, .int 0, .int 0, .int (-1), .int 0, .int 0, .int 0, .int 0, .int 0, .int 0, .int 0, .long 0, .int 0, .int (mp_X12_isRunning (xs 1))]))] := hD
  refine lt_ci (y := (mp_X12_isRunning (xs 1))) hw ?_
  refine lt_ci (y := sp_X8_isRunning (xs 1)) (sm_X12_isRunning _) ?_
  refine lv_iload hx hb dL_law_1374 (lv_at hl 1 rfl) ?_
  refine lv_icmp_eq (tgt := 1381) hx hb dL_law_1376 (by decide) (fun _ => ?_) (fun c => absurd (rfl) c)
  refine lv_iload hx hb dL_law_1381 (lv_at hl 1 rfl) ?_
  refine lv_if_ne (tgt := 1405) hx hb dL_law_1383 (by decide) (fun c_1383 => ?_) (fun c_1383 => ?_)
  · refine lv_goto (tgt := 1976) hx hb dL_law_1405 (by decide) ?_
    refine lv_iinc (v := 6) (lv' := [(5, .int 6), (7, .int r_123), (6, .int (sp_X8_isRunning (xs 1))), (4, .ref q_118), (3, .ref q_116), (2, .ref q_90), (1, .ref q_1), (0, .ref b)]) hx hb dL_law_1976 hl (k := 2) rfl (by first | rfl | decide) (by decide) rfl (fun ls hl => ?_)
    refine lv_goto (tgt := 28) hx hb dL_law_1979 (by decide) ?_
    refine lv_iload hx hb dL_law_28 (lv_at hl 0 rfl) ?_
    refine lv_aload_n hx hb dL_law_30 rfl (lv_at hl 7 rfl) ?_
    refine va_slen hx hb hX hbl hbA hS dL_law_31 ?_
    refine lt_ci (y := 6) rfl ?_
    refine lv_bipush (v := 6) hx hb dL_law_32 (by decide) ?_
    refine lv_isub hx hb dL_law_34 ?_
    refine lt_ci (y := 0) (by first | rfl | decide) ?_
    refine lv_icmp_gt (tgt := 1982) hx hb dL_law_35 (by decide) (fun _ => ?_) (fun c => absurd (by decide) c)
    refine lv_iconst (v := 1) hx hb dL_law_1982 (by decide) ?_
    refine W.widen (k := 735603) (n := 6895256) (Nat.le_of_ble_eq_true rfl) (Nat.le_of_ble_eq_true rfl) ?_
    refine va_forget (fun q hq => by have h9 := hS.2.2 q hq; rw [hAe] at h9; exact h9) ?_
    exact W.base (lw_ret (Drawn.sameBut.refl s.drawn lw_cs) hx hb hr hlocks dL_law_1983)
  · refine lv_aload_n hx hb dL_law_1386 rfl (lv_at hl 4 rfl) ?_
    refine lv_iconst (v := 0) hx hb dL_law_1387 (by decide) ?_
    refine va_lald (D := (dC, dI)) hx hb hK hP 0 3 rfl rfl (by unfold vp_in; decide) dL_law_1388 ?_
    refine lt_cl (y := 0) (show _ = (0 : Int64) from hv_122 c_1383) ?_
    refine lv_iload hx hb dL_law_1389 (lv_at hl 0 rfl) ?_
    refine lt_ci (y := 0) (hv_125 ((sm_X12_isRunning _).trans c_1383)) ?_
    refine lv_if_eq (tgt := 1398) hx hb dL_law_1391 (by decide) (fun _ => ?_) (fun c => absurd (by decide) c)
    refine lv_lconst (v := 0) hx hb dL_law_1398 rfl ?_
    refine W.lcmp hx hb dL_law_1399 ?_
    refine lt_ci (y := 0) (by first | rfl | decide) ?_
    refine lv_if_eq (tgt := 1405) hx hb dL_law_1400 (by decide) (fun _ => ?_) (fun c => absurd (by decide) c)
    refine lv_goto (tgt := 1976) hx hb dL_law_1405 (by decide) ?_
    refine lv_iinc (v := 6) (lv' := [(5, .int 6), (7, .int r_123), (6, .int (sp_X8_isRunning (xs 1))), (4, .ref q_118), (3, .ref q_116), (2, .ref q_90), (1, .ref q_1), (0, .ref b)]) hx hb dL_law_1976 hl (k := 2) rfl (by first | rfl | decide) (by decide) rfl (fun ls hl => ?_)
    refine lv_goto (tgt := 28) hx hb dL_law_1979 (by decide) ?_
    refine lv_iload hx hb dL_law_28 (lv_at hl 0 rfl) ?_
    refine lv_aload_n hx hb dL_law_30 rfl (lv_at hl 7 rfl) ?_
    refine va_slen hx hb hX hbl hbA hS dL_law_31 ?_
    refine lt_ci (y := 6) rfl ?_
    refine lv_bipush (v := 6) hx hb dL_law_32 (by decide) ?_
    refine lv_isub hx hb dL_law_34 ?_
    refine lt_ci (y := 0) (by first | rfl | decide) ?_
    refine lv_icmp_gt (tgt := 1982) hx hb dL_law_35 (by decide) (fun _ => ?_) (fun c => absurd (by decide) c)
    refine lv_iconst (v := 1) hx hb dL_law_1982 (by decide) ?_
    refine W.widen (k := 735603) (n := 6895256) (Nat.le_of_ble_eq_true rfl) (Nat.le_of_ble_eq_true rfl) ?_
    refine va_forget (fun q hq => by have h9 := hS.2.2 q hq; rw [hAe] at h9; exact h9) ?_
    exact W.base (lw_ret (Drawn.sameBut.refl s.drawn lw_cs) hx hb hr hlocks dL_law_1983)
set_option maxHeartbeats 8000000 in
set_option maxRecDepth 100000 in
theorem c_L_law_18 {p : Program} {e : Env} {s : State} {m : MethodId} {below : List Frame} {meth : Method} {c : Code} (l : Launch) (hl9 : l.stackTraces = false) (dC : Nat → ClassId) (dI : Nat → Nat → Nat) (g : Nat × Nat × Nat) (b : Nat) (xs : Nat → Int32) (cI cZ cO : ClassId) (hx : p.tables.exec = Jvm.exec) (hb : c.code = cL_law) (hr : meth.sig.returnType = ret) (hml : c.maxLocals = 9) (hown : s.vm.findClass RL = some m.cls) (hts : ∀ w ∈ wsL_law, w.before #[Value.ref b] s = true) (hX : va_X b 6 xs s s.heap) (hbl : b < s.heap.size) (hlocks : meth.locks = false) (hG : gx g (fun q => s.heap.size ≤ q) s s.heap) (hk : (xs 0 &&& 63) = 18) (cA_117 : ClassId) (cA_119 : ClassId) (q_1 : Nat) (q_3 : Nat) (q_4 : Nat) (q_10 : Nat) (q_18 : Nat) (q_19 : Nat) (q_20 : Nat) (q_21 : Nat) (q_27 : Nat) (q_31 : Nat) (q_32 : Nat) (q_61 : Nat) (q_90 : Nat) (q_92 : Nat) (q_93 : Nat) (q_97 : Nat) (q_103 : Nat) (q_113 : Nat) (q_116 : Nat) (q_118 : Nat) (H : Heap) (locs : List Loc) (ls : Array Slot) (hK : va_K (dC, dI) vwCl [(cI, .int), (cZ, .boolean), (cO, .object "java/lang/Object"), (cA_117, .long), (cA_119, .double)] s) (hP : va_P (dC, dI) vwCl [(q_1, .inr (12, [.ref q_3, .ref q_32, .ref q_61])), (q_3, .inr (4, [.ref q_4, .ref q_10, .ref q_18, .ref q_21, .ref q_27, .ref q_31, .int 0, .int 0, .long 0])), (q_18, .inr (7, [.ref q_19, .ref q_20, .int 0, .int 0])), (q_90, .inr (16, [.ref q_97, .ref q_103, .ref q_113, .ref q_92, .ref q_93, .int 0, .int 0, .int 0, .int 105, .int 0, .int 0, .int 0, .int (-1), .int 0, .int 0, .int 0, .int 0, .int 0, .int 0, .int 0, .long 0, .int 0, .int 0]))] H) (hD : va_D (fun q => s.heap.size ≤ q) [(q_1, .inr (12, [.ref q_3, .ref q_32, .ref q_61])), (q_3, .inr (4, [.ref q_4, .ref q_10, .ref q_18, .ref q_21, .ref q_27, .ref q_31, .int 0, .int 0, .long 0])), (q_18, .inr (7, [.ref q_19, .ref q_20, .int 0, .int 0])), (q_90, .inr (16, [.ref q_97, .ref q_103, .ref q_113, .ref q_92, .ref q_93, .int 0, .int 0, .int 0, .int 105, .int 0, .int 0, .int 0, .int (-1), .int 0, .int 0, .int 0, .int 0, .int 0, .int 0, .int 0, .long 0, .int 0, .int 0]))]) (hS : va_S (fun q => s.heap.size ≤ q) s.heap H locs) (hl : lv_has ls 9 [(5, .int 0), (4, .ref q_118), (3, .ref q_116), (2, .ref q_90), (1, .ref q_1), (0, .ref b)]) : W p l e room_1 s m #[Value.ref b] below meth c H locs 115 1854 (lw_Z below #[Value.ref b] s) (F0 m 28 ls []) := by
  have hN := hG.1
  obtain ⟨A, hAe⟩ : ∃ A : Nat → Prop, A = (fun q => s.heap.size ≤ q) := ⟨_, rfl⟩
  rw [← hAe] at hG hD hS
  have hA : ∀ q : Nat, s.heap.size ≤ q → A q := fun q h => by rw [hAe]; exact h
  have hbA : ¬ A b := by rw [hAe]; exact Nat.not_le.mpr hbl
  refine lv_iload hx hb dL_law_28 (lv_at hl 0 rfl) ?_
  refine lv_aload_n hx hb dL_law_30 rfl (lv_at hl 5 rfl) ?_
  refine va_slen hx hb hX hbl hbA hS dL_law_31 ?_
  refine lt_ci (y := 6) rfl ?_
  refine lv_bipush (v := 6) hx hb dL_law_32 (by decide) ?_
  refine lv_isub hx hb dL_law_34 ?_
  refine lt_ci (y := 0) (by first | rfl | decide) ?_
  refine lv_icmp_gt (tgt := 1982) hx hb dL_law_35 (by decide) (fun c => absurd c (by decide)) (fun _ => ?_)
  refine lv_aload_n hx hb dL_law_38 rfl (lv_at hl 5 rfl) ?_
  refine lv_iload hx hb dL_law_39 (lv_at hl 0 rfl) ?_
  refine va_sld hx hb hX hbl hbA hS (by unfold vp_in; decide) dL_law_41 ?_
  refine lt_ci (y := (xs 0)) rfl ?_
  refine lv_bipush (v := 63) hx hb dL_law_42 (by decide) ?_
  refine lv_iand hx hb dL_law_44 ?_
  refine lt_ci (y := 18) hk ?_
  refine lv_tableIn (off := 1363) (tgt := 1408) hx hb dL_law_45 (by decide) (by decide) (by decide) (by decide) ?_
  refine lv_aload_n hx hb dL_law_1408 rfl (lv_at hl 4 rfl) ?_
  have hPc := hP.sub (ws' := [(q_1, .inr (12, [.ref q_3, .ref q_32, .ref q_61])), (q_3, .inr (4, [.ref q_4, .ref q_10, .ref q_18, .ref q_21, .ref q_27, .ref q_31, .int 0, .int 0, .long 0])), (q_18, .inr (7, [.ref q_19, .ref q_20, .int 0, .int 0]))]) [0, 1, 2] rfl
  have hDc := hD.sub (ws' := [(q_1, .inr (12, [.ref q_3, .ref q_32, .ref q_61])), (q_3, .inr (4, [.ref q_4, .ref q_10, .ref q_18, .ref q_21, .ref q_27, .ref q_31, .int 0, .int 0, .long 0])), (q_18, .inr (7, [.ref q_19, .ref q_20, .int 0, .int 0]))]) [0, 1, 2] (by decide) rfl
  have hKc := hK.sub (tys' := [(cI, .int)]) [0] rfl
  have hFc := va_free (wc := [(q_1, .inr (12, [.ref q_3, .ref q_32, .ref q_61])), (q_3, .inr (4, [.ref q_4, .ref q_10, .ref q_18, .ref q_21, .ref q_27, .ref q_31, .int 0, .int 0, .long 0])), (q_18, .inr (7, [.ref q_19, .ref q_20, .int 0, .int 0]))]) hD hS hA [0, 1, 2] rfl
  refine va_calli (va_runV (As := []) (rest := []) ⟨hx, hb, hml, hown, hts⟩ (c_X8_pins l dC dI g q_1 q_32 q_61 q_3 q_4 q_10 q_18 q_19 q_20 q_21 q_27 q_31 cI H.size) (cwV 0 hts gL_law_X8_pins rfl rfl rfl (by decide +kernel) ⟨Nat.le_of_ble_eq_true rfl, Nat.le_of_ble_eq_true rfl⟩) ⟨wIn_blind, va_recv hK hP (ci := 12) (q0 := 0) rfl rfl, wIn_at hPc hKc hDc hG hS hFc⟩ rfl rfl hl.1 rfl (lv_room (Nat.le_of_ble_eq_true rfl)) dL_law_1409 ⟨Nat.le_of_ble_eq_true rfl, Nat.le_of_ble_eq_true rfl⟩) hS (fun q _ h => hFc q h) hFc (fun r_120 u t H1 locs ht hvm hw hB hz1 hk1 hS => ?_)
  obtain ⟨hP1, hK1, hD1⟩ := hB
  rw [ht] at hP1
  obtain ⟨hP, hD⟩ := va_join (wr := [(q_90, .inr (16, [.ref q_97, .ref q_103, .ref q_113, .ref q_92, .ref q_93, .int 0, .int 0, .int 0, .int 105, .int 0, .int 0, .int 0, .int (-1), .int 0, .int 0, .int 0, .int 0, .int 0, .int 0, .int 0, .long 0, .int 0, .int 0]))]) (w1 := []) hP hD [0, 1, 2] [3] rfl rfl (by decide) (by decide) hk1 hFc hP1 hD1
  generalize H1 = H at hP hS ⊢
  have hP : va_P (dC, dI) vwCl [(q_90, .inr (16, [.ref q_97, .ref q_103, .ref q_113, .ref q_92, .ref q_93, .int 0, .int 0, .int 0, .int 105, .int 0, .int 0, .int 0, .int (-1), .int 0, .int 0, .int 0, .int 0, .int 0, .int 0, .int 0, .long 0, .int 0, .int 0]))] H := hP
  have hD : va_D A [(q_90, .inr (16, [.ref q_97, .ref q_103, .ref q_113, .ref q_92, .ref q_93, .int 0, .int 0, .int 0, .int 105, .int 0, .int 0, .int 0, .int (-1), .int 0, .int 0, .int 0, .int 0, .int 0, .int 0, .int 0, .long 0, .int 0, .int 0]))] := hD
  refine lt_ci (y := 0) hw ?_
  refine lv_aload_n hx hb dL_law_1412 rfl (lv_at hl 3 rfl) ?_
  have hPc := hP.sub (ws' := [(q_90, .inr (16, [.ref q_97, .ref q_103, .ref q_113, .ref q_92, .ref q_93, .int 0, .int 0, .int 0, .int 105, .int 0, .int 0, .int 0, .int (-1), .int 0, .int 0, .int 0, .int 0, .int 0, .int 0, .int 0, .long 0, .int 0, .int 0]))]) [0] rfl
  have hDc := hD.sub (ws' := [(q_90, .inr (16, [.ref q_97, .ref q_103, .ref q_113, .ref q_92, .ref q_93, .int 0, .int 0, .int 0, .int 105, .int 0, .int 0, .int 0, .int (-1), .int 0, .int 0, .int 0, .int 0, .int 0, .int 0, .int 0, .long 0, .int 0, .int 0]))]) [0] (by decide) rfl
  have hKc := hK.sub (tys' := [(cI, .int), (cZ, .boolean), (cO, .object "java/lang/Object")]) [0, 1, 2] rfl
  have hFc := va_free (wc := [(q_90, .inr (16, [.ref q_97, .ref q_103, .ref q_113, .ref q_92, .ref q_93, .int 0, .int 0, .int 0, .int 105, .int 0, .int 0, .int 0, .int (-1), .int 0, .int 0, .int 0, .int 0, .int 0, .int 0, .int 0, .long 0, .int 0, .int 0]))]) hD hS hA [0] rfl
  refine va_calli (va_runV (As := []) (rest := [.int 0]) ⟨hx, hb, hml, hown, hts⟩ (c_X12_pins l dC dI g q_90 q_92 q_93 q_97 q_103 q_113 cI cZ cO 0 H.size) (cwV 0 hts gL_law_X12_pins rfl rfl rfl (by decide +kernel) ⟨Nat.le_of_ble_eq_true rfl, Nat.le_of_ble_eq_true rfl⟩) ⟨wIn_blind, va_recv hK hP (ci := 16) (q0 := 0) rfl rfl, wIn_at hPc hKc hDc hG hS hFc⟩ rfl rfl hl.1 rfl (lv_room (Nat.le_of_ble_eq_true rfl)) dL_law_1413 ⟨Nat.le_of_ble_eq_true rfl, Nat.le_of_ble_eq_true rfl⟩) hS (fun q _ h => hFc q h) hFc (fun r_121 u t H1 locs ht hvm hw hB hz1 hk1 hS => ?_)
  obtain ⟨v_122, rfl⟩ : ∃ z, z = u := ⟨_, rfl⟩
  have hw : v_122 = mp_X12_pins ∧ (mp_X12_pins = 0 → r_121 = 0) := hw
  obtain ⟨hm9, hv_123⟩ := hw
  have hm9 := hm9.trans ((kc_mp_X12_pins))
  subst hm9
  obtain ⟨hP1, hK1, hD1⟩ := hB
  rw [ht] at hP1
  obtain ⟨hP, hD⟩ := va_join (wr := []) (w1 := [(q_90, .inr (16, [.ref q_97, .ref q_103, .ref q_113, .ref q_92, .ref q_93, .int 0, .int 0, .int 0, .int 105, .int 0, .int 0, .int 0, .int (-1), .int 0, .int 0, .int 0, .int 0, .int 0, .int 0, .int 0, .long 0, .int 0, .int 0]))]) hP hD [0] [] rfl rfl (by decide) (by decide) hk1 hFc hP1 hD1
  generalize H1 = H at hP hS ⊢
  have hP : va_P (dC, dI) vwCl [(q_90, .inr (16, [.ref q_97, .ref q_103, .ref q_113, .ref q_92, .ref q_93, .int 0, .int 0, .int 0, .int 105, .int 0, .int 0, .int 0, .int (-1), .int 0, .int 0, .int 0, .int 0, .int 0, .int 0, .int 0, .long 0, .int 0, .int 0]))] H := hP
  have hD : va_D A [(q_90, .inr (16, [.ref q_97, .ref q_103, .ref q_113, .ref q_92, .ref q_93, .int 0, .int 0, .int 0, .int 105, .int 0, .int 0, .int 0, .int (-1), .int 0, .int 0, .int 0, .int 0, .int 0, .int 0, .int 0, .long 0, .int 0, .int 0]))] := hD
  refine lt_ci (y := 0) (hv_123 (kc_mp_X12_pins)) ?_
  refine lv_icmp_eq (tgt := 1976) hx hb dL_law_1416 (by decide) (fun _ => ?_) (fun c => absurd (by decide) c)
  refine lv_iinc (v := 6) (lv' := [(5, .int 6), (4, .ref q_118), (3, .ref q_116), (2, .ref q_90), (1, .ref q_1), (0, .ref b)]) hx hb dL_law_1976 hl (k := 0) rfl (by first | rfl | decide) (by decide) rfl (fun ls hl => ?_)
  refine lv_goto (tgt := 28) hx hb dL_law_1979 (by decide) ?_
  refine lv_iload hx hb dL_law_28 (lv_at hl 0 rfl) ?_
  refine lv_aload_n hx hb dL_law_30 rfl (lv_at hl 5 rfl) ?_
  refine va_slen hx hb hX hbl hbA hS dL_law_31 ?_
  refine lt_ci (y := 6) rfl ?_
  refine lv_bipush (v := 6) hx hb dL_law_32 (by decide) ?_
  refine lv_isub hx hb dL_law_34 ?_
  refine lt_ci (y := 0) (by first | rfl | decide) ?_
  refine lv_icmp_gt (tgt := 1982) hx hb dL_law_35 (by decide) (fun _ => ?_) (fun c => absurd (by decide) c)
  refine lv_iconst (v := 1) hx hb dL_law_1982 (by decide) ?_
  refine W.widen (k := 735603) (n := 6895256) (Nat.le_of_ble_eq_true rfl) (Nat.le_of_ble_eq_true rfl) ?_
  refine va_forget (fun q hq => by have h9 := hS.2.2 q hq; rw [hAe] at h9; exact h9) ?_
  exact W.base (lw_ret (Drawn.sameBut.refl s.drawn lw_cs) hx hb hr hlocks dL_law_1983)
set_option maxHeartbeats 8000000 in
set_option maxRecDepth 100000 in
theorem c_L_law_19 {p : Program} {e : Env} {s : State} {m : MethodId} {below : List Frame} {meth : Method} {c : Code} (l : Launch) (hl9 : l.stackTraces = false) (dC : Nat → ClassId) (dI : Nat → Nat → Nat) (g : Nat × Nat × Nat) (b : Nat) (xs : Nat → Int32) (cI cZ cO : ClassId) (hx : p.tables.exec = Jvm.exec) (hb : c.code = cL_law) (hr : meth.sig.returnType = ret) (hml : c.maxLocals = 9) (hown : s.vm.findClass RL = some m.cls) (hts : ∀ w ∈ wsL_law, w.before #[Value.ref b] s = true) (hX : va_X b 6 xs s s.heap) (hbl : b < s.heap.size) (hlocks : meth.locks = false) (hG : gx g (fun q => s.heap.size ≤ q) s s.heap) (hk : (xs 0 &&& 63) = 19) (cA_117 : ClassId) (cA_119 : ClassId) (q_1 : Nat) (q_3 : Nat) (q_4 : Nat) (q_10 : Nat) (q_18 : Nat) (q_19 : Nat) (q_20 : Nat) (q_21 : Nat) (q_27 : Nat) (q_31 : Nat) (q_32 : Nat) (q_61 : Nat) (q_90 : Nat) (q_92 : Nat) (q_93 : Nat) (q_97 : Nat) (q_103 : Nat) (q_113 : Nat) (q_116 : Nat) (q_118 : Nat) (H : Heap) (locs : List Loc) (ls : Array Slot) (hK : va_K (dC, dI) vwCl [(cI, .int), (cZ, .boolean), (cO, .object "java/lang/Object"), (cA_117, .long), (cA_119, .double)] s) (hP : va_P (dC, dI) vwCl [(q_1, .inr (12, [.ref q_3, .ref q_32, .ref q_61])), (q_3, .inr (4, [.ref q_4, .ref q_10, .ref q_18, .ref q_21, .ref q_27, .ref q_31, .int 0, .int 0, .long 0])), (q_18, .inr (7, [.ref q_19, .ref q_20, .int 0, .int 0])), (q_90, .inr (16, [.ref q_97, .ref q_103, .ref q_113, .ref q_92, .ref q_93, .int 0, .int 0, .int 0, .int 105, .int 0, .int 0, .int 0, .int (-1), .int 0, .int 0, .int 0, .int 0, .int 0, .int 0, .int 0, .long 0, .int 0, .int 0]))] H) (hD : va_D (fun q => s.heap.size ≤ q) [(q_1, .inr (12, [.ref q_3, .ref q_32, .ref q_61])), (q_3, .inr (4, [.ref q_4, .ref q_10, .ref q_18, .ref q_21, .ref q_27, .ref q_31, .int 0, .int 0, .long 0])), (q_18, .inr (7, [.ref q_19, .ref q_20, .int 0, .int 0])), (q_90, .inr (16, [.ref q_97, .ref q_103, .ref q_113, .ref q_92, .ref q_93, .int 0, .int 0, .int 0, .int 105, .int 0, .int 0, .int 0, .int (-1), .int 0, .int 0, .int 0, .int 0, .int 0, .int 0, .int 0, .long 0, .int 0, .int 0]))]) (hS : va_S (fun q => s.heap.size ≤ q) s.heap H locs) (hl : lv_has ls 9 [(5, .int 0), (4, .ref q_118), (3, .ref q_116), (2, .ref q_90), (1, .ref q_1), (0, .ref b)]) : W p l e room_1 s m #[Value.ref b] below meth c H locs 115 1854 (lw_Z below #[Value.ref b] s) (F0 m 28 ls []) := by
  have hN := hG.1
  obtain ⟨A, hAe⟩ : ∃ A : Nat → Prop, A = (fun q => s.heap.size ≤ q) := ⟨_, rfl⟩
  rw [← hAe] at hG hD hS
  have hA : ∀ q : Nat, s.heap.size ≤ q → A q := fun q h => by rw [hAe]; exact h
  have hbA : ¬ A b := by rw [hAe]; exact Nat.not_le.mpr hbl
  refine lv_iload hx hb dL_law_28 (lv_at hl 0 rfl) ?_
  refine lv_aload_n hx hb dL_law_30 rfl (lv_at hl 5 rfl) ?_
  refine va_slen hx hb hX hbl hbA hS dL_law_31 ?_
  refine lt_ci (y := 6) rfl ?_
  refine lv_bipush (v := 6) hx hb dL_law_32 (by decide) ?_
  refine lv_isub hx hb dL_law_34 ?_
  refine lt_ci (y := 0) (by first | rfl | decide) ?_
  refine lv_icmp_gt (tgt := 1982) hx hb dL_law_35 (by decide) (fun c => absurd c (by decide)) (fun _ => ?_)
  refine lv_aload_n hx hb dL_law_38 rfl (lv_at hl 5 rfl) ?_
  refine lv_iload hx hb dL_law_39 (lv_at hl 0 rfl) ?_
  refine va_sld hx hb hX hbl hbA hS (by unfold vp_in; decide) dL_law_41 ?_
  refine lt_ci (y := (xs 0)) rfl ?_
  refine lv_bipush (v := 63) hx hb dL_law_42 (by decide) ?_
  refine lv_iand hx hb dL_law_44 ?_
  refine lt_ci (y := 19) hk ?_
  refine lv_tableIn (off := 1376) (tgt := 1421) hx hb dL_law_45 (by decide) (by decide) (by decide) (by decide) ?_
  refine lv_aload_n hx hb dL_law_1421 rfl (lv_at hl 4 rfl) ?_
  have hPc := hP.sub (ws' := [(q_1, .inr (12, [.ref q_3, .ref q_32, .ref q_61])), (q_3, .inr (4, [.ref q_4, .ref q_10, .ref q_18, .ref q_21, .ref q_27, .ref q_31, .int 0, .int 0, .long 0])), (q_18, .inr (7, [.ref q_19, .ref q_20, .int 0, .int 0]))]) [0, 1, 2] rfl
  have hDc := hD.sub (ws' := [(q_1, .inr (12, [.ref q_3, .ref q_32, .ref q_61])), (q_3, .inr (4, [.ref q_4, .ref q_10, .ref q_18, .ref q_21, .ref q_27, .ref q_31, .int 0, .int 0, .long 0])), (q_18, .inr (7, [.ref q_19, .ref q_20, .int 0, .int 0]))]) [0, 1, 2] (by decide) rfl
  have hKc := hK.sub (tys' := [(cI, .int)]) [0] rfl
  have hFc := va_free (wc := [(q_1, .inr (12, [.ref q_3, .ref q_32, .ref q_61])), (q_3, .inr (4, [.ref q_4, .ref q_10, .ref q_18, .ref q_21, .ref q_27, .ref q_31, .int 0, .int 0, .long 0])), (q_18, .inr (7, [.ref q_19, .ref q_20, .int 0, .int 0]))]) hD hS hA [0, 1, 2] rfl
  refine va_calli (va_runV (As := []) (rest := []) ⟨hx, hb, hml, hown, hts⟩ (c_X8_edges l dC dI g q_1 q_32 q_61 q_3 q_4 q_10 q_18 q_19 q_20 q_21 q_27 q_31 cI H.size) (cwV 0 hts gL_law_X8_edges rfl rfl rfl (by decide +kernel) ⟨Nat.le_of_ble_eq_true rfl, Nat.le_of_ble_eq_true rfl⟩) ⟨wIn_blind, va_recv hK hP (ci := 12) (q0 := 0) rfl rfl, wIn_at hPc hKc hDc hG hS hFc⟩ rfl rfl hl.1 rfl (lv_room (Nat.le_of_ble_eq_true rfl)) dL_law_1422 ⟨Nat.le_of_ble_eq_true rfl, Nat.le_of_ble_eq_true rfl⟩) hS (fun q _ h => hFc q h) hFc (fun r_120 u t H1 locs ht hvm hw hB hz1 hk1 hS => ?_)
  obtain ⟨hP1, hK1, hD1⟩ := hB
  rw [ht] at hP1
  obtain ⟨hP, hD⟩ := va_join (wr := [(q_90, .inr (16, [.ref q_97, .ref q_103, .ref q_113, .ref q_92, .ref q_93, .int 0, .int 0, .int 0, .int 105, .int 0, .int 0, .int 0, .int (-1), .int 0, .int 0, .int 0, .int 0, .int 0, .int 0, .int 0, .long 0, .int 0, .int 0]))]) (w1 := []) hP hD [0, 1, 2] [3] rfl rfl (by decide) (by decide) hk1 hFc hP1 hD1
  generalize H1 = H at hP hS ⊢
  have hP : va_P (dC, dI) vwCl [(q_90, .inr (16, [.ref q_97, .ref q_103, .ref q_113, .ref q_92, .ref q_93, .int 0, .int 0, .int 0, .int 105, .int 0, .int 0, .int 0, .int (-1), .int 0, .int 0, .int 0, .int 0, .int 0, .int 0, .int 0, .long 0, .int 0, .int 0]))] H := hP
  have hD : va_D A [(q_90, .inr (16, [.ref q_97, .ref q_103, .ref q_113, .ref q_92, .ref q_93, .int 0, .int 0, .int 0, .int 105, .int 0, .int 0, .int 0, .int (-1), .int 0, .int 0, .int 0, .int 0, .int 0, .int 0, .int 0, .long 0, .int 0, .int 0]))] := hD
  refine lt_ci (y := 0) hw ?_
  refine lv_aload_n hx hb dL_law_1425 rfl (lv_at hl 3 rfl) ?_
  have hPc := hP.sub (ws' := [(q_90, .inr (16, [.ref q_97, .ref q_103, .ref q_113, .ref q_92, .ref q_93, .int 0, .int 0, .int 0, .int 105, .int 0, .int 0, .int 0, .int (-1), .int 0, .int 0, .int 0, .int 0, .int 0, .int 0, .int 0, .long 0, .int 0, .int 0]))]) [0] rfl
  have hDc := hD.sub (ws' := [(q_90, .inr (16, [.ref q_97, .ref q_103, .ref q_113, .ref q_92, .ref q_93, .int 0, .int 0, .int 0, .int 105, .int 0, .int 0, .int 0, .int (-1), .int 0, .int 0, .int 0, .int 0, .int 0, .int 0, .int 0, .long 0, .int 0, .int 0]))]) [0] (by decide) rfl
  have hKc := hK.sub (tys' := [(cI, .int), (cZ, .boolean), (cO, .object "java/lang/Object")]) [0, 1, 2] rfl
  have hFc := va_free (wc := [(q_90, .inr (16, [.ref q_97, .ref q_103, .ref q_113, .ref q_92, .ref q_93, .int 0, .int 0, .int 0, .int 105, .int 0, .int 0, .int 0, .int (-1), .int 0, .int 0, .int 0, .int 0, .int 0, .int 0, .int 0, .long 0, .int 0, .int 0]))]) hD hS hA [0] rfl
  refine va_calli (va_runV (As := []) (rest := [.int 0]) ⟨hx, hb, hml, hown, hts⟩ (c_X12_edges l dC dI g q_90 q_92 q_93 q_97 q_103 q_113 cI cZ cO 0 H.size) (cwV 0 hts gL_law_X12_edges rfl rfl rfl (by decide +kernel) ⟨Nat.le_of_ble_eq_true rfl, Nat.le_of_ble_eq_true rfl⟩) ⟨wIn_blind, va_recv hK hP (ci := 16) (q0 := 0) rfl rfl, wIn_at hPc hKc hDc hG hS hFc⟩ rfl rfl hl.1 rfl (lv_room (Nat.le_of_ble_eq_true rfl)) dL_law_1426 ⟨Nat.le_of_ble_eq_true rfl, Nat.le_of_ble_eq_true rfl⟩) hS (fun q _ h => hFc q h) hFc (fun r_121 u t H1 locs ht hvm hw hB hz1 hk1 hS => ?_)
  obtain ⟨v_122, rfl⟩ : ∃ z, z = u := ⟨_, rfl⟩
  have hw : v_122 = mp_X12_edges ∧ (mp_X12_edges = 0 → r_121 = 0) := hw
  obtain ⟨hm9, hv_123⟩ := hw
  have hm9 := hm9.trans ((kc_mp_X12_edges))
  subst hm9
  obtain ⟨hP1, hK1, hD1⟩ := hB
  rw [ht] at hP1
  obtain ⟨hP, hD⟩ := va_join (wr := []) (w1 := [(q_90, .inr (16, [.ref q_97, .ref q_103, .ref q_113, .ref q_92, .ref q_93, .int 0, .int 0, .int 0, .int 105, .int 0, .int 0, .int 0, .int (-1), .int 0, .int 0, .int 0, .int 0, .int 0, .int 0, .int 0, .long 0, .int 0, .int 0]))]) hP hD [0] [] rfl rfl (by decide) (by decide) hk1 hFc hP1 hD1
  generalize H1 = H at hP hS ⊢
  have hP : va_P (dC, dI) vwCl [(q_90, .inr (16, [.ref q_97, .ref q_103, .ref q_113, .ref q_92, .ref q_93, .int 0, .int 0, .int 0, .int 105, .int 0, .int 0, .int 0, .int (-1), .int 0, .int 0, .int 0, .int 0, .int 0, .int 0, .int 0, .long 0, .int 0, .int 0]))] H := hP
  have hD : va_D A [(q_90, .inr (16, [.ref q_97, .ref q_103, .ref q_113, .ref q_92, .ref q_93, .int 0, .int 0, .int 0, .int 105, .int 0, .int 0, .int 0, .int (-1), .int 0, .int 0, .int 0, .int 0, .int 0, .int 0, .int 0, .long 0, .int 0, .int 0]))] := hD
  refine lt_ci (y := 0) (hv_123 (kc_mp_X12_edges)) ?_
  refine lv_icmp_eq (tgt := 1976) hx hb dL_law_1429 (by decide) (fun _ => ?_) (fun c => absurd (by decide) c)
  refine lv_iinc (v := 6) (lv' := [(5, .int 6), (4, .ref q_118), (3, .ref q_116), (2, .ref q_90), (1, .ref q_1), (0, .ref b)]) hx hb dL_law_1976 hl (k := 0) rfl (by first | rfl | decide) (by decide) rfl (fun ls hl => ?_)
  refine lv_goto (tgt := 28) hx hb dL_law_1979 (by decide) ?_
  refine lv_iload hx hb dL_law_28 (lv_at hl 0 rfl) ?_
  refine lv_aload_n hx hb dL_law_30 rfl (lv_at hl 5 rfl) ?_
  refine va_slen hx hb hX hbl hbA hS dL_law_31 ?_
  refine lt_ci (y := 6) rfl ?_
  refine lv_bipush (v := 6) hx hb dL_law_32 (by decide) ?_
  refine lv_isub hx hb dL_law_34 ?_
  refine lt_ci (y := 0) (by first | rfl | decide) ?_
  refine lv_icmp_gt (tgt := 1982) hx hb dL_law_35 (by decide) (fun _ => ?_) (fun c => absurd (by decide) c)
  refine lv_iconst (v := 1) hx hb dL_law_1982 (by decide) ?_
  refine W.widen (k := 735603) (n := 6895256) (Nat.le_of_ble_eq_true rfl) (Nat.le_of_ble_eq_true rfl) ?_
  refine va_forget (fun q hq => by have h9 := hS.2.2 q hq; rw [hAe] at h9; exact h9) ?_
  exact W.base (lw_ret (Drawn.sameBut.refl s.drawn lw_cs) hx hb hr hlocks dL_law_1983)
set_option maxHeartbeats 8000000 in
set_option maxRecDepth 100000 in
theorem c_L_law_20 {p : Program} {e : Env} {s : State} {m : MethodId} {below : List Frame} {meth : Method} {c : Code} (l : Launch) (hl9 : l.stackTraces = false) (dC : Nat → ClassId) (dI : Nat → Nat → Nat) (g : Nat × Nat × Nat) (b : Nat) (xs : Nat → Int32) (cI cZ cO : ClassId) (hx : p.tables.exec = Jvm.exec) (hb : c.code = cL_law) (hr : meth.sig.returnType = ret) (hml : c.maxLocals = 9) (hown : s.vm.findClass RL = some m.cls) (hts : ∀ w ∈ wsL_law, w.before #[Value.ref b] s = true) (hX : va_X b 6 xs s s.heap) (hbl : b < s.heap.size) (hlocks : meth.locks = false) (hG : gx g (fun q => s.heap.size ≤ q) s s.heap) (hk : (xs 0 &&& 63) = 20) (cA_117 : ClassId) (cA_119 : ClassId) (q_1 : Nat) (q_3 : Nat) (q_4 : Nat) (q_10 : Nat) (q_18 : Nat) (q_19 : Nat) (q_20 : Nat) (q_21 : Nat) (q_27 : Nat) (q_31 : Nat) (q_32 : Nat) (q_61 : Nat) (q_90 : Nat) (q_92 : Nat) (q_93 : Nat) (q_97 : Nat) (q_103 : Nat) (q_113 : Nat) (q_116 : Nat) (q_118 : Nat) (H : Heap) (locs : List Loc) (ls : Array Slot) (hK : va_K (dC, dI) vwCl [(cI, .int), (cZ, .boolean), (cO, .object "java/lang/Object"), (cA_117, .long), (cA_119, .double)] s) (hP : va_P (dC, dI) vwCl [(q_1, .inr (12, [.ref q_3, .ref q_32, .ref q_61])), (q_3, .inr (4, [.ref q_4, .ref q_10, .ref q_18, .ref q_21, .ref q_27, .ref q_31, .int 0, .int 0, .long 0])), (q_18, .inr (7, [.ref q_19, .ref q_20, .int 0, .int 0])), (q_19, .inl (cI, 200, .inl (cn 0))), (q_20, .inl (cI, 200, .inl (cn 0))), (q_90, .inr (16, [.ref q_97, .ref q_103, .ref q_113, .ref q_92, .ref q_93, .int 0, .int 0, .int 0, .int 105, .int 0, .int 0, .int 0, .int (-1), .int 0, .int 0, .int 0, .int 0, .int 0, .int 0, .int 0, .long 0, .int 0, .int 0])), (q_93, .inr (3, [.int 0, .ref g.1, .int 0])), (q_116, .inl (cA_117, 1, .inr (.inl cnL)))] H) (hD : va_D (fun q => s.heap.size ≤ q) [(q_1, .inr (12, [.ref q_3, .ref q_32, .ref q_61])), (q_3, .inr (4, [.ref q_4, .ref q_10, .ref q_18, .ref q_21, .ref q_27, .ref q_31, .int 0, .int 0, .long 0])), (q_18, .inr (7, [.ref q_19, .ref q_20, .int 0, .int 0])), (q_19, .inl (cI, 200, .inl (cn 0))), (q_20, .inl (cI, 200, .inl (cn 0))), (q_90, .inr (16, [.ref q_97, .ref q_103, .ref q_113, .ref q_92, .ref q_93, .int 0, .int 0, .int 0, .int 105, .int 0, .int 0, .int 0, .int (-1), .int 0, .int 0, .int 0, .int 0, .int 0, .int 0, .int 0, .long 0, .int 0, .int 0])), (q_93, .inr (3, [.int 0, .ref g.1, .int 0])), (q_116, .inl (cA_117, 1, .inr (.inl cnL)))]) (hS : va_S (fun q => s.heap.size ≤ q) s.heap H locs) (hl : lv_has ls 9 [(5, .int 0), (4, .ref q_118), (3, .ref q_116), (2, .ref q_90), (1, .ref q_1), (0, .ref b)]) : W p l e room_1 s m #[Value.ref b] below meth c H locs 115 1854 (lw_Z below #[Value.ref b] s) (F0 m 28 ls []) := by
  have hN := hG.1
  obtain ⟨A, hAe⟩ : ∃ A : Nat → Prop, A = (fun q => s.heap.size ≤ q) := ⟨_, rfl⟩
  rw [← hAe] at hG hD hS
  have hA : ∀ q : Nat, s.heap.size ≤ q → A q := fun q h => by rw [hAe]; exact h
  have hbA : ¬ A b := by rw [hAe]; exact Nat.not_le.mpr hbl
  refine lv_iload hx hb dL_law_28 (lv_at hl 0 rfl) ?_
  refine lv_aload_n hx hb dL_law_30 rfl (lv_at hl 5 rfl) ?_
  refine va_slen hx hb hX hbl hbA hS dL_law_31 ?_
  refine lt_ci (y := 6) rfl ?_
  refine lv_bipush (v := 6) hx hb dL_law_32 (by decide) ?_
  refine lv_isub hx hb dL_law_34 ?_
  refine lt_ci (y := 0) (by first | rfl | decide) ?_
  refine lv_icmp_gt (tgt := 1982) hx hb dL_law_35 (by decide) (fun c => absurd c (by decide)) (fun _ => ?_)
  refine lv_aload_n hx hb dL_law_38 rfl (lv_at hl 5 rfl) ?_
  refine lv_iload hx hb dL_law_39 (lv_at hl 0 rfl) ?_
  refine va_sld hx hb hX hbl hbA hS (by unfold vp_in; decide) dL_law_41 ?_
  refine lt_ci (y := (xs 0)) rfl ?_
  refine lv_bipush (v := 63) hx hb dL_law_42 (by decide) ?_
  refine lv_iand hx hb dL_law_44 ?_
  refine lt_ci (y := 20) hk ?_
  refine lv_tableIn (off := 1389) (tgt := 1434) hx hb dL_law_45 (by decide) (by decide) (by decide) (by decide) ?_
  refine lv_aload_n hx hb dL_law_1434 rfl (lv_at hl 4 rfl) ?_
  refine lv_aload_n hx hb dL_law_1435 rfl (lv_at hl 5 rfl) ?_
  refine lv_iload hx hb dL_law_1436 (lv_at hl 0 rfl) ?_
  refine lv_iconst (v := 1) hx hb dL_law_1438 (by decide) ?_
  refine lv_iadd hx hb dL_law_1439 ?_
  refine lt_ci (y := 1) (by first | rfl | decide) ?_
  refine va_sld hx hb hX hbl hbA hS (by unfold vp_in; decide) dL_law_1440 ?_
  refine lt_ci (y := (xs 1)) rfl ?_
  refine lv_aload_n hx hb dL_law_1441 rfl (lv_at hl 2 rfl) ?_
  have hPc := hP.sub (ws' := [(q_1, .inr (12, [.ref q_3, .ref q_32, .ref q_61])), (q_3, .inr (4, [.ref q_4, .ref q_10, .ref q_18, .ref q_21, .ref q_27, .ref q_31, .int 0, .int 0, .long 0])), (q_18, .inr (7, [.ref q_19, .ref q_20, .int 0, .int 0])), (q_19, .inl (cI, 200, .inl (cn 0))), (q_20, .inl (cI, 200, .inl (cn 0))), (q_116, .inl (cA_117, 1, .inr (.inl cnL)))]) [0, 1, 2, 3, 4, 7] rfl
  have hDc := hD.sub (ws' := [(q_1, .inr (12, [.ref q_3, .ref q_32, .ref q_61])), (q_3, .inr (4, [.ref q_4, .ref q_10, .ref q_18, .ref q_21, .ref q_27, .ref q_31, .int 0, .int 0, .long 0])), (q_18, .inr (7, [.ref q_19, .ref q_20, .int 0, .int 0])), (q_19, .inl (cI, 200, .inl (cn 0))), (q_20, .inl (cI, 200, .inl (cn 0))), (q_116, .inl (cA_117, 1, .inr (.inl cnL)))]) [0, 1, 2, 3, 4, 7] (by decide) rfl
  have hKc := hK.sub (tys' := [(cI, .int), (cA_117, .long)]) [0, 3] rfl
  have hFc := va_free (wc := [(q_1, .inr (12, [.ref q_3, .ref q_32, .ref q_61])), (q_3, .inr (4, [.ref q_4, .ref q_10, .ref q_18, .ref q_21, .ref q_27, .ref q_31, .int 0, .int 0, .long 0])), (q_18, .inr (7, [.ref q_19, .ref q_20, .int 0, .int 0])), (q_19, .inl (cI, 200, .inl (cn 0))), (q_20, .inl (cI, 200, .inl (cn 0))), (q_116, .inl (cA_117, 1, .inr (.inl cnL)))]) hD hS hA [0, 1, 2, 3, 4, 7] rfl
  refine vx_calli (vx_runSX (As := [.ref q_1, .int (xs 1), .ref q_116]) (rest := []) ⟨hx, hb, hml, hown, hts⟩ (c_L_edgeTime l hl9 dC dI g q_1 q_32 q_61 q_3 q_4 q_10 q_18 q_19 q_20 q_21 q_27 q_31 cI (xs 1) cnL q_116 cA_117 H.size) (vx_cwSW 3 hts gL_law_L_edgeTime rfl rfl rfl (by decide +kernel) ⟨Nat.le_of_ble_eq_true rfl, Nat.le_of_ble_eq_true rfl⟩) ⟨wIn_blind, wIn_at hPc hKc hDc hG hS hFc⟩ rfl rfl hl.1 rfl (lv_room (Nat.le_of_ble_eq_true rfl)) dL_law_1442 ⟨Nat.le_of_ble_eq_true rfl, Nat.le_of_ble_eq_true rfl⟩) hS (fun q _ h => hFc q h) hFc (fun q _ h => hFc q h) (fun E9 ce9 q9 u9 t H1 locs ht hvm hx9 hB9 hz1 hk1 hS hce hcv hcl => False.elim hx9) (fun r_120 u t H1 locs ht hvm hw hB hz1 hk1 hS => ?_)
  obtain ⟨v_121, rfl⟩ : ∃ z, z = u := ⟨_, rfl⟩
  obtain ⟨hP1, hK1, hD1⟩ := hB
  rw [ht] at hP1
  obtain ⟨hP, hD⟩ := va_join (wr := [(q_90, .inr (16, [.ref q_97, .ref q_103, .ref q_113, .ref q_92, .ref q_93, .int 0, .int 0, .int 0, .int 105, .int 0, .int 0, .int 0, .int (-1), .int 0, .int 0, .int 0, .int 0, .int 0, .int 0, .int 0, .long 0, .int 0, .int 0])), (q_93, .inr (3, [.int 0, .ref g.1, .int 0]))]) (w1 := [(q_116, .inl (cA_117, 1, .inr (.inl v_121)))]) hP hD [0, 1, 2, 3, 4, 7] [5, 6] rfl rfl (by decide) (by decide) hk1 hFc hP1 hD1
  generalize H1 = H at hP hS ⊢
  have hP : va_P (dC, dI) vwCl [(q_90, .inr (16, [.ref q_97, .ref q_103, .ref q_113, .ref q_92, .ref q_93, .int 0, .int 0, .int 0, .int 105, .int 0, .int 0, .int 0, .int (-1), .int 0, .int 0, .int 0, .int 0, .int 0, .int 0, .int 0, .long 0, .int 0, .int 0])), (q_93, .inr (3, [.int 0, .ref g.1, .int 0])), (q_116, .inl (cA_117, 1, .inr (.inl v_121)))] H := hP
  have hD : va_D A [(q_90, .inr (16, [.ref q_97, .ref q_103, .ref q_113, .ref q_92, .ref q_93, .int 0, .int 0, .int 0, .int 105, .int 0, .int 0, .int 0, .int (-1), .int 0, .int 0, .int 0, .int 0, .int 0, .int 0, .int 0, .long 0, .int 0, .int 0])), (q_93, .inr (3, [.int 0, .ref g.1, .int 0])), (q_116, .inl (cA_117, 1, .inr (.inl v_121)))] := hD
  refine lt_ci (y := 1) (hw.trans ((kc_sp_X8_edgeTime _))) ?_
  refine W.widen (k := 116) (n := 1860) (Nat.le_of_ble_eq_true rfl) (Nat.le_of_ble_eq_true rfl) ?_
  refine lv_istore (lv' := [(6, .int 1), (5, .int 0), (4, .ref q_118), (3, .ref q_116), (2, .ref q_90), (1, .ref q_1), (0, .ref b)]) hx hb dL_law_1445 hl (by decide) rfl (fun ls hl => ?_)
  refine lv_aload_n hx hb dL_law_1447 rfl (lv_at hl 4 rfl) ?_
  refine lv_aload_n hx hb dL_law_1448 rfl (lv_at hl 6 rfl) ?_
  refine lv_iload hx hb dL_law_1449 (lv_at hl 1 rfl) ?_
  refine lv_iconst (v := 1) hx hb dL_law_1451 (by decide) ?_
  refine lv_iadd hx hb dL_law_1452 ?_
  refine lt_ci (y := 1) (by first | rfl | decide) ?_
  refine va_sld hx hb hX hbl hbA hS (by unfold vp_in; decide) dL_law_1453 ?_
  refine lt_ci (y := (xs 1)) rfl ?_
  have hPc := hP.sub (ws' := [(q_90, .inr (16, [.ref q_97, .ref q_103, .ref q_113, .ref q_92, .ref q_93, .int 0, .int 0, .int 0, .int 105, .int 0, .int 0, .int 0, .int (-1), .int 0, .int 0, .int 0, .int 0, .int 0, .int 0, .int 0, .long 0, .int 0, .int 0])), (q_93, .inr (3, [.int 0, .ref g.1, .int 0]))]) [0, 1] rfl
  have hDc := hD.sub (ws' := [(q_90, .inr (16, [.ref q_97, .ref q_103, .ref q_113, .ref q_92, .ref q_93, .int 0, .int 0, .int 0, .int 105, .int 0, .int 0, .int 0, .int (-1), .int 0, .int 0, .int 0, .int 0, .int 0, .int 0, .int 0, .long 0, .int 0, .int 0])), (q_93, .inr (3, [.int 0, .ref g.1, .int 0]))]) [0, 1] (by decide) rfl
  have hKc := hK.sub (tys' := [(cI, .int), (cZ, .boolean), (cO, .object "java/lang/Object")]) [0, 1, 2] rfl
  have hFc := va_free (wc := [(q_90, .inr (16, [.ref q_97, .ref q_103, .ref q_113, .ref q_92, .ref q_93, .int 0, .int 0, .int 0, .int 105, .int 0, .int 0, .int 0, .int (-1), .int 0, .int 0, .int 0, .int 0, .int 0, .int 0, .int 0, .long 0, .int 0, .int 0])), (q_93, .inr (3, [.int 0, .ref g.1, .int 0]))]) hD hS hA [0, 1] rfl
  refine va_calli (va_runV (As := [.int (xs 1)]) (rest := []) ⟨hx, hb, hml, hown, hts⟩ (c_X12_edgeTime l dC dI g q_90 q_92 q_93 q_97 q_103 q_113 cI cZ cO 0 (xs 1) H.size) (cwV 1 hts gL_law_X12_edgeTime rfl rfl rfl (by decide +kernel) ⟨Nat.le_of_ble_eq_true rfl, Nat.le_of_ble_eq_true rfl⟩) ⟨wIn_blind, va_recv hK hP (ci := 16) (q0 := 0) rfl rfl, wIn_at hPc hKc hDc hG hS hFc⟩ rfl rfl hl.1 rfl (lv_room (Nat.le_of_ble_eq_true rfl)) dL_law_1454 ⟨Nat.le_of_ble_eq_true rfl, Nat.le_of_ble_eq_true rfl⟩) hS (fun q _ h => hFc q h) hFc (fun r_122 u t H1 locs ht hvm hw hB hz1 hk1 hS => ?_)
  obtain ⟨v_123, rfl⟩ : ∃ z, z = u := ⟨_, rfl⟩
  have hm9 : v_123 = mp_X12_edgeTime := hw
  have hm9 := hm9.trans ((kc_mp_X12_edgeTime))
  subst hm9
  obtain ⟨hP1, hK1, hD1⟩ := hB
  rw [ht] at hP1
  obtain ⟨hP, hD⟩ := va_join (wr := [(q_116, .inl (cA_117, 1, .inr (.inl v_121)))]) (w1 := [(q_90, .inr (16, [.ref q_97, .ref q_103, .ref q_113, .ref q_92, .ref q_93, .int 0, .int 0, .int 0, .int 105, .int 0, .int 0, .int 0, .int (-1), .int 0, .int 0, .int 0, .int 0, .int 0, .int 0, .int 0, .long 0, .int 0, .int 1]))]) hP hD [0, 1] [2] rfl rfl (by decide) (by decide) hk1 hFc hP1 hD1
  generalize H1 = H at hP hS ⊢
  have hP : va_P (dC, dI) vwCl [(q_116, .inl (cA_117, 1, .inr (.inl v_121))), (q_90, .inr (16, [.ref q_97, .ref q_103, .ref q_113, .ref q_92, .ref q_93, .int 0, .int 0, .int 0, .int 105, .int 0, .int 0, .int 0, .int (-1), .int 0, .int 0, .int 0, .int 0, .int 0, .int 0, .int 0, .long 0, .int 0, .int 1]))] H := hP
  have hD : va_D A [(q_116, .inl (cA_117, 1, .inr (.inl v_121))), (q_90, .inr (16, [.ref q_97, .ref q_103, .ref q_113, .ref q_92, .ref q_93, .int 0, .int 0, .int 0, .int 105, .int 0, .int 0, .int 0, .int (-1), .int 0, .int 0, .int 0, .int 0, .int 0, .int 0, .int 0, .long 0, .int 0, .int 1]))] := hD
  refine lv_istore (lv' := [(7, .int r_122), (6, .int 1), (5, .int 0), (4, .ref q_118), (3, .ref q_116), (2, .ref q_90), (1, .ref q_1), (0, .ref b)]) hx hb dL_law_1457 hl (by decide) rfl (fun ls hl => ?_)
  refine lv_aload_n hx hb dL_law_1459 rfl (lv_at hl 5 rfl) ?_
  have hPc := hP.sub (ws' := [(q_90, .inr (16, [.ref q_97, .ref q_103, .ref q_113, .ref q_92, .ref q_93, .int 0, .int 0, .int 0, .int 105, .int 0, .int 0, .int 0, .int (-1), .int 0, .int 0, .int 0, .int 0, .int 0, .int 0, .int 0, .long 0, .int 0, .int 1]))]) [1] rfl
  have hDc := hD.sub (ws' := [(q_90, .inr (16, [.ref q_97, .ref q_103, .ref q_113, .ref q_92, .ref q_93, .int 0, .int 0, .int 0, .int 105, .int 0, .int 0, .int 0, .int (-1), .int 0, .int 0, .int 0, .int 0, .int 0, .int 0, .int 0, .long 0, .int 0, .int 1]))]) [1] (by decide) rfl
  have hKc := hK.sub (tys' := [(cI, .int), (cZ, .boolean), (cO, .object "java/lang/Object")]) [0, 1, 2] rfl
  have hFc := va_free (wc := [(q_90, .inr (16, [.ref q_97, .ref q_103, .ref q_113, .ref q_92, .ref q_93, .int 0, .int 0, .int 0, .int 105, .int 0, .int 0, .int 0, .int (-1), .int 0, .int 0, .int 0, .int 0, .int 0, .int 0, .int 0, .long 0, .int 0, .int 1]))]) hD hS hA [1] rfl
  refine va_calli (va_runV (As := []) (rest := []) ⟨hx, hb, hml, hown, hts⟩ (c_X12_thrown l dC dI g q_90 (.ref q_97) (.ref q_103) (.ref q_113) (.ref q_92) (.ref q_93) (.int 0) (.int 0) (.int 0) (.int 105) (.int 0) (.int 0) (.int 0) (.int (-1)) (.int 0) (.int 0) (.int 0) (.int 0) (.int 0) (.int 0) (.int 0) (.long 0) (.int 0) cI cZ cO 1 H.size) (cwV 0 hts gL_law_X12_thrown rfl rfl rfl (by decide +kernel) ⟨Nat.le_of_ble_eq_true rfl, Nat.le_of_ble_eq_true rfl⟩) ⟨wIn_blind, va_recv hK hP (ci := 16) (q0 := 1) rfl rfl, wIn_at hPc hKc hDc hG hS hFc⟩ rfl rfl hl.1 rfl (lv_room (Nat.le_of_ble_eq_true rfl)) dL_law_1460 ⟨Nat.le_of_ble_eq_true rfl, Nat.le_of_ble_eq_true rfl⟩) hS (fun q _ h => hFc q h) hFc (fun r_125 u t H1 locs ht hvm hw hB hz1 hk1 hS => ?_)
  obtain ⟨hP1, hK1, hD1⟩ := hB
  rw [ht] at hP1
  obtain ⟨hP, hD⟩ := va_join (wr := [(q_116, .inl (cA_117, 1, .inr (.inl v_121)))]) (w1 := [(q_90, .inr (16, [.ref q_97, .ref q_103, .ref q_113, .ref q_92, .ref q_93, .int 0, .int 0, .int 0, .int 105, .int 0, .int 0, .int 0, .int (-1), .int 0, .int 0, .int 0, .int 0, .int 0, .int 0, .int 0, .long 0, .int 0, .int 1]))]) hP hD [1] [0] rfl rfl (by decide) (by decide) hk1 hFc hP1 hD1
  generalize H1 = H at hP hS ⊢
  have hP : va_P (dC, dI) vwCl [(q_116, .inl (cA_117, 1, .inr (.inl v_121))), (q_90, .inr (16, [.ref q_97, .ref q_103, .ref q_113, .ref q_92, .ref q_93, .int 0, .int 0, .int 0, .int 105, .int 0, .int 0, .int 0, .int (-1), .int 0, .int 0, .int 0, .int 0, .int 0, .int 0, .int 0, .long 0, .int 0, .int 1]))] H := hP
  have hD : va_D A [(q_116, .inl (cA_117, 1, .inr (.inl v_121))), (q_90, .inr (16, [.ref q_97, .ref q_103, .ref q_113, .ref q_92, .ref q_93, .int 0, .int 0, .int 0, .int 105, .int 0, .int 0, .int 0, .int (-1), .int 0, .int 0, .int 0, .int 0, .int 0, .int 0, .int 0, .long 0, .int 0, .int 1]))] := hD
  refine lt_ci (y := 1) hw ?_
  refine lv_iload hx hb dL_law_1463 (lv_at hl 1 rfl) ?_
  refine lv_icmp_eq (tgt := 1470) hx hb dL_law_1465 (by decide) (fun _ => ?_) (fun c => absurd (by decide) c)
  refine lv_iload hx hb dL_law_1470 (lv_at hl 1 rfl) ?_
  refine lv_if_ne (tgt := 1487) hx hb dL_law_1472 (by decide) (fun _ => ?_) (fun c => absurd c (by decide))
  refine lv_goto (tgt := 1976) hx hb dL_law_1487 (by decide) ?_
  refine lv_iinc (v := 6) (lv' := [(5, .int 6), (7, .int r_122), (6, .int 1), (4, .ref q_118), (3, .ref q_116), (2, .ref q_90), (1, .ref q_1), (0, .ref b)]) hx hb dL_law_1976 hl (k := 2) rfl (by first | rfl | decide) (by decide) rfl (fun ls hl => ?_)
  refine lv_goto (tgt := 28) hx hb dL_law_1979 (by decide) ?_
  refine lv_iload hx hb dL_law_28 (lv_at hl 0 rfl) ?_
  refine lv_aload_n hx hb dL_law_30 rfl (lv_at hl 7 rfl) ?_
  refine va_slen hx hb hX hbl hbA hS dL_law_31 ?_
  refine lt_ci (y := 6) rfl ?_
  refine lv_bipush (v := 6) hx hb dL_law_32 (by decide) ?_
  refine lv_isub hx hb dL_law_34 ?_
  refine lt_ci (y := 0) (by first | rfl | decide) ?_
  refine lv_icmp_gt (tgt := 1982) hx hb dL_law_35 (by decide) (fun _ => ?_) (fun c => absurd (by decide) c)
  refine lv_iconst (v := 1) hx hb dL_law_1982 (by decide) ?_
  refine W.widen (k := 735603) (n := 6895256) (Nat.le_of_ble_eq_true rfl) (Nat.le_of_ble_eq_true rfl) ?_
  refine va_forget (fun q hq => by have h9 := hS.2.2 q hq; rw [hAe] at h9; exact h9) ?_
  exact W.base (lw_ret (Drawn.sameBut.refl s.drawn lw_cs) hx hb hr hlocks dL_law_1983)
set_option maxHeartbeats 8000000 in
set_option maxRecDepth 100000 in
theorem c_L_law_21 {p : Program} {e : Env} {s : State} {m : MethodId} {below : List Frame} {meth : Method} {c : Code} (l : Launch) (hl9 : l.stackTraces = false) (dC : Nat → ClassId) (dI : Nat → Nat → Nat) (g : Nat × Nat × Nat) (b : Nat) (xs : Nat → Int32) (cI cZ cO : ClassId) (hx : p.tables.exec = Jvm.exec) (hb : c.code = cL_law) (hr : meth.sig.returnType = ret) (hml : c.maxLocals = 9) (hown : s.vm.findClass RL = some m.cls) (hts : ∀ w ∈ wsL_law, w.before #[Value.ref b] s = true) (hX : va_X b 6 xs s s.heap) (hbl : b < s.heap.size) (hlocks : meth.locks = false) (hG : gx g (fun q => s.heap.size ≤ q) s s.heap) (hk : (xs 0 &&& 63) = 21) (cA_117 : ClassId) (cA_119 : ClassId) (q_1 : Nat) (q_3 : Nat) (q_4 : Nat) (q_10 : Nat) (q_18 : Nat) (q_19 : Nat) (q_20 : Nat) (q_21 : Nat) (q_27 : Nat) (q_31 : Nat) (q_32 : Nat) (q_61 : Nat) (q_90 : Nat) (q_92 : Nat) (q_93 : Nat) (q_97 : Nat) (q_103 : Nat) (q_113 : Nat) (q_116 : Nat) (q_118 : Nat) (H : Heap) (locs : List Loc) (ls : Array Slot) (hK : va_K (dC, dI) vwCl [(cI, .int), (cZ, .boolean), (cO, .object "java/lang/Object"), (cA_117, .long), (cA_119, .double)] s) (hP : va_P (dC, dI) vwCl [(q_1, .inr (12, [.ref q_3, .ref q_32, .ref q_61])), (q_3, .inr (4, [.ref q_4, .ref q_10, .ref q_18, .ref q_21, .ref q_27, .ref q_31, .int 0, .int 0, .long 0])), (q_18, .inr (7, [.ref q_19, .ref q_20, .int 0, .int 0])), (q_19, .inl (cI, 200, .inl (cn 0))), (q_20, .inl (cI, 200, .inl (cn 0))), (q_90, .inr (16, [.ref q_97, .ref q_103, .ref q_113, .ref q_92, .ref q_93, .int 0, .int 0, .int 0, .int 105, .int 0, .int 0, .int 0, .int (-1), .int 0, .int 0, .int 0, .int 0, .int 0, .int 0, .int 0, .long 0, .int 0, .int 0])), (q_93, .inr (3, [.int 0, .ref g.1, .int 0])), (q_116, .inl (cA_117, 1, .inr (.inl cnL)))] H) (hD : va_D (fun q => s.heap.size ≤ q) [(q_1, .inr (12, [.ref q_3, .ref q_32, .ref q_61])), (q_3, .inr (4, [.ref q_4, .ref q_10, .ref q_18, .ref q_21, .ref q_27, .ref q_31, .int 0, .int 0, .long 0])), (q_18, .inr (7, [.ref q_19, .ref q_20, .int 0, .int 0])), (q_19, .inl (cI, 200, .inl (cn 0))), (q_20, .inl (cI, 200, .inl (cn 0))), (q_90, .inr (16, [.ref q_97, .ref q_103, .ref q_113, .ref q_92, .ref q_93, .int 0, .int 0, .int 0, .int 105, .int 0, .int 0, .int 0, .int (-1), .int 0, .int 0, .int 0, .int 0, .int 0, .int 0, .int 0, .long 0, .int 0, .int 0])), (q_93, .inr (3, [.int 0, .ref g.1, .int 0])), (q_116, .inl (cA_117, 1, .inr (.inl cnL)))]) (hS : va_S (fun q => s.heap.size ≤ q) s.heap H locs) (hl : lv_has ls 9 [(5, .int 0), (4, .ref q_118), (3, .ref q_116), (2, .ref q_90), (1, .ref q_1), (0, .ref b)]) : W p l e room_1 s m #[Value.ref b] below meth c H locs 115 1854 (lw_Z below #[Value.ref b] s) (F0 m 28 ls []) := by
  have hN := hG.1
  obtain ⟨A, hAe⟩ : ∃ A : Nat → Prop, A = (fun q => s.heap.size ≤ q) := ⟨_, rfl⟩
  rw [← hAe] at hG hD hS
  have hA : ∀ q : Nat, s.heap.size ≤ q → A q := fun q h => by rw [hAe]; exact h
  have hbA : ¬ A b := by rw [hAe]; exact Nat.not_le.mpr hbl
  refine lv_iload hx hb dL_law_28 (lv_at hl 0 rfl) ?_
  refine lv_aload_n hx hb dL_law_30 rfl (lv_at hl 5 rfl) ?_
  refine va_slen hx hb hX hbl hbA hS dL_law_31 ?_
  refine lt_ci (y := 6) rfl ?_
  refine lv_bipush (v := 6) hx hb dL_law_32 (by decide) ?_
  refine lv_isub hx hb dL_law_34 ?_
  refine lt_ci (y := 0) (by first | rfl | decide) ?_
  refine lv_icmp_gt (tgt := 1982) hx hb dL_law_35 (by decide) (fun c => absurd c (by decide)) (fun _ => ?_)
  refine lv_aload_n hx hb dL_law_38 rfl (lv_at hl 5 rfl) ?_
  refine lv_iload hx hb dL_law_39 (lv_at hl 0 rfl) ?_
  refine va_sld hx hb hX hbl hbA hS (by unfold vp_in; decide) dL_law_41 ?_
  refine lt_ci (y := (xs 0)) rfl ?_
  refine lv_bipush (v := 63) hx hb dL_law_42 (by decide) ?_
  refine lv_iand hx hb dL_law_44 ?_
  refine lt_ci (y := 21) hk ?_
  refine lv_tableIn (off := 1445) (tgt := 1490) hx hb dL_law_45 (by decide) (by decide) (by decide) (by decide) ?_
  refine lv_aload_n hx hb dL_law_1490 rfl (lv_at hl 4 rfl) ?_
  refine lv_aload_n hx hb dL_law_1491 rfl (lv_at hl 5 rfl) ?_
  refine lv_iload hx hb dL_law_1492 (lv_at hl 0 rfl) ?_
  refine lv_iconst (v := 1) hx hb dL_law_1494 (by decide) ?_
  refine lv_iadd hx hb dL_law_1495 ?_
  refine lt_ci (y := 1) (by first | rfl | decide) ?_
  refine va_sld hx hb hX hbl hbA hS (by unfold vp_in; decide) dL_law_1496 ?_
  refine lt_ci (y := (xs 1)) rfl ?_
  refine lv_aload_n hx hb dL_law_1497 rfl (lv_at hl 2 rfl) ?_
  have hPc := hP.sub (ws' := [(q_1, .inr (12, [.ref q_3, .ref q_32, .ref q_61])), (q_3, .inr (4, [.ref q_4, .ref q_10, .ref q_18, .ref q_21, .ref q_27, .ref q_31, .int 0, .int 0, .long 0])), (q_18, .inr (7, [.ref q_19, .ref q_20, .int 0, .int 0])), (q_19, .inl (cI, 200, .inl (cn 0))), (q_20, .inl (cI, 200, .inl (cn 0))), (q_116, .inl (cA_117, 1, .inr (.inl cnL)))]) [0, 1, 2, 3, 4, 7] rfl
  have hDc := hD.sub (ws' := [(q_1, .inr (12, [.ref q_3, .ref q_32, .ref q_61])), (q_3, .inr (4, [.ref q_4, .ref q_10, .ref q_18, .ref q_21, .ref q_27, .ref q_31, .int 0, .int 0, .long 0])), (q_18, .inr (7, [.ref q_19, .ref q_20, .int 0, .int 0])), (q_19, .inl (cI, 200, .inl (cn 0))), (q_20, .inl (cI, 200, .inl (cn 0))), (q_116, .inl (cA_117, 1, .inr (.inl cnL)))]) [0, 1, 2, 3, 4, 7] (by decide) rfl
  have hKc := hK.sub (tys' := [(cI, .int), (cA_117, .long)]) [0, 3] rfl
  have hFc := va_free (wc := [(q_1, .inr (12, [.ref q_3, .ref q_32, .ref q_61])), (q_3, .inr (4, [.ref q_4, .ref q_10, .ref q_18, .ref q_21, .ref q_27, .ref q_31, .int 0, .int 0, .long 0])), (q_18, .inr (7, [.ref q_19, .ref q_20, .int 0, .int 0])), (q_19, .inl (cI, 200, .inl (cn 0))), (q_20, .inl (cI, 200, .inl (cn 0))), (q_116, .inl (cA_117, 1, .inr (.inl cnL)))]) hD hS hA [0, 1, 2, 3, 4, 7] rfl
  refine vx_calli (vx_runSX (As := [.ref q_1, .int (xs 1), .ref q_116]) (rest := []) ⟨hx, hb, hml, hown, hts⟩ (c_L_edgePin l hl9 dC dI g q_1 q_32 q_61 q_3 q_4 q_10 q_18 q_19 q_20 q_21 q_27 q_31 cI (xs 1) cnL q_116 cA_117 H.size) (vx_cwSW 3 hts gL_law_L_edgePin rfl rfl rfl (by decide +kernel) ⟨Nat.le_of_ble_eq_true rfl, Nat.le_of_ble_eq_true rfl⟩) ⟨wIn_blind, wIn_at hPc hKc hDc hG hS hFc⟩ rfl rfl hl.1 rfl (lv_room (Nat.le_of_ble_eq_true rfl)) dL_law_1498 ⟨Nat.le_of_ble_eq_true rfl, Nat.le_of_ble_eq_true rfl⟩) hS (fun q _ h => hFc q h) hFc (fun q _ h => hFc q h) (fun E9 ce9 q9 u9 t H1 locs ht hvm hx9 hB9 hz1 hk1 hS hce hcv hcl => False.elim hx9) (fun r_120 u t H1 locs ht hvm hw hB hz1 hk1 hS => ?_)
  obtain ⟨v_121, rfl⟩ : ∃ z, z = u := ⟨_, rfl⟩
  obtain ⟨hP1, hK1, hD1⟩ := hB
  rw [ht] at hP1
  obtain ⟨hP, hD⟩ := va_join (wr := [(q_90, .inr (16, [.ref q_97, .ref q_103, .ref q_113, .ref q_92, .ref q_93, .int 0, .int 0, .int 0, .int 105, .int 0, .int 0, .int 0, .int (-1), .int 0, .int 0, .int 0, .int 0, .int 0, .int 0, .int 0, .long 0, .int 0, .int 0])), (q_93, .inr (3, [.int 0, .ref g.1, .int 0]))]) (w1 := [(q_116, .inl (cA_117, 1, .inr (.inl v_121)))]) hP hD [0, 1, 2, 3, 4, 7] [5, 6] rfl rfl (by decide) (by decide) hk1 hFc hP1 hD1
  generalize H1 = H at hP hS ⊢
  have hP : va_P (dC, dI) vwCl [(q_90, .inr (16, [.ref q_97, .ref q_103, .ref q_113, .ref q_92, .ref q_93, .int 0, .int 0, .int 0, .int 105, .int 0, .int 0, .int 0, .int (-1), .int 0, .int 0, .int 0, .int 0, .int 0, .int 0, .int 0, .long 0, .int 0, .int 0])), (q_93, .inr (3, [.int 0, .ref g.1, .int 0])), (q_116, .inl (cA_117, 1, .inr (.inl v_121)))] H := hP
  have hD : va_D A [(q_90, .inr (16, [.ref q_97, .ref q_103, .ref q_113, .ref q_92, .ref q_93, .int 0, .int 0, .int 0, .int 105, .int 0, .int 0, .int 0, .int (-1), .int 0, .int 0, .int 0, .int 0, .int 0, .int 0, .int 0, .long 0, .int 0, .int 0])), (q_93, .inr (3, [.int 0, .ref g.1, .int 0])), (q_116, .inl (cA_117, 1, .inr (.inl v_121)))] := hD
  refine lt_ci (y := 1) (hw.trans ((kc_sp_X8_edgePin _))) ?_
  refine W.widen (k := 116) (n := 1860) (Nat.le_of_ble_eq_true rfl) (Nat.le_of_ble_eq_true rfl) ?_
  refine lv_istore (lv' := [(6, .int 1), (5, .int 0), (4, .ref q_118), (3, .ref q_116), (2, .ref q_90), (1, .ref q_1), (0, .ref b)]) hx hb dL_law_1501 hl (by decide) rfl (fun ls hl => ?_)
  refine lv_aload_n hx hb dL_law_1503 rfl (lv_at hl 4 rfl) ?_
  refine lv_aload_n hx hb dL_law_1504 rfl (lv_at hl 6 rfl) ?_
  refine lv_iload hx hb dL_law_1505 (lv_at hl 1 rfl) ?_
  refine lv_iconst (v := 1) hx hb dL_law_1507 (by decide) ?_
  refine lv_iadd hx hb dL_law_1508 ?_
  refine lt_ci (y := 1) (by first | rfl | decide) ?_
  refine va_sld hx hb hX hbl hbA hS (by unfold vp_in; decide) dL_law_1509 ?_
  refine lt_ci (y := (xs 1)) rfl ?_
  have hPc := hP.sub (ws' := [(q_90, .inr (16, [.ref q_97, .ref q_103, .ref q_113, .ref q_92, .ref q_93, .int 0, .int 0, .int 0, .int 105, .int 0, .int 0, .int 0, .int (-1), .int 0, .int 0, .int 0, .int 0, .int 0, .int 0, .int 0, .long 0, .int 0, .int 0])), (q_93, .inr (3, [.int 0, .ref g.1, .int 0]))]) [0, 1] rfl
  have hDc := hD.sub (ws' := [(q_90, .inr (16, [.ref q_97, .ref q_103, .ref q_113, .ref q_92, .ref q_93, .int 0, .int 0, .int 0, .int 105, .int 0, .int 0, .int 0, .int (-1), .int 0, .int 0, .int 0, .int 0, .int 0, .int 0, .int 0, .long 0, .int 0, .int 0])), (q_93, .inr (3, [.int 0, .ref g.1, .int 0]))]) [0, 1] (by decide) rfl
  have hKc := hK.sub (tys' := [(cI, .int), (cZ, .boolean), (cO, .object "java/lang/Object")]) [0, 1, 2] rfl
  have hFc := va_free (wc := [(q_90, .inr (16, [.ref q_97, .ref q_103, .ref q_113, .ref q_92, .ref q_93, .int 0, .int 0, .int 0, .int 105, .int 0, .int 0, .int 0, .int (-1), .int 0, .int 0, .int 0, .int 0, .int 0, .int 0, .int 0, .long 0, .int 0, .int 0])), (q_93, .inr (3, [.int 0, .ref g.1, .int 0]))]) hD hS hA [0, 1] rfl
  refine va_calli (va_runV (As := [.int (xs 1)]) (rest := []) ⟨hx, hb, hml, hown, hts⟩ (c_X12_edgePin l dC dI g q_90 q_92 q_93 q_97 q_103 q_113 cI cZ cO 0 (xs 1) H.size) (cwV 1 hts gL_law_X12_edgePin rfl rfl rfl (by decide +kernel) ⟨Nat.le_of_ble_eq_true rfl, Nat.le_of_ble_eq_true rfl⟩) ⟨wIn_blind, va_recv hK hP (ci := 16) (q0 := 0) rfl rfl, wIn_at hPc hKc hDc hG hS hFc⟩ rfl rfl hl.1 rfl (lv_room (Nat.le_of_ble_eq_true rfl)) dL_law_1510 ⟨Nat.le_of_ble_eq_true rfl, Nat.le_of_ble_eq_true rfl⟩) hS (fun q _ h => hFc q h) hFc (fun r_122 u t H1 locs ht hvm hw hB hz1 hk1 hS => ?_)
  obtain ⟨v_123, rfl⟩ : ∃ z, z = u := ⟨_, rfl⟩
  have hm9 : v_123 = mp_X12_edgePin := hw
  have hm9 := hm9.trans ((kc_mp_X12_edgePin))
  subst hm9
  obtain ⟨hP1, hK1, hD1⟩ := hB
  rw [ht] at hP1
  obtain ⟨hP, hD⟩ := va_join (wr := [(q_116, .inl (cA_117, 1, .inr (.inl v_121)))]) (w1 := [(q_90, .inr (16, [.ref q_97, .ref q_103, .ref q_113, .ref q_92, .ref q_93, .int 0, .int 0, .int 0, .int 105, .int 0, .int 0, .int 0, .int (-1), .int 0, .int 0, .int 0, .int 0, .int 0, .int 0, .int 0, .long 0, .int 0, .int 1]))]) hP hD [0, 1] [2] rfl rfl (by decide) (by decide) hk1 hFc hP1 hD1
  generalize H1 = H at hP hS ⊢
  have hP : va_P (dC, dI) vwCl [(q_116, .inl (cA_117, 1, .inr (.inl v_121))), (q_90, .inr (16, [.ref q_97, .ref q_103, .ref q_113, .ref q_92, .ref q_93, .int 0, .int 0, .int 0, .int 105, .int 0, .int 0, .int 0, .int (-1), .int 0, .int 0, .int 0, .int 0, .int 0, .int 0, .int 0, .long 0, .int 0, .int 1]))] H := hP
  have hD : va_D A [(q_116, .inl (cA_117, 1, .inr (.inl v_121))), (q_90, .inr (16, [.ref q_97, .ref q_103, .ref q_113, .ref q_92, .ref q_93, .int 0, .int 0, .int 0, .int 105, .int 0, .int 0, .int 0, .int (-1), .int 0, .int 0, .int 0, .int 0, .int 0, .int 0, .int 0, .long 0, .int 0, .int 1]))] := hD
  refine lv_istore (lv' := [(7, .int r_122), (6, .int 1), (5, .int 0), (4, .ref q_118), (3, .ref q_116), (2, .ref q_90), (1, .ref q_1), (0, .ref b)]) hx hb dL_law_1513 hl (by decide) rfl (fun ls hl => ?_)
  refine lv_aload_n hx hb dL_law_1515 rfl (lv_at hl 5 rfl) ?_
  have hPc := hP.sub (ws' := [(q_90, .inr (16, [.ref q_97, .ref q_103, .ref q_113, .ref q_92, .ref q_93, .int 0, .int 0, .int 0, .int 105, .int 0, .int 0, .int 0, .int (-1), .int 0, .int 0, .int 0, .int 0, .int 0, .int 0, .int 0, .long 0, .int 0, .int 1]))]) [1] rfl
  have hDc := hD.sub (ws' := [(q_90, .inr (16, [.ref q_97, .ref q_103, .ref q_113, .ref q_92, .ref q_93, .int 0, .int 0, .int 0, .int 105, .int 0, .int 0, .int 0, .int (-1), .int 0, .int 0, .int 0, .int 0, .int 0, .int 0, .int 0, .long 0, .int 0, .int 1]))]) [1] (by decide) rfl
  have hKc := hK.sub (tys' := [(cI, .int), (cZ, .boolean), (cO, .object "java/lang/Object")]) [0, 1, 2] rfl
  have hFc := va_free (wc := [(q_90, .inr (16, [.ref q_97, .ref q_103, .ref q_113, .ref q_92, .ref q_93, .int 0, .int 0, .int 0, .int 105, .int 0, .int 0, .int 0, .int (-1), .int 0, .int 0, .int 0, .int 0, .int 0, .int 0, .int 0, .long 0, .int 0, .int 1]))]) hD hS hA [1] rfl
  refine va_calli (va_runV (As := []) (rest := []) ⟨hx, hb, hml, hown, hts⟩ (c_X12_thrown l dC dI g q_90 (.ref q_97) (.ref q_103) (.ref q_113) (.ref q_92) (.ref q_93) (.int 0) (.int 0) (.int 0) (.int 105) (.int 0) (.int 0) (.int 0) (.int (-1)) (.int 0) (.int 0) (.int 0) (.int 0) (.int 0) (.int 0) (.int 0) (.long 0) (.int 0) cI cZ cO 1 H.size) (cwV 0 hts gL_law_X12_thrown rfl rfl rfl (by decide +kernel) ⟨Nat.le_of_ble_eq_true rfl, Nat.le_of_ble_eq_true rfl⟩) ⟨wIn_blind, va_recv hK hP (ci := 16) (q0 := 1) rfl rfl, wIn_at hPc hKc hDc hG hS hFc⟩ rfl rfl hl.1 rfl (lv_room (Nat.le_of_ble_eq_true rfl)) dL_law_1516 ⟨Nat.le_of_ble_eq_true rfl, Nat.le_of_ble_eq_true rfl⟩) hS (fun q _ h => hFc q h) hFc (fun r_125 u t H1 locs ht hvm hw hB hz1 hk1 hS => ?_)
  obtain ⟨hP1, hK1, hD1⟩ := hB
  rw [ht] at hP1
  obtain ⟨hP, hD⟩ := va_join (wr := [(q_116, .inl (cA_117, 1, .inr (.inl v_121)))]) (w1 := [(q_90, .inr (16, [.ref q_97, .ref q_103, .ref q_113, .ref q_92, .ref q_93, .int 0, .int 0, .int 0, .int 105, .int 0, .int 0, .int 0, .int (-1), .int 0, .int 0, .int 0, .int 0, .int 0, .int 0, .int 0, .long 0, .int 0, .int 1]))]) hP hD [1] [0] rfl rfl (by decide) (by decide) hk1 hFc hP1 hD1
  generalize H1 = H at hP hS ⊢
  have hP : va_P (dC, dI) vwCl [(q_116, .inl (cA_117, 1, .inr (.inl v_121))), (q_90, .inr (16, [.ref q_97, .ref q_103, .ref q_113, .ref q_92, .ref q_93, .int 0, .int 0, .int 0, .int 105, .int 0, .int 0, .int 0, .int (-1), .int 0, .int 0, .int 0, .int 0, .int 0, .int 0, .int 0, .long 0, .int 0, .int 1]))] H := hP
  have hD : va_D A [(q_116, .inl (cA_117, 1, .inr (.inl v_121))), (q_90, .inr (16, [.ref q_97, .ref q_103, .ref q_113, .ref q_92, .ref q_93, .int 0, .int 0, .int 0, .int 105, .int 0, .int 0, .int 0, .int (-1), .int 0, .int 0, .int 0, .int 0, .int 0, .int 0, .int 0, .long 0, .int 0, .int 1]))] := hD
  refine lt_ci (y := 1) hw ?_
  refine lv_iload hx hb dL_law_1519 (lv_at hl 1 rfl) ?_
  refine lv_icmp_eq (tgt := 1526) hx hb dL_law_1521 (by decide) (fun _ => ?_) (fun c => absurd (by decide) c)
  refine lv_iload hx hb dL_law_1526 (lv_at hl 1 rfl) ?_
  refine lv_if_ne (tgt := 1543) hx hb dL_law_1528 (by decide) (fun _ => ?_) (fun c => absurd c (by decide))
  refine lv_goto (tgt := 1976) hx hb dL_law_1543 (by decide) ?_
  refine lv_iinc (v := 6) (lv' := [(5, .int 6), (7, .int r_122), (6, .int 1), (4, .ref q_118), (3, .ref q_116), (2, .ref q_90), (1, .ref q_1), (0, .ref b)]) hx hb dL_law_1976 hl (k := 2) rfl (by first | rfl | decide) (by decide) rfl (fun ls hl => ?_)
  refine lv_goto (tgt := 28) hx hb dL_law_1979 (by decide) ?_
  refine lv_iload hx hb dL_law_28 (lv_at hl 0 rfl) ?_
  refine lv_aload_n hx hb dL_law_30 rfl (lv_at hl 7 rfl) ?_
  refine va_slen hx hb hX hbl hbA hS dL_law_31 ?_
  refine lt_ci (y := 6) rfl ?_
  refine lv_bipush (v := 6) hx hb dL_law_32 (by decide) ?_
  refine lv_isub hx hb dL_law_34 ?_
  refine lt_ci (y := 0) (by first | rfl | decide) ?_
  refine lv_icmp_gt (tgt := 1982) hx hb dL_law_35 (by decide) (fun _ => ?_) (fun c => absurd (by decide) c)
  refine lv_iconst (v := 1) hx hb dL_law_1982 (by decide) ?_
  refine W.widen (k := 735603) (n := 6895256) (Nat.le_of_ble_eq_true rfl) (Nat.le_of_ble_eq_true rfl) ?_
  refine va_forget (fun q hq => by have h9 := hS.2.2 q hq; rw [hAe] at h9; exact h9) ?_
  exact W.base (lw_ret (Drawn.sameBut.refl s.drawn lw_cs) hx hb hr hlocks dL_law_1983)
set_option maxHeartbeats 8000000 in
set_option maxRecDepth 100000 in
theorem c_L_law_22 {p : Program} {e : Env} {s : State} {m : MethodId} {below : List Frame} {meth : Method} {c : Code} (l : Launch) (hl9 : l.stackTraces = false) (dC : Nat → ClassId) (dI : Nat → Nat → Nat) (g : Nat × Nat × Nat) (b : Nat) (xs : Nat → Int32) (cI cZ cO : ClassId) (hx : p.tables.exec = Jvm.exec) (hb : c.code = cL_law) (hr : meth.sig.returnType = ret) (hml : c.maxLocals = 9) (hown : s.vm.findClass RL = some m.cls) (hts : ∀ w ∈ wsL_law, w.before #[Value.ref b] s = true) (hX : va_X b 6 xs s s.heap) (hbl : b < s.heap.size) (hlocks : meth.locks = false) (hG : gx g (fun q => s.heap.size ≤ q) s s.heap) (hk : (xs 0 &&& 63) = 22) (cA_117 : ClassId) (cA_119 : ClassId) (q_1 : Nat) (q_3 : Nat) (q_4 : Nat) (q_10 : Nat) (q_18 : Nat) (q_21 : Nat) (q_22 : Nat) (q_23 : Nat) (q_24 : Nat) (q_25 : Nat) (q_26 : Nat) (q_27 : Nat) (q_31 : Nat) (q_32 : Nat) (q_61 : Nat) (q_90 : Nat) (q_92 : Nat) (q_93 : Nat) (q_97 : Nat) (q_103 : Nat) (q_106 : Nat) (q_107 : Nat) (q_108 : Nat) (q_109 : Nat) (q_110 : Nat) (q_111 : Nat) (q_112 : Nat) (q_113 : Nat) (q_114 : Nat) (q_115 : Nat) (q_116 : Nat) (q_118 : Nat) (H : Heap) (locs : List Loc) (ls : Array Slot) (hK : va_K (dC, dI) vwCl [(cI, .int), (cZ, .boolean), (cO, .object "java/lang/Object"), (cA_117, .long), (cA_119, .double)] s) (hP : va_P (dC, dI) vwCl [(q_1, .inr (12, [.ref q_3, .ref q_32, .ref q_61])), (q_3, .inr (4, [.ref q_4, .ref q_10, .ref q_18, .ref q_21, .ref q_27, .ref q_31, .int 0, .int 0, .long 0])), (q_21, .inr (6, [.ref q_24, .ref q_25, .ref q_26, .ref q_22, .ref q_23, .int 0, .int 0])), (q_22, .inl (cI, 8, .inl (cn 0))), (q_23, .inl (cI, 8, .inl (cn 0))), (q_24, .inl (cI, 8, .inl (cn 7))), (q_25, .inl (cI, 8, .inl (cn 1))), (q_26, .inl (cI, 8, .inl (cn 110))), (q_90, .inr (16, [.ref q_97, .ref q_103, .ref q_113, .ref q_92, .ref q_93, .int 0, .int 0, .int 0, .int 105, .int 0, .int 0, .int 0, .int (-1), .int 0, .int 0, .int 0, .int 0, .int 0, .int 0, .int 0, .long 0, .int 0, .int 0])), (q_106, .inr (14, [.int 0, .int 7, .int 0, .int 1, .int 110, .int 0, .int 0])), (q_107, .inr (14, [.int 0, .int 7, .int 0, .int 1, .int 110, .int 0, .int 0])), (q_108, .inr (14, [.int 0, .int 7, .int 0, .int 1, .int 110, .int 0, .int 0])), (q_109, .inr (14, [.int 0, .int 7, .int 0, .int 1, .int 110, .int 0, .int 0])), (q_110, .inr (14, [.int 0, .int 7, .int 0, .int 1, .int 110, .int 0, .int 0])), (q_111, .inr (14, [.int 0, .int 7, .int 0, .int 1, .int 110, .int 0, .int 0])), (q_112, .inr (14, [.int 0, .int 7, .int 0, .int 1, .int 110, .int 0, .int 0])), (q_113, .inr (3, [.int 8, .ref q_114, .int 8])), (q_114, .inl (cO, 10, .inr (.inr (.inr (.inr (va_up (va_up (va_up (va_up (va_up (va_up (va_up (va_up nn 0 (some q_106)) 1 (some q_107)) 2 (some q_108)) 3 (some q_109)) 4 (some q_110)) 5 (some q_111)) 6 (some q_112)) 7 (some q_115))))))), (q_115, .inr (14, [.int 0, .int 7, .int 0, .int 1, .int 110, .int 0, .int 0])), (q_116, .inl (cA_117, 1, .inr (.inl cnL)))] H) (hD : va_D (fun q => s.heap.size ≤ q) [(q_1, .inr (12, [.ref q_3, .ref q_32, .ref q_61])), (q_3, .inr (4, [.ref q_4, .ref q_10, .ref q_18, .ref q_21, .ref q_27, .ref q_31, .int 0, .int 0, .long 0])), (q_21, .inr (6, [.ref q_24, .ref q_25, .ref q_26, .ref q_22, .ref q_23, .int 0, .int 0])), (q_22, .inl (cI, 8, .inl (cn 0))), (q_23, .inl (cI, 8, .inl (cn 0))), (q_24, .inl (cI, 8, .inl (cn 7))), (q_25, .inl (cI, 8, .inl (cn 1))), (q_26, .inl (cI, 8, .inl (cn 110))), (q_90, .inr (16, [.ref q_97, .ref q_103, .ref q_113, .ref q_92, .ref q_93, .int 0, .int 0, .int 0, .int 105, .int 0, .int 0, .int 0, .int (-1), .int 0, .int 0, .int 0, .int 0, .int 0, .int 0, .int 0, .long 0, .int 0, .int 0])), (q_106, .inr (14, [.int 0, .int 7, .int 0, .int 1, .int 110, .int 0, .int 0])), (q_107, .inr (14, [.int 0, .int 7, .int 0, .int 1, .int 110, .int 0, .int 0])), (q_108, .inr (14, [.int 0, .int 7, .int 0, .int 1, .int 110, .int 0, .int 0])), (q_109, .inr (14, [.int 0, .int 7, .int 0, .int 1, .int 110, .int 0, .int 0])), (q_110, .inr (14, [.int 0, .int 7, .int 0, .int 1, .int 110, .int 0, .int 0])), (q_111, .inr (14, [.int 0, .int 7, .int 0, .int 1, .int 110, .int 0, .int 0])), (q_112, .inr (14, [.int 0, .int 7, .int 0, .int 1, .int 110, .int 0, .int 0])), (q_113, .inr (3, [.int 8, .ref q_114, .int 8])), (q_114, .inl (cO, 10, .inr (.inr (.inr (.inr (va_up (va_up (va_up (va_up (va_up (va_up (va_up (va_up nn 0 (some q_106)) 1 (some q_107)) 2 (some q_108)) 3 (some q_109)) 4 (some q_110)) 5 (some q_111)) 6 (some q_112)) 7 (some q_115))))))), (q_115, .inr (14, [.int 0, .int 7, .int 0, .int 1, .int 110, .int 0, .int 0])), (q_116, .inl (cA_117, 1, .inr (.inl cnL)))]) (hS : va_S (fun q => s.heap.size ≤ q) s.heap H locs) (hl : lv_has ls 9 [(5, .int 0), (4, .ref q_118), (3, .ref q_116), (2, .ref q_90), (1, .ref q_1), (0, .ref b)]) : W p l e room_1 s m #[Value.ref b] below meth c H locs 115 1854 (lw_Z below #[Value.ref b] s) (F0 m 28 ls []) := by
  have hN := hG.1
  obtain ⟨A, hAe⟩ : ∃ A : Nat → Prop, A = (fun q => s.heap.size ≤ q) := ⟨_, rfl⟩
  rw [← hAe] at hG hD hS
  have hA : ∀ q : Nat, s.heap.size ≤ q → A q := fun q h => by rw [hAe]; exact h
  have hbA : ¬ A b := by rw [hAe]; exact Nat.not_le.mpr hbl
  refine lv_iload hx hb dL_law_28 (lv_at hl 0 rfl) ?_
  refine lv_aload_n hx hb dL_law_30 rfl (lv_at hl 5 rfl) ?_
  refine va_slen hx hb hX hbl hbA hS dL_law_31 ?_
  refine lt_ci (y := 6) rfl ?_
  refine lv_bipush (v := 6) hx hb dL_law_32 (by decide) ?_
  refine lv_isub hx hb dL_law_34 ?_
  refine lt_ci (y := 0) (by first | rfl | decide) ?_
  refine lv_icmp_gt (tgt := 1982) hx hb dL_law_35 (by decide) (fun c => absurd c (by decide)) (fun _ => ?_)
  refine lv_aload_n hx hb dL_law_38 rfl (lv_at hl 5 rfl) ?_
  refine lv_iload hx hb dL_law_39 (lv_at hl 0 rfl) ?_
  refine va_sld hx hb hX hbl hbA hS (by unfold vp_in; decide) dL_law_41 ?_
  refine lt_ci (y := (xs 0)) rfl ?_
  refine lv_bipush (v := 63) hx hb dL_law_42 (by decide) ?_
  refine lv_iand hx hb dL_law_44 ?_
  refine lt_ci (y := 22) hk ?_
  refine lv_tableIn (off := 1501) (tgt := 1546) hx hb dL_law_45 (by decide) (by decide) (by decide) (by decide) ?_
  refine lv_aload_n hx hb dL_law_1546 rfl (lv_at hl 4 rfl) ?_
  refine lv_aload_n hx hb dL_law_1547 rfl (lv_at hl 5 rfl) ?_
  refine lv_iload hx hb dL_law_1548 (lv_at hl 0 rfl) ?_
  refine lv_iconst (v := 1) hx hb dL_law_1550 (by decide) ?_
  refine lv_iadd hx hb dL_law_1551 ?_
  refine lt_ci (y := 1) (by first | rfl | decide) ?_
  refine va_sld hx hb hX hbl hbA hS (by unfold vp_in; decide) dL_law_1552 ?_
  refine lt_ci (y := (xs 1)) rfl ?_
  refine lv_aload_n hx hb dL_law_1553 rfl (lv_at hl 2 rfl) ?_
  have hPc := hP.sub (ws' := [(q_1, .inr (12, [.ref q_3, .ref q_32, .ref q_61])), (q_3, .inr (4, [.ref q_4, .ref q_10, .ref q_18, .ref q_21, .ref q_27, .ref q_31, .int 0, .int 0, .long 0])), (q_21, .inr (6, [.ref q_24, .ref q_25, .ref q_26, .ref q_22, .ref q_23, .int 0, .int 0])), (q_24, .inl (cI, 8, .inl (cn 7))), (q_25, .inl (cI, 8, .inl (cn 1))), (q_26, .inl (cI, 8, .inl (cn 110))), (q_22, .inl (cI, 8, .inl (cn 0))), (q_23, .inl (cI, 8, .inl (cn 0))), (q_116, .inl (cA_117, 1, .inr (.inl cnL)))]) [0, 1, 2, 5, 6, 7, 3, 4, 19] rfl
  have hDc := hD.sub (ws' := [(q_1, .inr (12, [.ref q_3, .ref q_32, .ref q_61])), (q_3, .inr (4, [.ref q_4, .ref q_10, .ref q_18, .ref q_21, .ref q_27, .ref q_31, .int 0, .int 0, .long 0])), (q_21, .inr (6, [.ref q_24, .ref q_25, .ref q_26, .ref q_22, .ref q_23, .int 0, .int 0])), (q_24, .inl (cI, 8, .inl (cn 7))), (q_25, .inl (cI, 8, .inl (cn 1))), (q_26, .inl (cI, 8, .inl (cn 110))), (q_22, .inl (cI, 8, .inl (cn 0))), (q_23, .inl (cI, 8, .inl (cn 0))), (q_116, .inl (cA_117, 1, .inr (.inl cnL)))]) [0, 1, 2, 5, 6, 7, 3, 4, 19] (by decide) rfl
  have hKc := hK.sub (tys' := [(cI, .int), (cA_117, .long)]) [0, 3] rfl
  have hFc := va_free (wc := [(q_1, .inr (12, [.ref q_3, .ref q_32, .ref q_61])), (q_3, .inr (4, [.ref q_4, .ref q_10, .ref q_18, .ref q_21, .ref q_27, .ref q_31, .int 0, .int 0, .long 0])), (q_21, .inr (6, [.ref q_24, .ref q_25, .ref q_26, .ref q_22, .ref q_23, .int 0, .int 0])), (q_24, .inl (cI, 8, .inl (cn 7))), (q_25, .inl (cI, 8, .inl (cn 1))), (q_26, .inl (cI, 8, .inl (cn 110))), (q_22, .inl (cI, 8, .inl (cn 0))), (q_23, .inl (cI, 8, .inl (cn 0))), (q_116, .inl (cA_117, 1, .inr (.inl cnL)))]) hD hS hA [0, 1, 2, 5, 6, 7, 3, 4, 19] rfl
  refine vx_calli (vx_runSX (As := [.ref q_1, .int (xs 1), .ref q_116]) (rest := []) ⟨hx, hb, hml, hown, hts⟩ (c_L_isRequested l hl9 dC dI g q_1 q_32 q_61 q_3 q_4 q_10 q_18 q_21 q_24 q_25 q_26 q_22 q_23 q_27 q_31 cI (xs 1) cnL q_116 cA_117 H.size) (vx_cwSW 3 hts gL_law_L_isRequested rfl rfl rfl (by decide +kernel) ⟨Nat.le_of_ble_eq_true rfl, Nat.le_of_ble_eq_true rfl⟩) ⟨wIn_blind, wIn_at hPc hKc hDc hG hS hFc⟩ rfl rfl hl.1 rfl (lv_room (Nat.le_of_ble_eq_true rfl)) dL_law_1554 ⟨Nat.le_of_ble_eq_true rfl, Nat.le_of_ble_eq_true rfl⟩) hS (fun q _ h => hFc q h) hFc (fun q _ h => hFc q h) (fun E9 ce9 q9 u9 t H1 locs ht hvm hx9 hB9 hz1 hk1 hS hce hcv hcl => False.elim hx9) (fun r_120 u t H1 locs ht hvm hw hB hz1 hk1 hS => ?_)
  obtain ⟨v_121, rfl⟩ : ∃ z, z = u := ⟨_, rfl⟩
  obtain ⟨hP1, hK1, hD1⟩ := hB
  rw [ht] at hP1
  obtain ⟨hP, hD⟩ := va_join (wr := [(q_90, .inr (16, [.ref q_97, .ref q_103, .ref q_113, .ref q_92, .ref q_93, .int 0, .int 0, .int 0, .int 105, .int 0, .int 0, .int 0, .int (-1), .int 0, .int 0, .int 0, .int 0, .int 0, .int 0, .int 0, .long 0, .int 0, .int 0])), (q_106, .inr (14, [.int 0, .int 7, .int 0, .int 1, .int 110, .int 0, .int 0])), (q_107, .inr (14, [.int 0, .int 7, .int 0, .int 1, .int 110, .int 0, .int 0])), (q_108, .inr (14, [.int 0, .int 7, .int 0, .int 1, .int 110, .int 0, .int 0])), (q_109, .inr (14, [.int 0, .int 7, .int 0, .int 1, .int 110, .int 0, .int 0])), (q_110, .inr (14, [.int 0, .int 7, .int 0, .int 1, .int 110, .int 0, .int 0])), (q_111, .inr (14, [.int 0, .int 7, .int 0, .int 1, .int 110, .int 0, .int 0])), (q_112, .inr (14, [.int 0, .int 7, .int 0, .int 1, .int 110, .int 0, .int 0])), (q_113, .inr (3, [.int 8, .ref q_114, .int 8])), (q_114, .inl (cO, 10, .inr (.inr (.inr (.inr (va_up (va_up (va_up (va_up (va_up (va_up (va_up (va_up nn 0 (some q_106)) 1 (some q_107)) 2 (some q_108)) 3 (some q_109)) 4 (some q_110)) 5 (some q_111)) 6 (some q_112)) 7 (some q_115))))))), (q_115, .inr (14, [.int 0, .int 7, .int 0, .int 1, .int 110, .int 0, .int 0]))]) (w1 := [(q_116, .inl (cA_117, 1, .inr (.inl v_121)))]) hP hD [0, 1, 2, 5, 6, 7, 3, 4, 19] [8, 9, 10, 11, 12, 13, 14, 15, 16, 17, 18] rfl rfl (by decide) (by decide) hk1 hFc hP1 hD1
  generalize H1 = H at hP hS ⊢
  have hP : va_P (dC, dI) vwCl [(q_90, .inr (16, [.ref q_97, .ref q_103, .ref q_113, .ref q_92, .ref q_93, .int 0, .int 0, .int 0, .int 105, .int 0, .int 0, .int 0, .int (-1), .int 0, .int 0, .int 0, .int 0, .int 0, .int 0, .int 0, .long 0, .int 0, .int 0])), (q_106, .inr (14, [.int 0, .int 7, .int 0, .int 1, .int 110, .int 0, .int 0])), (q_107, .inr (14, [.int 0, .int 7, .int 0, .int 1, .int 110, .int 0, .int 0])), (q_108, .inr (14, [.int 0, .int 7, .int 0, .int 1, .int 110, .int 0, .int 0])), (q_109, .inr (14, [.int 0, .int 7, .int 0, .int 1, .int 110, .int 0, .int 0])), (q_110, .inr (14, [.int 0, .int 7, .int 0, .int 1, .int 110, .int 0, .int 0])), (q_111, .inr (14, [.int 0, .int 7, .int 0, .int 1, .int 110, .int 0, .int 0])), (q_112, .inr (14, [.int 0, .int 7, .int 0, .int 1, .int 110, .int 0, .int 0])), (q_113, .inr (3, [.int 8, .ref q_114, .int 8])), (q_114, .inl (cO, 10, .inr (.inr (.inr (.inr (va_up (va_up (va_up (va_up (va_up (va_up (va_up (va_up nn 0 (some q_106)) 1 (some q_107)) 2 (some q_108)) 3 (some q_109)) 4 (some q_110)) 5 (some q_111)) 6 (some q_112)) 7 (some q_115))))))), (q_115, .inr (14, [.int 0, .int 7, .int 0, .int 1, .int 110, .int 0, .int 0])), (q_116, .inl (cA_117, 1, .inr (.inl v_121)))] H := hP
  have hD : va_D A [(q_90, .inr (16, [.ref q_97, .ref q_103, .ref q_113, .ref q_92, .ref q_93, .int 0, .int 0, .int 0, .int 105, .int 0, .int 0, .int 0, .int (-1), .int 0, .int 0, .int 0, .int 0, .int 0, .int 0, .int 0, .long 0, .int 0, .int 0])), (q_106, .inr (14, [.int 0, .int 7, .int 0, .int 1, .int 110, .int 0, .int 0])), (q_107, .inr (14, [.int 0, .int 7, .int 0, .int 1, .int 110, .int 0, .int 0])), (q_108, .inr (14, [.int 0, .int 7, .int 0, .int 1, .int 110, .int 0, .int 0])), (q_109, .inr (14, [.int 0, .int 7, .int 0, .int 1, .int 110, .int 0, .int 0])), (q_110, .inr (14, [.int 0, .int 7, .int 0, .int 1, .int 110, .int 0, .int 0])), (q_111, .inr (14, [.int 0, .int 7, .int 0, .int 1, .int 110, .int 0, .int 0])), (q_112, .inr (14, [.int 0, .int 7, .int 0, .int 1, .int 110, .int 0, .int 0])), (q_113, .inr (3, [.int 8, .ref q_114, .int 8])), (q_114, .inl (cO, 10, .inr (.inr (.inr (.inr (va_up (va_up (va_up (va_up (va_up (va_up (va_up (va_up nn 0 (some q_106)) 1 (some q_107)) 2 (some q_108)) 3 (some q_109)) 4 (some q_110)) 5 (some q_111)) 6 (some q_112)) 7 (some q_115))))))), (q_115, .inr (14, [.int 0, .int 7, .int 0, .int 1, .int 110, .int 0, .int 0])), (q_116, .inl (cA_117, 1, .inr (.inl v_121)))] := hD
  refine lt_ci (y := sp_X8_isRequested (xs 1)) (hw.1) ?_
  have hv_122 : sp_X8_isRequested (xs 1) = 0 → v_121 0 = 0 := hw.2
  refine W.widen (k := 116) (n := 1860) (Nat.le_of_ble_eq_true rfl) (Nat.le_of_ble_eq_true rfl) ?_
  refine lv_istore (lv' := [(6, .int (sp_X8_isRequested (xs 1))), (5, .int 0), (4, .ref q_118), (3, .ref q_116), (2, .ref q_90), (1, .ref q_1), (0, .ref b)]) hx hb dL_law_1557 hl (by decide) rfl (fun ls hl => ?_)
  refine lv_aload_n hx hb dL_law_1559 rfl (lv_at hl 4 rfl) ?_
  refine lv_aload_n hx hb dL_law_1560 rfl (lv_at hl 6 rfl) ?_
  refine lv_iload hx hb dL_law_1561 (lv_at hl 1 rfl) ?_
  refine lv_iconst (v := 1) hx hb dL_law_1563 (by decide) ?_
  refine lv_iadd hx hb dL_law_1564 ?_
  refine lt_ci (y := 1) (by first | rfl | decide) ?_
  refine va_sld hx hb hX hbl hbA hS (by unfold vp_in; decide) dL_law_1565 ?_
  refine lt_ci (y := (xs 1)) rfl ?_
  have hPc := hP.sub (ws' := [(q_90, .inr (16, [.ref q_97, .ref q_103, .ref q_113, .ref q_92, .ref q_93, .int 0, .int 0, .int 0, .int 105, .int 0, .int 0, .int 0, .int (-1), .int 0, .int 0, .int 0, .int 0, .int 0, .int 0, .int 0, .long 0, .int 0, .int 0])), (q_113, .inr (3, [.int 8, .ref q_114, .int 8])), (q_114, .inl (cO, 10, .inr (.inr (.inr (.inr (va_up (va_up (va_up (va_up (va_up (va_up (va_up (va_up nn 0 (some q_106)) 1 (some q_107)) 2 (some q_108)) 3 (some q_109)) 4 (some q_110)) 5 (some q_111)) 6 (some q_112)) 7 (some q_115))))))), (q_106, .inr (14, [.int 0, .int 7, .int 0, .int 1, .int 110, .int 0, .int 0])), (q_107, .inr (14, [.int 0, .int 7, .int 0, .int 1, .int 110, .int 0, .int 0])), (q_108, .inr (14, [.int 0, .int 7, .int 0, .int 1, .int 110, .int 0, .int 0])), (q_109, .inr (14, [.int 0, .int 7, .int 0, .int 1, .int 110, .int 0, .int 0])), (q_110, .inr (14, [.int 0, .int 7, .int 0, .int 1, .int 110, .int 0, .int 0])), (q_111, .inr (14, [.int 0, .int 7, .int 0, .int 1, .int 110, .int 0, .int 0])), (q_112, .inr (14, [.int 0, .int 7, .int 0, .int 1, .int 110, .int 0, .int 0])), (q_115, .inr (14, [.int 0, .int 7, .int 0, .int 1, .int 110, .int 0, .int 0]))]) [0, 8, 9, 1, 2, 3, 4, 5, 6, 7, 10] rfl
  have hDc := hD.sub (ws' := [(q_90, .inr (16, [.ref q_97, .ref q_103, .ref q_113, .ref q_92, .ref q_93, .int 0, .int 0, .int 0, .int 105, .int 0, .int 0, .int 0, .int (-1), .int 0, .int 0, .int 0, .int 0, .int 0, .int 0, .int 0, .long 0, .int 0, .int 0])), (q_113, .inr (3, [.int 8, .ref q_114, .int 8])), (q_114, .inl (cO, 10, .inr (.inr (.inr (.inr (va_up (va_up (va_up (va_up (va_up (va_up (va_up (va_up nn 0 (some q_106)) 1 (some q_107)) 2 (some q_108)) 3 (some q_109)) 4 (some q_110)) 5 (some q_111)) 6 (some q_112)) 7 (some q_115))))))), (q_106, .inr (14, [.int 0, .int 7, .int 0, .int 1, .int 110, .int 0, .int 0])), (q_107, .inr (14, [.int 0, .int 7, .int 0, .int 1, .int 110, .int 0, .int 0])), (q_108, .inr (14, [.int 0, .int 7, .int 0, .int 1, .int 110, .int 0, .int 0])), (q_109, .inr (14, [.int 0, .int 7, .int 0, .int 1, .int 110, .int 0, .int 0])), (q_110, .inr (14, [.int 0, .int 7, .int 0, .int 1, .int 110, .int 0, .int 0])), (q_111, .inr (14, [.int 0, .int 7, .int 0, .int 1, .int 110, .int 0, .int 0])), (q_112, .inr (14, [.int 0, .int 7, .int 0, .int 1, .int 110, .int 0, .int 0])), (q_115, .inr (14, [.int 0, .int 7, .int 0, .int 1, .int 110, .int 0, .int 0]))]) [0, 8, 9, 1, 2, 3, 4, 5, 6, 7, 10] (by decide) rfl
  have hKc := hK.sub (tys' := [(cI, .int), (cZ, .boolean), (cO, .object "java/lang/Object")]) [0, 1, 2] rfl
  have hFc := va_free (wc := [(q_90, .inr (16, [.ref q_97, .ref q_103, .ref q_113, .ref q_92, .ref q_93, .int 0, .int 0, .int 0, .int 105, .int 0, .int 0, .int 0, .int (-1), .int 0, .int 0, .int 0, .int 0, .int 0, .int 0, .int 0, .long 0, .int 0, .int 0])), (q_113, .inr (3, [.int 8, .ref q_114, .int 8])), (q_114, .inl (cO, 10, .inr (.inr (.inr (.inr (va_up (va_up (va_up (va_up (va_up (va_up (va_up (va_up nn 0 (some q_106)) 1 (some q_107)) 2 (some q_108)) 3 (some q_109)) 4 (some q_110)) 5 (some q_111)) 6 (some q_112)) 7 (some q_115))))))), (q_106, .inr (14, [.int 0, .int 7, .int 0, .int 1, .int 110, .int 0, .int 0])), (q_107, .inr (14, [.int 0, .int 7, .int 0, .int 1, .int 110, .int 0, .int 0])), (q_108, .inr (14, [.int 0, .int 7, .int 0, .int 1, .int 110, .int 0, .int 0])), (q_109, .inr (14, [.int 0, .int 7, .int 0, .int 1, .int 110, .int 0, .int 0])), (q_110, .inr (14, [.int 0, .int 7, .int 0, .int 1, .int 110, .int 0, .int 0])), (q_111, .inr (14, [.int 0, .int 7, .int 0, .int 1, .int 110, .int 0, .int 0])), (q_112, .inr (14, [.int 0, .int 7, .int 0, .int 1, .int 110, .int 0, .int 0])), (q_115, .inr (14, [.int 0, .int 7, .int 0, .int 1, .int 110, .int 0, .int 0]))]) hD hS hA [0, 8, 9, 1, 2, 3, 4, 5, 6, 7, 10] rfl
  refine va_calli (va_runV (As := [.int (xs 1)]) (rest := []) ⟨hx, hb, hml, hown, hts⟩ (c_X12_isRequested l dC dI g q_90 q_92 q_93 q_97 q_103 q_113 q_114 q_106 q_107 q_108 q_109 q_110 q_111 q_112 q_115 cI cZ cO 0 (xs 1) H.size) (cwV 1 hts gL_law_X12_isRequested rfl rfl rfl (by decide +kernel) ⟨Nat.le_of_ble_eq_true rfl, Nat.le_of_ble_eq_true rfl⟩) ⟨wIn_blind, va_recv hK hP (ci := 16) (q0 := 0) rfl rfl, wIn_at hPc hKc hDc hG hS hFc⟩ rfl rfl hl.1 rfl (lv_room (Nat.le_of_ble_eq_true rfl)) dL_law_1566 ⟨Nat.le_of_ble_eq_true rfl, Nat.le_of_ble_eq_true rfl⟩) hS (fun q _ h => hFc q h) hFc (fun r_123 u t H1 locs ht hvm hw hB hz1 hk1 hS => ?_)
  obtain ⟨v_124, rfl⟩ : ∃ z, z = u := ⟨_, rfl⟩
  have hw : v_124 = mp_X12_isRequested (xs 1) ∧ (mp_X12_isRequested (xs 1) = 0 → r_123 = 0) := hw
  obtain ⟨hm9, hv_125⟩ := hw
  subst hm9
  obtain ⟨hP1, hK1, hD1⟩ := hB
  rw [ht] at hP1
  obtain ⟨hP, hD⟩ := va_join (wr := [(q_116, .inl (cA_117, 1, .inr (.inl v_121)))]) (w1 := [(q_90, .inr (16, [.ref q_97, .ref q_103, .ref q_113, .ref q_92, .ref q_93, .int 0, .int 0, .int 0, .int 105, .int 0, .int 0, .int 0, .int (-1), .int 0, .int 0, .int 0, .int 0, .int 0, .int 0, .int 0, .long 0, .int 0, .int (mp_X12_isRequested (xs 1))]))]) hP hD [0, 8, 9, 1, 2, 3, 4, 5, 6, 7, 10] [11] rfl rfl (by decide) (by decide) hk1 hFc hP1 hD1
  generalize H1 = H at hP hS ⊢
  have hP : va_P (dC, dI) vwCl [(q_116, .inl (cA_117, 1, .inr (.inl v_121))), (q_90, .inr (16, [.ref q_97, .ref q_103, .ref q_113, .ref q_92, .ref q_93, .int 0, .int 0, .int 0, .int 105, .int 0, .int 0, .int 0, .int (-1), .int 0, .int 0, .int 0, .int 0, .int 0, .int 0, .int 0, .long 0, .int 0, .int (mp_X12_isRequested (xs 1))]))] H := hP
  have hD : va_D A [(q_116, .inl (cA_117, 1, .inr (.inl v_121))), (q_90, .inr (16, [.ref q_97, .ref q_103, .ref q_113, .ref q_92, .ref q_93, .int 0, .int 0, .int 0, .int 105, .int 0, .int 0, .int 0, .int (-1), .int 0, .int 0, .int 0, .int 0, .int 0, .int 0, .int 0, .long 0, .int 0, .int (mp_X12_isRequested (xs 1))]))] := hD
  refine lv_istore (lv' := [(7, .int r_123), (6, .int (sp_X8_isRequested (xs 1))), (5, .int 0), (4, .ref q_118), (3, .ref q_116), (2, .ref q_90), (1, .ref q_1), (0, .ref b)]) hx hb dL_law_1569 hl (by decide) rfl (fun ls hl => ?_)
  refine lv_aload_n hx hb dL_law_1571 rfl (lv_at hl 5 rfl) ?_
  have hPc := hP.sub (ws' := [(q_90, .inr (16, [.ref q_97, .ref q_103, .ref q_113, .ref q_92, .ref q_93, .int 0, .int 0, .int 0, .int 105, .int 0, .int 0, .int 0, .int (-1), .int 0, .int 0, .int 0, .int 0, .int 0, .int 0, .int 0, .long 0, .int 0, .int (mp_X12_isRequested (xs 1))]))]) [1] rfl
  have hDc := hD.sub (ws' := [(q_90, .inr (16, [.ref q_97, .ref q_103, .ref q_113, .ref q_92, .ref q_93, .int 0, .int 0, .int 0, .int 105, .int 0, .int 0, .int 0, .int (-1), .int 0, .int 0, .int 0, .int 0, .int 0, .int 0, .int 0, .long 0, .int 0, .int (mp_X12_isRequested (xs 1))]))]) [1] (by decide) rfl
  have hKc := hK.sub (tys' := [(cI, .int), (cZ, .boolean), (cO, .object "java/lang/Object")]) [0, 1, 2] rfl
  have hFc := va_free (wc := [(q_90, .inr (16, [.ref q_97, .ref q_103, .ref q_113, .ref q_92, .ref q_93, .int 0, .int 0, .int 0, .int 105, .int 0, .int 0, .int 0, .int (-1), .int 0, .int 0, .int 0, .int 0, .int 0, .int 0, .int 0, .long 0, .int 0, .int (mp_X12_isRequested (xs 1))]))]) hD hS hA [1] rfl
  refine va_calli (va_runV (As := []) (rest := []) ⟨hx, hb, hml, hown, hts⟩ (c_X12_thrown l dC dI g q_90 (.ref q_97) (.ref q_103) (.ref q_113) (.ref q_92) (.ref q_93) (.int 0) (.int 0) (.int 0) (.int 105) (.int 0) (.int 0) (.int 0) (.int (-1)) (.int 0) (.int 0) (.int 0) (.int 0) (.int 0) (.int 0) (.int 0) (.long 0) (.int 0) cI cZ cO (mp_X12_isRequested (xs 1)) H.size) (cwV 0 hts gL_law_X12_thrown rfl rfl rfl (by decide +kernel) ⟨Nat.le_of_ble_eq_true rfl, Nat.le_of_ble_eq_true rfl⟩) ⟨wIn_blind, va_recv hK hP (ci := 16) (q0 := 1) rfl rfl, wIn_at hPc hKc hDc hG hS hFc⟩ rfl rfl hl.1 rfl (lv_room (Nat.le_of_ble_eq_true rfl)) dL_law_1572 ⟨Nat.le_of_ble_eq_true rfl, Nat.le_of_ble_eq_true rfl⟩) hS (fun q _ h => hFc q h) hFc (fun r_126 u t H1 locs ht hvm hw hB hz1 hk1 hS => ?_)
  obtain ⟨hP1, hK1, hD1⟩ := hB
  rw [ht] at hP1
  obtain ⟨hP, hD⟩ := va_join (wr := [(q_116, .inl (cA_117, 1, .inr (.inl v_121)))]) (w1 := [(q_90, .inr (16, [.ref q_97, .ref q_103, .ref q_113, .ref q_92, .ref q_93, .int 0, .int 0, .int 0, .int 105, .int 0, .int 0, .int 0, .int (-1), .int 0, .int 0, .int 0, .int 0, .int 0, .int 0, .int 0, .long 0, .int 0, .int (mp_X12_isRequested (xs 1))]))]) hP hD [1] [0] rfl rfl (by decide) (by decide) hk1 hFc hP1 hD1
  generalize H1 = H at hP hS ⊢
  have hP : va_P (dC, dI) vwCl [(q_116, .inl (cA_117, 1, .inr (.inl v_121))), (q_90, .inr (16, [.ref q_97, .ref q_103, .ref q_113, .ref q_92, .ref q_93, .int 0, .int 0, .int 0, .int 105, .int 0, .int 0, .int 0, .int (-1), .int 0, .int 0, .int 0, .int 0, .int 0, .int 0, .int 0, .long 0, .int 0, .int (mp_X12_isRequested (xs 1))]))] H := hP
  have hD : va_D A [(q_116, .inl (cA_117, 1, .inr (.inl v_121))), (q_90, .inr (16, [.ref q_97, .ref q_103, .ref q_113, .ref q_92, .ref q_93, .int 0, .int 0, .int 0, .int 105, .int 0, .int 0, .int 0, .int (-1), .int 0, .int 0, .int 0, .int 0, .int 0, .int 0, .int 0, .long 0, .int 0, .int (mp_X12_isRequested (xs 1))]))] := hD
  refine lt_ci (y := (mp_X12_isRequested (xs 1))) hw ?_
  refine lt_ci (y := sp_X8_isRequested (xs 1)) (sm_X12_isRequested _) ?_
  refine lv_iload hx hb dL_law_1575 (lv_at hl 1 rfl) ?_
  refine lv_icmp_eq (tgt := 1582) hx hb dL_law_1577 (by decide) (fun _ => ?_) (fun c => absurd (rfl) c)
  refine lv_iload hx hb dL_law_1582 (lv_at hl 1 rfl) ?_
  refine lv_if_ne (tgt := 1606) hx hb dL_law_1584 (by decide) (fun c_1584 => ?_) (fun c_1584 => ?_)
  · refine lv_goto (tgt := 1976) hx hb dL_law_1606 (by decide) ?_
    refine lv_iinc (v := 6) (lv' := [(5, .int 6), (7, .int r_123), (6, .int (sp_X8_isRequested (xs 1))), (4, .ref q_118), (3, .ref q_116), (2, .ref q_90), (1, .ref q_1), (0, .ref b)]) hx hb dL_law_1976 hl (k := 2) rfl (by first | rfl | decide) (by decide) rfl (fun ls hl => ?_)
    refine lv_goto (tgt := 28) hx hb dL_law_1979 (by decide) ?_
    refine lv_iload hx hb dL_law_28 (lv_at hl 0 rfl) ?_
    refine lv_aload_n hx hb dL_law_30 rfl (lv_at hl 7 rfl) ?_
    refine va_slen hx hb hX hbl hbA hS dL_law_31 ?_
    refine lt_ci (y := 6) rfl ?_
    refine lv_bipush (v := 6) hx hb dL_law_32 (by decide) ?_
    refine lv_isub hx hb dL_law_34 ?_
    refine lt_ci (y := 0) (by first | rfl | decide) ?_
    refine lv_icmp_gt (tgt := 1982) hx hb dL_law_35 (by decide) (fun _ => ?_) (fun c => absurd (by decide) c)
    refine lv_iconst (v := 1) hx hb dL_law_1982 (by decide) ?_
    refine W.widen (k := 735603) (n := 6895256) (Nat.le_of_ble_eq_true rfl) (Nat.le_of_ble_eq_true rfl) ?_
    refine va_forget (fun q hq => by have h9 := hS.2.2 q hq; rw [hAe] at h9; exact h9) ?_
    exact W.base (lw_ret (Drawn.sameBut.refl s.drawn lw_cs) hx hb hr hlocks dL_law_1983)
  · refine lv_aload_n hx hb dL_law_1587 rfl (lv_at hl 4 rfl) ?_
    refine lv_iconst (v := 0) hx hb dL_law_1588 (by decide) ?_
    refine va_lald (D := (dC, dI)) hx hb hK hP 0 3 rfl rfl (by unfold vp_in; decide) dL_law_1589 ?_
    refine lt_cl (y := 0) (show _ = (0 : Int64) from hv_122 c_1584) ?_
    refine lv_iload hx hb dL_law_1590 (lv_at hl 0 rfl) ?_
    refine lt_ci (y := 0) (hv_125 ((sm_X12_isRequested _).trans c_1584)) ?_
    refine lv_if_eq (tgt := 1599) hx hb dL_law_1592 (by decide) (fun _ => ?_) (fun c => absurd (by decide) c)
    refine lv_lconst (v := 0) hx hb dL_law_1599 rfl ?_
    refine W.lcmp hx hb dL_law_1600 ?_
    refine lt_ci (y := 0) (by first | rfl | decide) ?_
    refine lv_if_eq (tgt := 1606) hx hb dL_law_1601 (by decide) (fun _ => ?_) (fun c => absurd (by decide) c)
    refine lv_goto (tgt := 1976) hx hb dL_law_1606 (by decide) ?_
    refine lv_iinc (v := 6) (lv' := [(5, .int 6), (7, .int r_123), (6, .int (sp_X8_isRequested (xs 1))), (4, .ref q_118), (3, .ref q_116), (2, .ref q_90), (1, .ref q_1), (0, .ref b)]) hx hb dL_law_1976 hl (k := 2) rfl (by first | rfl | decide) (by decide) rfl (fun ls hl => ?_)
    refine lv_goto (tgt := 28) hx hb dL_law_1979 (by decide) ?_
    refine lv_iload hx hb dL_law_28 (lv_at hl 0 rfl) ?_
    refine lv_aload_n hx hb dL_law_30 rfl (lv_at hl 7 rfl) ?_
    refine va_slen hx hb hX hbl hbA hS dL_law_31 ?_
    refine lt_ci (y := 6) rfl ?_
    refine lv_bipush (v := 6) hx hb dL_law_32 (by decide) ?_
    refine lv_isub hx hb dL_law_34 ?_
    refine lt_ci (y := 0) (by first | rfl | decide) ?_
    refine lv_icmp_gt (tgt := 1982) hx hb dL_law_35 (by decide) (fun _ => ?_) (fun c => absurd (by decide) c)
    refine lv_iconst (v := 1) hx hb dL_law_1982 (by decide) ?_
    refine W.widen (k := 735603) (n := 6895256) (Nat.le_of_ble_eq_true rfl) (Nat.le_of_ble_eq_true rfl) ?_
    refine va_forget (fun q hq => by have h9 := hS.2.2 q hq; rw [hAe] at h9; exact h9) ?_
    exact W.base (lw_ret (Drawn.sameBut.refl s.drawn lw_cs) hx hb hr hlocks dL_law_1983)
set_option maxHeartbeats 8000000 in
set_option maxRecDepth 100000 in
theorem c_L_law_23 {p : Program} {e : Env} {s : State} {m : MethodId} {below : List Frame} {meth : Method} {c : Code} (l : Launch) (hl9 : l.stackTraces = false) (dC : Nat → ClassId) (dI : Nat → Nat → Nat) (g : Nat × Nat × Nat) (b : Nat) (xs : Nat → Int32) (cI cZ cO : ClassId) (hx : p.tables.exec = Jvm.exec) (hb : c.code = cL_law) (hr : meth.sig.returnType = ret) (hml : c.maxLocals = 9) (hown : s.vm.findClass RL = some m.cls) (hts : ∀ w ∈ wsL_law, w.before #[Value.ref b] s = true) (hX : va_X b 6 xs s s.heap) (hbl : b < s.heap.size) (hlocks : meth.locks = false) (hG : gx g (fun q => s.heap.size ≤ q) s s.heap) (hk : (xs 0 &&& 63) = 23) (cA_117 : ClassId) (cA_119 : ClassId) (q_1 : Nat) (q_3 : Nat) (q_4 : Nat) (q_10 : Nat) (q_18 : Nat) (q_21 : Nat) (q_27 : Nat) (q_28 : Nat) (q_31 : Nat) (q_32 : Nat) (q_61 : Nat) (q_90 : Nat) (q_92 : Nat) (q_93 : Nat) (q_97 : Nat) (q_103 : Nat) (q_113 : Nat) (q_116 : Nat) (q_118 : Nat) (H : Heap) (locs : List Loc) (ls : Array Slot) (hK : va_K (dC, dI) vwCl [(cI, .int), (cZ, .boolean), (cO, .object "java/lang/Object"), (cA_117, .long), (cA_119, .double)] s) (hP : va_P (dC, dI) vwCl [(q_1, .inr (12, [.ref q_3, .ref q_32, .ref q_61])), (q_3, .inr (4, [.ref q_4, .ref q_10, .ref q_18, .ref q_21, .ref q_27, .ref q_31, .int 0, .int 0, .long 0])), (q_27, .inr (8, [.ref q_28, .int 105, .int 0, .int (-1), .int 0, .int 0, .int 0])), (q_90, .inr (16, [.ref q_97, .ref q_103, .ref q_113, .ref q_92, .ref q_93, .int 0, .int 0, .int 0, .int 105, .int 0, .int 0, .int 0, .int (-1), .int 0, .int 0, .int 0, .int 0, .int 0, .int 0, .int 0, .long 0, .int 0, .int 0]))] H) (hD : va_D (fun q => s.heap.size ≤ q) [(q_1, .inr (12, [.ref q_3, .ref q_32, .ref q_61])), (q_3, .inr (4, [.ref q_4, .ref q_10, .ref q_18, .ref q_21, .ref q_27, .ref q_31, .int 0, .int 0, .long 0])), (q_27, .inr (8, [.ref q_28, .int 105, .int 0, .int (-1), .int 0, .int 0, .int 0])), (q_90, .inr (16, [.ref q_97, .ref q_103, .ref q_113, .ref q_92, .ref q_93, .int 0, .int 0, .int 0, .int 105, .int 0, .int 0, .int 0, .int (-1), .int 0, .int 0, .int 0, .int 0, .int 0, .int 0, .int 0, .long 0, .int 0, .int 0]))]) (hS : va_S (fun q => s.heap.size ≤ q) s.heap H locs) (hl : lv_has ls 9 [(5, .int 0), (4, .ref q_118), (3, .ref q_116), (2, .ref q_90), (1, .ref q_1), (0, .ref b)]) : W p l e room_1 s m #[Value.ref b] below meth c H locs 115 1854 (lw_Z below #[Value.ref b] s) (F0 m 28 ls []) := by
  have hN := hG.1
  obtain ⟨A, hAe⟩ : ∃ A : Nat → Prop, A = (fun q => s.heap.size ≤ q) := ⟨_, rfl⟩
  rw [← hAe] at hG hD hS
  have hA : ∀ q : Nat, s.heap.size ≤ q → A q := fun q h => by rw [hAe]; exact h
  have hbA : ¬ A b := by rw [hAe]; exact Nat.not_le.mpr hbl
  refine lv_iload hx hb dL_law_28 (lv_at hl 0 rfl) ?_
  refine lv_aload_n hx hb dL_law_30 rfl (lv_at hl 5 rfl) ?_
  refine va_slen hx hb hX hbl hbA hS dL_law_31 ?_
  refine lt_ci (y := 6) rfl ?_
  refine lv_bipush (v := 6) hx hb dL_law_32 (by decide) ?_
  refine lv_isub hx hb dL_law_34 ?_
  refine lt_ci (y := 0) (by first | rfl | decide) ?_
  refine lv_icmp_gt (tgt := 1982) hx hb dL_law_35 (by decide) (fun c => absurd c (by decide)) (fun _ => ?_)
  refine lv_aload_n hx hb dL_law_38 rfl (lv_at hl 5 rfl) ?_
  refine lv_iload hx hb dL_law_39 (lv_at hl 0 rfl) ?_
  refine va_sld hx hb hX hbl hbA hS (by unfold vp_in; decide) dL_law_41 ?_
  refine lt_ci (y := (xs 0)) rfl ?_
  refine lv_bipush (v := 63) hx hb dL_law_42 (by decide) ?_
  refine lv_iand hx hb dL_law_44 ?_
  refine lt_ci (y := 23) hk ?_
  refine lv_tableIn (off := 1564) (tgt := 1609) hx hb dL_law_45 (by decide) (by decide) (by decide) (by decide) ?_
  refine lv_aload_n hx hb dL_law_1609 rfl (lv_at hl 4 rfl) ?_
  have hPc := hP.sub (ws' := [(q_1, .inr (12, [.ref q_3, .ref q_32, .ref q_61])), (q_3, .inr (4, [.ref q_4, .ref q_10, .ref q_18, .ref q_21, .ref q_27, .ref q_31, .int 0, .int 0, .long 0])), (q_27, .inr (8, [.ref q_28, .int 105, .int 0, .int (-1), .int 0, .int 0, .int 0]))]) [0, 1, 2] rfl
  have hDc := hD.sub (ws' := [(q_1, .inr (12, [.ref q_3, .ref q_32, .ref q_61])), (q_3, .inr (4, [.ref q_4, .ref q_10, .ref q_18, .ref q_21, .ref q_27, .ref q_31, .int 0, .int 0, .long 0])), (q_27, .inr (8, [.ref q_28, .int 105, .int 0, .int (-1), .int 0, .int 0, .int 0]))]) [0, 1, 2] (by decide) rfl
  have hKc := hK.sub (tys' := [(cI, .int)]) [0] rfl
  have hFc := va_free (wc := [(q_1, .inr (12, [.ref q_3, .ref q_32, .ref q_61])), (q_3, .inr (4, [.ref q_4, .ref q_10, .ref q_18, .ref q_21, .ref q_27, .ref q_31, .int 0, .int 0, .long 0])), (q_27, .inr (8, [.ref q_28, .int 105, .int 0, .int (-1), .int 0, .int 0, .int 0]))]) hD hS hA [0, 1, 2] rfl
  refine va_calli (va_runV (As := []) (rest := []) ⟨hx, hb, hml, hown, hts⟩ (c_X8_processor l dC dI g q_1 q_32 q_61 q_3 q_4 q_10 q_18 q_21 q_28 q_27 q_31 cI H.size) (cwV 0 hts gL_law_X8_processor rfl rfl rfl (by decide +kernel) ⟨Nat.le_of_ble_eq_true rfl, Nat.le_of_ble_eq_true rfl⟩) ⟨wIn_blind, va_recv hK hP (ci := 12) (q0 := 0) rfl rfl, wIn_at hPc hKc hDc hG hS hFc⟩ rfl rfl hl.1 rfl (lv_room (Nat.le_of_ble_eq_true rfl)) dL_law_1610 ⟨Nat.le_of_ble_eq_true rfl, Nat.le_of_ble_eq_true rfl⟩) hS (fun q _ h => hFc q h) hFc (fun r_120 u t H1 locs ht hvm hw hB hz1 hk1 hS => ?_)
  obtain ⟨hP1, hK1, hD1⟩ := hB
  rw [ht] at hP1
  obtain ⟨hP, hD⟩ := va_join (wr := [(q_90, .inr (16, [.ref q_97, .ref q_103, .ref q_113, .ref q_92, .ref q_93, .int 0, .int 0, .int 0, .int 105, .int 0, .int 0, .int 0, .int (-1), .int 0, .int 0, .int 0, .int 0, .int 0, .int 0, .int 0, .long 0, .int 0, .int 0]))]) (w1 := []) hP hD [0, 1, 2] [3] rfl rfl (by decide) (by decide) hk1 hFc hP1 hD1
  generalize H1 = H at hP hS ⊢
  have hP : va_P (dC, dI) vwCl [(q_90, .inr (16, [.ref q_97, .ref q_103, .ref q_113, .ref q_92, .ref q_93, .int 0, .int 0, .int 0, .int 105, .int 0, .int 0, .int 0, .int (-1), .int 0, .int 0, .int 0, .int 0, .int 0, .int 0, .int 0, .long 0, .int 0, .int 0]))] H := hP
  have hD : va_D A [(q_90, .inr (16, [.ref q_97, .ref q_103, .ref q_113, .ref q_92, .ref q_93, .int 0, .int 0, .int 0, .int 105, .int 0, .int 0, .int 0, .int (-1), .int 0, .int 0, .int 0, .int 0, .int 0, .int 0, .int 0, .long 0, .int 0, .int 0]))] := hD
  refine lt_ci (y := 105) hw ?_
  refine lv_aload_n hx hb dL_law_1613 rfl (lv_at hl 3 rfl) ?_
  have hPc := hP.sub (ws' := [(q_90, .inr (16, [.ref q_97, .ref q_103, .ref q_113, .ref q_92, .ref q_93, .int 0, .int 0, .int 0, .int 105, .int 0, .int 0, .int 0, .int (-1), .int 0, .int 0, .int 0, .int 0, .int 0, .int 0, .int 0, .long 0, .int 0, .int 0]))]) [0] rfl
  have hDc := hD.sub (ws' := [(q_90, .inr (16, [.ref q_97, .ref q_103, .ref q_113, .ref q_92, .ref q_93, .int 0, .int 0, .int 0, .int 105, .int 0, .int 0, .int 0, .int (-1), .int 0, .int 0, .int 0, .int 0, .int 0, .int 0, .int 0, .long 0, .int 0, .int 0]))]) [0] (by decide) rfl
  have hKc := hK.sub (tys' := [(cI, .int), (cZ, .boolean), (cO, .object "java/lang/Object")]) [0, 1, 2] rfl
  have hFc := va_free (wc := [(q_90, .inr (16, [.ref q_97, .ref q_103, .ref q_113, .ref q_92, .ref q_93, .int 0, .int 0, .int 0, .int 105, .int 0, .int 0, .int 0, .int (-1), .int 0, .int 0, .int 0, .int 0, .int 0, .int 0, .int 0, .long 0, .int 0, .int 0]))]) hD hS hA [0] rfl
  refine va_calli (va_runV (As := []) (rest := [.int 105]) ⟨hx, hb, hml, hown, hts⟩ (c_X12_processor l dC dI g q_90 q_92 q_93 q_97 q_103 q_113 cI cZ cO 0 H.size) (cwV 0 hts gL_law_X12_processor rfl rfl rfl (by decide +kernel) ⟨Nat.le_of_ble_eq_true rfl, Nat.le_of_ble_eq_true rfl⟩) ⟨wIn_blind, va_recv hK hP (ci := 16) (q0 := 0) rfl rfl, wIn_at hPc hKc hDc hG hS hFc⟩ rfl rfl hl.1 rfl (lv_room (Nat.le_of_ble_eq_true rfl)) dL_law_1614 ⟨Nat.le_of_ble_eq_true rfl, Nat.le_of_ble_eq_true rfl⟩) hS (fun q _ h => hFc q h) hFc (fun r_121 u t H1 locs ht hvm hw hB hz1 hk1 hS => ?_)
  obtain ⟨v_122, rfl⟩ : ∃ z, z = u := ⟨_, rfl⟩
  have hw : v_122 = mp_X12_processor ∧ (mp_X12_processor = 0 → r_121 = 105) := hw
  obtain ⟨hm9, hv_123⟩ := hw
  have hm9 := hm9.trans ((kc_mp_X12_processor))
  subst hm9
  obtain ⟨hP1, hK1, hD1⟩ := hB
  rw [ht] at hP1
  obtain ⟨hP, hD⟩ := va_join (wr := []) (w1 := [(q_90, .inr (16, [.ref q_97, .ref q_103, .ref q_113, .ref q_92, .ref q_93, .int 0, .int 0, .int 0, .int 105, .int 0, .int 0, .int 0, .int (-1), .int 0, .int 0, .int 0, .int 0, .int 0, .int 0, .int 0, .long 0, .int 0, .int 0]))]) hP hD [0] [] rfl rfl (by decide) (by decide) hk1 hFc hP1 hD1
  generalize H1 = H at hP hS ⊢
  have hP : va_P (dC, dI) vwCl [(q_90, .inr (16, [.ref q_97, .ref q_103, .ref q_113, .ref q_92, .ref q_93, .int 0, .int 0, .int 0, .int 105, .int 0, .int 0, .int 0, .int (-1), .int 0, .int 0, .int 0, .int 0, .int 0, .int 0, .int 0, .long 0, .int 0, .int 0]))] H := hP
  have hD : va_D A [(q_90, .inr (16, [.ref q_97, .ref q_103, .ref q_113, .ref q_92, .ref q_93, .int 0, .int 0, .int 0, .int 105, .int 0, .int 0, .int 0, .int (-1), .int 0, .int 0, .int 0, .int 0, .int 0, .int 0, .int 0, .long 0, .int 0, .int 0]))] := hD
  refine lt_ci (y := 105) (hv_123 (kc_mp_X12_processor)) ?_
  refine lv_icmp_eq (tgt := 1976) hx hb dL_law_1617 (by decide) (fun _ => ?_) (fun c => absurd (by decide) c)
  refine lv_iinc (v := 6) (lv' := [(5, .int 6), (4, .ref q_118), (3, .ref q_116), (2, .ref q_90), (1, .ref q_1), (0, .ref b)]) hx hb dL_law_1976 hl (k := 0) rfl (by first | rfl | decide) (by decide) rfl (fun ls hl => ?_)
  refine lv_goto (tgt := 28) hx hb dL_law_1979 (by decide) ?_
  refine lv_iload hx hb dL_law_28 (lv_at hl 0 rfl) ?_
  refine lv_aload_n hx hb dL_law_30 rfl (lv_at hl 5 rfl) ?_
  refine va_slen hx hb hX hbl hbA hS dL_law_31 ?_
  refine lt_ci (y := 6) rfl ?_
  refine lv_bipush (v := 6) hx hb dL_law_32 (by decide) ?_
  refine lv_isub hx hb dL_law_34 ?_
  refine lt_ci (y := 0) (by first | rfl | decide) ?_
  refine lv_icmp_gt (tgt := 1982) hx hb dL_law_35 (by decide) (fun _ => ?_) (fun c => absurd (by decide) c)
  refine lv_iconst (v := 1) hx hb dL_law_1982 (by decide) ?_
  refine W.widen (k := 735603) (n := 6895256) (Nat.le_of_ble_eq_true rfl) (Nat.le_of_ble_eq_true rfl) ?_
  refine va_forget (fun q hq => by have h9 := hS.2.2 q hq; rw [hAe] at h9; exact h9) ?_
  exact W.base (lw_ret (Drawn.sameBut.refl s.drawn lw_cs) hx hb hr hlocks dL_law_1983)
set_option maxHeartbeats 8000000 in
set_option maxRecDepth 100000 in
theorem c_L_law_24 {p : Program} {e : Env} {s : State} {m : MethodId} {below : List Frame} {meth : Method} {c : Code} (l : Launch) (hl9 : l.stackTraces = false) (dC : Nat → ClassId) (dI : Nat → Nat → Nat) (g : Nat × Nat × Nat) (b : Nat) (xs : Nat → Int32) (cI cZ cO : ClassId) (hx : p.tables.exec = Jvm.exec) (hb : c.code = cL_law) (hr : meth.sig.returnType = ret) (hml : c.maxLocals = 9) (hown : s.vm.findClass RL = some m.cls) (hts : ∀ w ∈ wsL_law, w.before #[Value.ref b] s = true) (hX : va_X b 6 xs s s.heap) (hbl : b < s.heap.size) (hlocks : meth.locks = false) (hG : gx g (fun q => s.heap.size ≤ q) s s.heap) (hk : (xs 0 &&& 63) = 24) (cA_117 : ClassId) (cA_119 : ClassId) (q_1 : Nat) (q_3 : Nat) (q_4 : Nat) (q_10 : Nat) (q_18 : Nat) (q_21 : Nat) (q_27 : Nat) (q_28 : Nat) (q_29 : Nat) (q_30 : Nat) (q_31 : Nat) (q_32 : Nat) (q_61 : Nat) (q_90 : Nat) (q_92 : Nat) (q_93 : Nat) (q_97 : Nat) (q_103 : Nat) (q_113 : Nat) (q_116 : Nat) (q_118 : Nat) (H : Heap) (locs : List Loc) (ls : Array Slot) (hK : va_K (dC, dI) vwCl [(cI, .int), (cZ, .boolean), (cO, .object "java/lang/Object"), (cA_117, .long), (cA_119, .double)] s) (hP : va_P (dC, dI) vwCl [(q_1, .inr (12, [.ref q_3, .ref q_32, .ref q_61])), (q_3, .inr (4, [.ref q_4, .ref q_10, .ref q_18, .ref q_21, .ref q_27, .ref q_31, .int 0, .int 0, .long 0])), (q_27, .inr (8, [.ref q_28, .int 105, .int 0, .int (-1), .int 0, .int 0, .int 0])), (q_28, .inr (9, [.ref q_29, .ref q_30, .int 0])), (q_90, .inr (16, [.ref q_97, .ref q_103, .ref q_113, .ref q_92, .ref q_93, .int 0, .int 0, .int 0, .int 105, .int 0, .int 0, .int 0, .int (-1), .int 0, .int 0, .int 0, .int 0, .int 0, .int 0, .int 0, .long 0, .int 0, .int 0])), (q_92, .inr (3, [.int 0, .ref g.1, .int 0]))] H) (hD : va_D (fun q => s.heap.size ≤ q) [(q_1, .inr (12, [.ref q_3, .ref q_32, .ref q_61])), (q_3, .inr (4, [.ref q_4, .ref q_10, .ref q_18, .ref q_21, .ref q_27, .ref q_31, .int 0, .int 0, .long 0])), (q_27, .inr (8, [.ref q_28, .int 105, .int 0, .int (-1), .int 0, .int 0, .int 0])), (q_28, .inr (9, [.ref q_29, .ref q_30, .int 0])), (q_90, .inr (16, [.ref q_97, .ref q_103, .ref q_113, .ref q_92, .ref q_93, .int 0, .int 0, .int 0, .int 105, .int 0, .int 0, .int 0, .int (-1), .int 0, .int 0, .int 0, .int 0, .int 0, .int 0, .int 0, .long 0, .int 0, .int 0])), (q_92, .inr (3, [.int 0, .ref g.1, .int 0]))]) (hS : va_S (fun q => s.heap.size ≤ q) s.heap H locs) (hl : lv_has ls 9 [(5, .int 0), (4, .ref q_118), (3, .ref q_116), (2, .ref q_90), (1, .ref q_1), (0, .ref b)]) : W p l e room_1 s m #[Value.ref b] below meth c H locs 115 1854 (lw_Z below #[Value.ref b] s) (F0 m 28 ls []) := by
  have hN := hG.1
  obtain ⟨A, hAe⟩ : ∃ A : Nat → Prop, A = (fun q => s.heap.size ≤ q) := ⟨_, rfl⟩
  rw [← hAe] at hG hD hS
  have hA : ∀ q : Nat, s.heap.size ≤ q → A q := fun q h => by rw [hAe]; exact h
  have hbA : ¬ A b := by rw [hAe]; exact Nat.not_le.mpr hbl
  refine lv_iload hx hb dL_law_28 (lv_at hl 0 rfl) ?_
  refine lv_aload_n hx hb dL_law_30 rfl (lv_at hl 5 rfl) ?_
  refine va_slen hx hb hX hbl hbA hS dL_law_31 ?_
  refine lt_ci (y := 6) rfl ?_
  refine lv_bipush (v := 6) hx hb dL_law_32 (by decide) ?_
  refine lv_isub hx hb dL_law_34 ?_
  refine lt_ci (y := 0) (by first | rfl | decide) ?_
  refine lv_icmp_gt (tgt := 1982) hx hb dL_law_35 (by decide) (fun c => absurd c (by decide)) (fun _ => ?_)
  refine lv_aload_n hx hb dL_law_38 rfl (lv_at hl 5 rfl) ?_
  refine lv_iload hx hb dL_law_39 (lv_at hl 0 rfl) ?_
  refine va_sld hx hb hX hbl hbA hS (by unfold vp_in; decide) dL_law_41 ?_
  refine lt_ci (y := (xs 0)) rfl ?_
  refine lv_bipush (v := 63) hx hb dL_law_42 (by decide) ?_
  refine lv_iand hx hb dL_law_44 ?_
  refine lt_ci (y := 24) hk ?_
  refine lv_tableIn (off := 1577) (tgt := 1622) hx hb dL_law_45 (by decide) (by decide) (by decide) (by decide) ?_
  refine lv_aload_n hx hb dL_law_1622 rfl (lv_at hl 4 rfl) ?_
  have hPc := hP.sub (ws' := [(q_1, .inr (12, [.ref q_3, .ref q_32, .ref q_61])), (q_3, .inr (4, [.ref q_4, .ref q_10, .ref q_18, .ref q_21, .ref q_27, .ref q_31, .int 0, .int 0, .long 0])), (q_27, .inr (8, [.ref q_28, .int 105, .int 0, .int (-1), .int 0, .int 0, .int 0])), (q_28, .inr (9, [.ref q_29, .ref q_30, .int 0]))]) [0, 1, 2, 3] rfl
  have hDc := hD.sub (ws' := [(q_1, .inr (12, [.ref q_3, .ref q_32, .ref q_61])), (q_3, .inr (4, [.ref q_4, .ref q_10, .ref q_18, .ref q_21, .ref q_27, .ref q_31, .int 0, .int 0, .long 0])), (q_27, .inr (8, [.ref q_28, .int 105, .int 0, .int (-1), .int 0, .int 0, .int 0])), (q_28, .inr (9, [.ref q_29, .ref q_30, .int 0]))]) [0, 1, 2, 3] (by decide) rfl
  have hKc := hK.sub (tys' := [(cI, .int)]) [0] rfl
  have hFc := va_free (wc := [(q_1, .inr (12, [.ref q_3, .ref q_32, .ref q_61])), (q_3, .inr (4, [.ref q_4, .ref q_10, .ref q_18, .ref q_21, .ref q_27, .ref q_31, .int 0, .int 0, .long 0])), (q_27, .inr (8, [.ref q_28, .int 105, .int 0, .int (-1), .int 0, .int 0, .int 0])), (q_28, .inr (9, [.ref q_29, .ref q_30, .int 0]))]) hD hS hA [0, 1, 2, 3] rfl
  refine va_calli (va_runV (As := []) (rest := []) ⟨hx, hb, hml, hown, hts⟩ (c_X8_depth l dC dI g q_1 q_32 q_61 q_3 q_4 q_10 q_18 q_21 q_28 q_29 q_30 q_27 q_31 cI H.size) (cwV 0 hts gL_law_X8_depth rfl rfl rfl (by decide +kernel) ⟨Nat.le_of_ble_eq_true rfl, Nat.le_of_ble_eq_true rfl⟩) ⟨wIn_blind, va_recv hK hP (ci := 12) (q0 := 0) rfl rfl, wIn_at hPc hKc hDc hG hS hFc⟩ rfl rfl hl.1 rfl (lv_room (Nat.le_of_ble_eq_true rfl)) dL_law_1623 ⟨Nat.le_of_ble_eq_true rfl, Nat.le_of_ble_eq_true rfl⟩) hS (fun q _ h => hFc q h) hFc (fun r_120 u t H1 locs ht hvm hw hB hz1 hk1 hS => ?_)
  obtain ⟨hP1, hK1, hD1⟩ := hB
  rw [ht] at hP1
  obtain ⟨hP, hD⟩ := va_join (wr := [(q_90, .inr (16, [.ref q_97, .ref q_103, .ref q_113, .ref q_92, .ref q_93, .int 0, .int 0, .int 0, .int 105, .int 0, .int 0, .int 0, .int (-1), .int 0, .int 0, .int 0, .int 0, .int 0, .int 0, .int 0, .long 0, .int 0, .int 0])), (q_92, .inr (3, [.int 0, .ref g.1, .int 0]))]) (w1 := []) hP hD [0, 1, 2, 3] [4, 5] rfl rfl (by decide) (by decide) hk1 hFc hP1 hD1
  generalize H1 = H at hP hS ⊢
  have hP : va_P (dC, dI) vwCl [(q_90, .inr (16, [.ref q_97, .ref q_103, .ref q_113, .ref q_92, .ref q_93, .int 0, .int 0, .int 0, .int 105, .int 0, .int 0, .int 0, .int (-1), .int 0, .int 0, .int 0, .int 0, .int 0, .int 0, .int 0, .long 0, .int 0, .int 0])), (q_92, .inr (3, [.int 0, .ref g.1, .int 0]))] H := hP
  have hD : va_D A [(q_90, .inr (16, [.ref q_97, .ref q_103, .ref q_113, .ref q_92, .ref q_93, .int 0, .int 0, .int 0, .int 105, .int 0, .int 0, .int 0, .int (-1), .int 0, .int 0, .int 0, .int 0, .int 0, .int 0, .int 0, .long 0, .int 0, .int 0])), (q_92, .inr (3, [.int 0, .ref g.1, .int 0]))] := hD
  refine lt_ci (y := 0) hw ?_
  refine lv_aload_n hx hb dL_law_1626 rfl (lv_at hl 3 rfl) ?_
  have hPc := hP.sub (ws' := [(q_90, .inr (16, [.ref q_97, .ref q_103, .ref q_113, .ref q_92, .ref q_93, .int 0, .int 0, .int 0, .int 105, .int 0, .int 0, .int 0, .int (-1), .int 0, .int 0, .int 0, .int 0, .int 0, .int 0, .int 0, .long 0, .int 0, .int 0])), (q_92, .inr (3, [.int 0, .ref g.1, .int 0]))]) [0, 1] rfl
  have hDc := hD.sub (ws' := [(q_90, .inr (16, [.ref q_97, .ref q_103, .ref q_113, .ref q_92, .ref q_93, .int 0, .int 0, .int 0, .int 105, .int 0, .int 0, .int 0, .int (-1), .int 0, .int 0, .int 0, .int 0, .int 0, .int 0, .int 0, .long 0, .int 0, .int 0])), (q_92, .inr (3, [.int 0, .ref g.1, .int 0]))]) [0, 1] (by decide) rfl
  have hKc := hK.sub (tys' := [(cI, .int), (cZ, .boolean), (cO, .object "java/lang/Object")]) [0, 1, 2] rfl
  have hFc := va_free (wc := [(q_90, .inr (16, [.ref q_97, .ref q_103, .ref q_113, .ref q_92, .ref q_93, .int 0, .int 0, .int 0, .int 105, .int 0, .int 0, .int 0, .int (-1), .int 0, .int 0, .int 0, .int 0, .int 0, .int 0, .int 0, .long 0, .int 0, .int 0])), (q_92, .inr (3, [.int 0, .ref g.1, .int 0]))]) hD hS hA [0, 1] rfl
  refine va_calli (va_runV (As := []) (rest := [.int 0]) ⟨hx, hb, hml, hown, hts⟩ (c_X12_depth l dC dI g q_90 q_92 q_93 q_97 q_103 q_113 cI cZ cO 0 H.size) (cwV 0 hts gL_law_X12_depth rfl rfl rfl (by decide +kernel) ⟨Nat.le_of_ble_eq_true rfl, Nat.le_of_ble_eq_true rfl⟩) ⟨wIn_blind, va_recv hK hP (ci := 16) (q0 := 0) rfl rfl, wIn_at hPc hKc hDc hG hS hFc⟩ rfl rfl hl.1 rfl (lv_room (Nat.le_of_ble_eq_true rfl)) dL_law_1627 ⟨Nat.le_of_ble_eq_true rfl, Nat.le_of_ble_eq_true rfl⟩) hS (fun q _ h => hFc q h) hFc (fun r_121 u t H1 locs ht hvm hw hB hz1 hk1 hS => ?_)
  obtain ⟨v_122, rfl⟩ : ∃ z, z = u := ⟨_, rfl⟩
  have hw : v_122 = mp_X12_depth ∧ (mp_X12_depth = 0 → r_121 = 0) := hw
  obtain ⟨hm9, hv_123⟩ := hw
  have hm9 := hm9.trans ((kc_mp_X12_depth))
  subst hm9
  obtain ⟨hP1, hK1, hD1⟩ := hB
  rw [ht] at hP1
  obtain ⟨hP, hD⟩ := va_join (wr := []) (w1 := [(q_90, .inr (16, [.ref q_97, .ref q_103, .ref q_113, .ref q_92, .ref q_93, .int 0, .int 0, .int 0, .int 105, .int 0, .int 0, .int 0, .int (-1), .int 0, .int 0, .int 0, .int 0, .int 0, .int 0, .int 0, .long 0, .int 0, .int 0]))]) hP hD [0, 1] [] rfl rfl (by decide) (by decide) hk1 hFc hP1 hD1
  generalize H1 = H at hP hS ⊢
  have hP : va_P (dC, dI) vwCl [(q_90, .inr (16, [.ref q_97, .ref q_103, .ref q_113, .ref q_92, .ref q_93, .int 0, .int 0, .int 0, .int 105, .int 0, .int 0, .int 0, .int (-1), .int 0, .int 0, .int 0, .int 0, .int 0, .int 0, .int 0, .long 0, .int 0, .int 0]))] H := hP
  have hD : va_D A [(q_90, .inr (16, [.ref q_97, .ref q_103, .ref q_113, .ref q_92, .ref q_93, .int 0, .int 0, .int 0, .int 105, .int 0, .int 0, .int 0, .int (-1), .int 0, .int 0, .int 0, .int 0, .int 0, .int 0, .int 0, .long 0, .int 0, .int 0]))] := hD
  refine lt_ci (y := 0) (hv_123 (kc_mp_X12_depth)) ?_
  refine lv_icmp_eq (tgt := 1976) hx hb dL_law_1630 (by decide) (fun _ => ?_) (fun c => absurd (by decide) c)
  refine lv_iinc (v := 6) (lv' := [(5, .int 6), (4, .ref q_118), (3, .ref q_116), (2, .ref q_90), (1, .ref q_1), (0, .ref b)]) hx hb dL_law_1976 hl (k := 0) rfl (by first | rfl | decide) (by decide) rfl (fun ls hl => ?_)
  refine lv_goto (tgt := 28) hx hb dL_law_1979 (by decide) ?_
  refine lv_iload hx hb dL_law_28 (lv_at hl 0 rfl) ?_
  refine lv_aload_n hx hb dL_law_30 rfl (lv_at hl 5 rfl) ?_
  refine va_slen hx hb hX hbl hbA hS dL_law_31 ?_
  refine lt_ci (y := 6) rfl ?_
  refine lv_bipush (v := 6) hx hb dL_law_32 (by decide) ?_
  refine lv_isub hx hb dL_law_34 ?_
  refine lt_ci (y := 0) (by first | rfl | decide) ?_
  refine lv_icmp_gt (tgt := 1982) hx hb dL_law_35 (by decide) (fun _ => ?_) (fun c => absurd (by decide) c)
  refine lv_iconst (v := 1) hx hb dL_law_1982 (by decide) ?_
  refine W.widen (k := 735603) (n := 6895256) (Nat.le_of_ble_eq_true rfl) (Nat.le_of_ble_eq_true rfl) ?_
  refine va_forget (fun q hq => by have h9 := hS.2.2 q hq; rw [hAe] at h9; exact h9) ?_
  exact W.base (lw_ret (Drawn.sameBut.refl s.drawn lw_cs) hx hb hr hlocks dL_law_1983)
