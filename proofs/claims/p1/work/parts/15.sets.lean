set_option maxHeartbeats 4000000 in
set_option maxRecDepth 100000 in
theorem c_X8_withBit_any (l : Launch) (dC : Nat → ClassId) (dI : Nat → Nat → Nat) (g : Nat × Nat × Nat) (x : Int32) (i : Int32) (o : Int32) (sz : Nat) : Met l yX8_withBit wsX8_withBit ({ frames := 0, cells := 0, slots := 0, locals := 0 } : Room) (va_Pc [.int x, .int i, .int o] (wIn dC dI g [] [] sz)) (va_Qi (fun (r : Int32) (u : Unit) => True) (fun (u : Unit) (t : State) => wOut dC dI [] [] (va_A [] sz) t) (va_A [] sz)) 0 0 (va_A [] sz) := by
  refine Met.ofW (cc := cX8_withBit) (maxL := 3) (ret := (some .int)) (by decide) rfl ?_
  intro p e s m args below meth c s₁ B hml hv
  obtain ⟨rfl, hsz, hP, hK, hD0, hG⟩ := hv
  have hx := B.exec
  have hb := B.bytes
  have hr := B.returns
  have hts := atoms_spec (ws := wsX8_withBit) B.pre
  have hown : s.vm.findClass RX8 = some m.cls := findClass_of_methodNamed B.named
  have hlocks := B.notSynchronized
  subst hsz
  have hD := hD0.self (sz := s.heap.size)
  generalize hAe : va_A [] s.heap.size = A at hD hG ⊢
  have hN := hG.1
  have hA : ∀ q : Nat, s.heap.size ≤ q → A q := fun q h => by rw [← hAe]; exact Or.inr h
  have hS : va_S A s.heap s.heap [] := va_S.rf
  have hP : va_P (dC, dI) vwCl [] s.heap := hP
  have hl := lv_entry ([.int x, .int i, .int o]) (n := 3) (Nat.le_of_ble_eq_true rfl)
  rw [lg_entry_eq]
  generalize (lg_sl ([.int x, .int i, .int o]) ++ List.replicate (3 - (lg_sl ([.int x, .int i, .int o])).length) Slot.unset).toArray = ls at hl ⊢
  have hl : lv_has ls 3 [(0, .int x), (1, .int i), (2, .int o)] := hl
  refine lv_iload_n hx hb dX8_withBit_0 rfl (lv_at hl 2 rfl) ?_
  refine lv_if_eq (tgt := 12) hx hb dX8_withBit_1 (by decide) (fun c_1 => ?_) (fun c_1 => ?_)
  · refine lv_iload_n hx hb dX8_withBit_12 rfl (lv_at hl 0 rfl) ?_
    refine lv_iconst (v := 1) hx hb dX8_withBit_13 (by decide) ?_
    refine lv_iload_n hx hb dX8_withBit_14 rfl (lv_at hl 1 rfl) ?_
    refine lv_ishl hx hb dX8_withBit_15 ?_
    refine lv_iconst (v := (-1)) hx hb dX8_withBit_16 (by decide) ?_
    refine lv_ixor hx hb dX8_withBit_17 ?_
    refine lv_iand hx hb dX8_withBit_18 ?_
    have hP9 := hP.sub (ws' := []) [] rfl
    have hD9 := hD.sub (ws' := []) [] (by decide) rfl
    have hK9 := hK.sub (tys' := []) [] rfl
    exact W.iret (v := (x &&& ((1 <<< (i &&& 31)) ^^^ (-1)))) hx hb hr (fun t ht hW => ⟨⟨(x &&& ((1 <<< (i &&& 31)) ^^^ (-1))), (), rfl, trivial, wOut_at ht hW hP9 hK9 hD9⟩, hS.F ht⟩) hS.2.2 dX8_withBit_19
  · refine lv_iload_n hx hb dX8_withBit_4 rfl (lv_at hl 0 rfl) ?_
    refine lv_iconst (v := 1) hx hb dX8_withBit_5 (by decide) ?_
    refine lv_iload_n hx hb dX8_withBit_6 rfl (lv_at hl 1 rfl) ?_
    refine lv_ishl hx hb dX8_withBit_7 ?_
    refine lv_ior hx hb dX8_withBit_8 ?_
    refine lv_goto (tgt := 19) hx hb dX8_withBit_9 (by decide) ?_
    have hP9 := hP.sub (ws' := []) [] rfl
    have hD9 := hD.sub (ws' := []) [] (by decide) rfl
    have hK9 := hK.sub (tys' := []) [] rfl
    exact W.iret (v := (x ||| (1 <<< (i &&& 31)))) hx hb hr (fun t ht hW => ⟨⟨(x ||| (1 <<< (i &&& 31))), (), rfl, trivial, wOut_at ht hW hP9 hK9 hD9⟩, hS.F ht⟩) hS.2.2 dX8_withBit_19

def sp_X8_setClock (v1 : Int32) (v2 : Int32) (v3 : Int32) : Int32 := (if v1 < 1 then 1 else (if v1 < 4 then (if v2 < 0 then 1 else (if v2 < v1 then (if v3 < 1 then 2 else (if v3 ≤ 64 then 0 else 2)) else 1)) else 1))
set_option maxHeartbeats 4000000 in
set_option maxRecDepth 100000 in
theorem c_X8_setClock (l : Launch) (hl9 : l.stackTraces = false) (dC : Nat → ClassId) (dI : Nat → Nat → Nat) (g : Nat × Nat × Nat) (xt : Nat) (xe : Nat) (xf : Nat) (ah : Nat) (ac : Nat) (c1 : Nat) (c2 : Nat) (c3 : Nat) (c4 : Nat) (c5 : Nat) (au : Nat) (ab : Nat) (an : Nat) (ak : Nat) (ad : Nat) (cI : ClassId) (v1 : Int32) (v2 : Int32) (v3 : Int32) (v4 : Int32) (sz : Nat) : vx_Met l yX8_setClock wsX8_setClock ({ frames := 6, cells := 1, slots := 6, locals := 100 } : Room) (va_Pc [.ref xt, .int v1, .int v2, .int v3, .int v4] (wIn dC dI g [(xt, .inr (12, [.ref ah, .ref xe, .ref xf])), (ah, .inr (4, [.ref ac, .ref au, .ref ab, .ref an, .ref ak, .ref ad, .int 0, .int 0, .long 0])), (ac, .inr (5, [.ref c1, .ref c2, .ref c3, .ref c4, .ref c5, .int 15])), (c1, .inl (cI, 4, .inl (cn 0))), (c2, .inl (cI, 4, .inl (cn 1))), (c3, .inl (cI, 4, .inl (cn 0))), (c4, .inl (cI, 4, .inl (cn 0))), (c5, .inl (cI, 4, .inl (cn 0)))] [(cI, .int)] sz)) (va_Qi (fun (r : Int32) (u : Unit) => r = 1 ∧ sp_X8_setClock v1 v2 v3 = 0) (fun (u : Unit) (t : State) => wOut dC dI [] [(cI, .int)] (va_A [(xt, .inr (12, [.ref ah, .ref xe, .ref xf])), (ah, .inr (4, [.ref ac, .ref au, .ref ab, .ref an, .ref ak, .ref ad, .int 0, .int 0, .long 0])), (ac, .inr (5, [.ref c1, .ref c2, .ref c3, .ref c4, .ref c5, .int 15])), (c1, .inl (cI, 4, .inl (cn 0))), (c2, .inl (cI, 4, .inl (cn 1))), (c3, .inl (cI, 4, .inl (cn 0))), (c4, .inl (cI, 4, .inl (cn 0))), (c5, .inl (cI, 4, .inl (cn 0)))] sz) t) (va_A [(xt, .inr (12, [.ref ah, .ref xe, .ref xf])), (ah, .inr (4, [.ref ac, .ref au, .ref ab, .ref an, .ref ak, .ref ad, .int 0, .int 0, .long 0])), (ac, .inr (5, [.ref c1, .ref c2, .ref c3, .ref c4, .ref c5, .int 15])), (c1, .inl (cI, 4, .inl (cn 0))), (c2, .inl (cI, 4, .inl (cn 1))), (c3, .inl (cI, 4, .inl (cn 0))), (c4, .inl (cI, 4, .inl (cn 0))), (c5, .inl (cI, 4, .inl (cn 0)))] sz)) (vx_X (fun (_ : Unit) => True) (fun (E : String) (_ : Unit) (_ : State) => (E = "java/lang/IndexOutOfBoundsException" ∧ sp_X8_setClock v1 v2 v3 = 1) ∨ (E = "java/lang/IllegalArgumentException" ∧ sp_X8_setClock v1 v2 v3 = 2)) (va_A [(xt, .inr (12, [.ref ah, .ref xe, .ref xf])), (ah, .inr (4, [.ref ac, .ref au, .ref ab, .ref an, .ref ak, .ref ad, .int 0, .int 0, .long 0])), (ac, .inr (5, [.ref c1, .ref c2, .ref c3, .ref c4, .ref c5, .int 15])), (c1, .inl (cI, 4, .inl (cn 0))), (c2, .inl (cI, 4, .inl (cn 1))), (c3, .inl (cI, 4, .inl (cn 0))), (c4, .inl (cI, 4, .inl (cn 0))), (c5, .inl (cI, 4, .inl (cn 0)))] sz)) 1 6 (va_A [(xt, .inr (12, [.ref ah, .ref xe, .ref xf])), (ah, .inr (4, [.ref ac, .ref au, .ref ab, .ref an, .ref ak, .ref ad, .int 0, .int 0, .long 0])), (ac, .inr (5, [.ref c1, .ref c2, .ref c3, .ref c4, .ref c5, .int 15])), (c1, .inl (cI, 4, .inl (cn 0))), (c2, .inl (cI, 4, .inl (cn 1))), (c3, .inl (cI, 4, .inl (cn 0))), (c4, .inl (cI, 4, .inl (cn 0))), (c5, .inl (cI, 4, .inl (cn 0)))] sz) := by
  refine vx_ofW (cc := cX8_setClock) (maxL := 7) (ret := (some .int)) (by decide) rfl ?_
  intro p e s m args below meth c s₁ B hml htab hv
  obtain ⟨rfl, hsz, hP, hK, hD0, hG⟩ := hv
  have hx := B.exec
  have hb := B.bytes
  have hr := B.returns
  have hts := atoms_spec (ws := wsX8_setClock) B.pre
  have hown : s.vm.findClass RX8 = some m.cls := findClass_of_methodNamed B.named
  have hlocks := B.notSynchronized
  subst hsz
  have hD := hD0.self (sz := s.heap.size)
  generalize hAe : va_A [(xt, .inr (12, [.ref ah, .ref xe, .ref xf])), (ah, .inr (4, [.ref ac, .ref au, .ref ab, .ref an, .ref ak, .ref ad, .int 0, .int 0, .long 0])), (ac, .inr (5, [.ref c1, .ref c2, .ref c3, .ref c4, .ref c5, .int 15])), (c1, .inl (cI, 4, .inl (cn 0))), (c2, .inl (cI, 4, .inl (cn 1))), (c3, .inl (cI, 4, .inl (cn 0))), (c4, .inl (cI, 4, .inl (cn 0))), (c5, .inl (cI, 4, .inl (cn 0)))] s.heap.size = A at hD hG ⊢
  have hN := hG.1
  have hA : ∀ q : Nat, s.heap.size ≤ q → A q := fun q h => by rw [← hAe]; exact Or.inr h
  have hS : va_S A s.heap s.heap [] := va_S.rf
  have hP : va_P (dC, dI) vwCl [(xt, .inr (12, [.ref ah, .ref xe, .ref xf])), (ah, .inr (4, [.ref ac, .ref au, .ref ab, .ref an, .ref ak, .ref ad, .int 0, .int 0, .long 0])), (ac, .inr (5, [.ref c1, .ref c2, .ref c3, .ref c4, .ref c5, .int 15])), (c1, .inl (cI, 4, .inl (cn 0))), (c2, .inl (cI, 4, .inl (cn 1))), (c3, .inl (cI, 4, .inl (cn 0))), (c4, .inl (cI, 4, .inl (cn 0))), (c5, .inl (cI, 4, .inl (cn 0)))] s.heap := hP
  have hw0 : (Cond.classLink RX8 22 "java/lang/IndexOutOfBoundsException").before _ s = true := hts _ (List.mem_cons_of_mem _ (List.mem_append_left _ (List.mem_append_left _ (List.mem_append_left _ (List.mem_append_left _ (List.mem_append_left _ (List.mem_append_left _ (List.mem_of_getElem? (i := 0) rfl))))))))
  have hw1 : (Cond.initialized "java/lang/IndexOutOfBoundsException").before _ s = true := hts _ (List.mem_cons_of_mem _ (List.mem_append_left _ (List.mem_append_left _ (List.mem_append_left _ (List.mem_append_left _ (List.mem_append_left _ (List.mem_append_left _ (List.mem_of_getElem? (i := 1) rfl))))))))
  have hw2 : (Cond.classLink RX8 31 "java/lang/IllegalArgumentException").before _ s = true := hts _ (List.mem_cons_of_mem _ (List.mem_append_left _ (List.mem_append_left _ (List.mem_append_left _ (List.mem_append_left _ (List.mem_append_left _ (List.mem_append_left _ (List.mem_of_getElem? (i := 2) rfl))))))))
  have hw3 : (Cond.initialized "java/lang/IllegalArgumentException").before _ s = true := hts _ (List.mem_cons_of_mem _ (List.mem_append_left _ (List.mem_append_left _ (List.mem_append_left _ (List.mem_append_left _ (List.mem_append_left _ (List.mem_append_left _ (List.mem_of_getElem? (i := 3) rfl))))))))
  have hw4 : (Cond.fieldLink RX8 10 "Tickstation" "chip" "LTickstation$Chip;").before _ s = true := hts _ (List.mem_cons_of_mem _ (List.mem_append_left _ (List.mem_append_left _ (List.mem_append_left _ (List.mem_append_left _ (List.mem_append_left _ (List.mem_append_left _ (List.mem_of_getElem? (i := 4) rfl))))))))
  have hiX8 : ∀ w ∈ u_ws RX8 TX8 3, w ∈ wsX8_setClock := fun _ h => List.mem_cons_of_mem _ (List.mem_append_left _ (List.mem_append_left _ (List.mem_append_left _ (List.mem_append_left _ (List.mem_append_left _ (List.mem_append_right _ (h)))))))
  have hw6 : (Cond.fieldLink RX8 36 "Tickstation$Chip" "clocks" "LTickstation$Clocks;").before _ s = true := hts _ (List.mem_cons_of_mem _ (List.mem_append_left _ (List.mem_append_left _ (List.mem_append_left _ (List.mem_append_left _ (List.mem_append_left _ (List.mem_append_left _ (List.mem_of_getElem? (i := 5) rfl))))))))
  have hiX0 : ∀ w ∈ u_ws RX0 TX0 9, w ∈ wsX8_setClock := fun _ h => List.mem_cons_of_mem _ (List.mem_append_left _ (List.mem_append_left _ (List.mem_append_left _ (List.mem_append_left _ (List.mem_append_right _ (h))))))
  have hw8 : (Cond.fieldLink RX8 40 "Tickstation$Clocks" "divider" "[I").before _ s = true := hts _ (List.mem_cons_of_mem _ (List.mem_append_left _ (List.mem_append_left _ (List.mem_append_left _ (List.mem_append_left _ (List.mem_append_left _ (List.mem_append_left _ (List.mem_of_getElem? (i := 6) rfl))))))))
  have hiX1 : ∀ w ∈ u_ws RX1 TX1 6, w ∈ wsX8_setClock := fun _ h => List.mem_cons_of_mem _ (List.mem_append_left _ (List.mem_append_left _ (List.mem_append_left _ (List.mem_append_right _ (h)))))
  have hw10 : (Cond.fieldLink RX8 46 "Tickstation$Clocks" "source" "[I").before _ s = true := hts _ (List.mem_cons_of_mem _ (List.mem_append_left _ (List.mem_append_left _ (List.mem_append_left _ (List.mem_append_left _ (List.mem_append_left _ (List.mem_append_left _ (List.mem_of_getElem? (i := 7) rfl))))))))
  have hw11 : (Cond.fieldLink RX8 49 "Tickstation$Clocks" "on" "I").before _ s = true := hts _ (List.mem_cons_of_mem _ (List.mem_append_left _ (List.mem_append_left _ (List.mem_append_left _ (List.mem_append_left _ (List.mem_append_left _ (List.mem_append_left _ (List.mem_of_getElem? (i := 8) rfl))))))))
  have hl := lv_entry ([.ref xt, .int v1, .int v2, .int v3, .int v4]) (n := 7) (Nat.le_of_ble_eq_true rfl)
  rw [lg_entry_eq]
  generalize (lg_sl ([.ref xt, .int v1, .int v2, .int v3, .int v4]) ++ List.replicate (7 - (lg_sl ([.ref xt, .int v1, .int v2, .int v3, .int v4])).length) Slot.unset).toArray = ls at hl ⊢
  have hl : lv_has ls 7 [(0, .ref xt), (1, .int v1), (2, .int v2), (3, .int v3), (4, .int v4)] := hl
  refine lv_iload_n hx hb dX8_setClock_0 rfl (lv_at hl 1 rfl) ?_
  refine lv_iconst (v := 1) hx hb dX8_setClock_1 (by decide) ?_
  refine lv_icmp_lt (tgt := 10) hx hb dX8_setClock_2 (by decide) (fun c_2 => ?_) (fun c_2 => ?_)
  · obtain ⟨sa9, hstr9⟩ := hG.2.2.2.1 _ (List.mem_of_getElem? (i := 8) rfl)
    exact vx_throwS (sa := sa9) hx hb hl9 hown (by decide +kernel) (by decide +kernel) hw0 hw1 hstr9 (vx_hat (fun w hw => hts w (List.mem_cons_of_mem _ (List.mem_append_left _ (List.mem_append_left _ (List.mem_append_right _ (hw)))))) xh_26 (nw_use hN)) xg_26 hG.2.2.2.2.1 hG.2.2.2.2.2.1 hS (hl.1.trans hml.symm) dX8_setClock_10 dX8_setClock_13 dX8_setClock_14 dX8_setClock_16 dX8_setClock_19 (fun x9 hx9 => (htab x9 hx9).elim) (by decide) (by decide) (Nat.le_of_ble_eq_true rfl) (Nat.le_of_ble_eq_true rfl) hlocks (fun t hal hle hq => ⟨(), trivial, Or.inl ⟨rfl, (by unfold sp_X8_setClock; rw [if_pos c_2])⟩, ⟨Nat.le_trans hS.1 hle, fun q h1 h2 => (hq q (Nat.lt_of_lt_of_le h1 hS.1)).trans (hS.2.1 q h1 h2)⟩⟩) hS.2.2 (Nat.le_of_ble_eq_true rfl) (Nat.le_of_ble_eq_true rfl)
  · refine lv_iload_n hx hb dX8_setClock_5 rfl (lv_at hl 1 rfl) ?_
    refine lv_iconst (v := 4) hx hb dX8_setClock_6 (by decide) ?_
    refine lv_icmp_lt (tgt := 20) hx hb dX8_setClock_7 (by decide) (fun c_7 => ?_) (fun c_7 => ?_)
    · refine lv_iload_n hx hb dX8_setClock_20 rfl (lv_at hl 2 rfl) ?_
      refine lv_if_lt (tgt := 29) hx hb dX8_setClock_21 (by decide) (fun c_21 => ?_) (fun c_21 => ?_)
      · obtain ⟨sa9, hstr9⟩ := hG.2.2.2.1 _ (List.mem_of_getElem? (i := 11) rfl)
        exact vx_throwS (sa := sa9) hx hb hl9 hown (by decide +kernel) (by decide +kernel) hw0 hw1 hstr9 (vx_hat (fun w hw => hts w (List.mem_cons_of_mem _ (List.mem_append_left _ (List.mem_append_left _ (List.mem_append_right _ (hw)))))) xh_26 (nw_use hN)) xg_26 hG.2.2.2.2.1 hG.2.2.2.2.2.1 hS (hl.1.trans hml.symm) dX8_setClock_29 dX8_setClock_32 dX8_setClock_33 dX8_setClock_35 dX8_setClock_38 (fun x9 hx9 => (htab x9 hx9).elim) (by decide) (by decide) (Nat.le_of_ble_eq_true rfl) (Nat.le_of_ble_eq_true rfl) hlocks (fun t hal hle hq => ⟨(), trivial, Or.inl ⟨rfl, (by unfold sp_X8_setClock; rw [if_neg c_2, if_pos c_7, if_pos c_21])⟩, ⟨Nat.le_trans hS.1 hle, fun q h1 h2 => (hq q (Nat.lt_of_lt_of_le h1 hS.1)).trans (hS.2.1 q h1 h2)⟩⟩) hS.2.2 (Nat.le_of_ble_eq_true rfl) (Nat.le_of_ble_eq_true rfl)
      · refine lv_iload_n hx hb dX8_setClock_24 rfl (lv_at hl 2 rfl) ?_
        refine lv_iload_n hx hb dX8_setClock_25 rfl (lv_at hl 1 rfl) ?_
        refine lv_icmp_lt (tgt := 39) hx hb dX8_setClock_26 (by decide) (fun c_26 => ?_) (fun c_26 => ?_)
        · refine lv_iload_n hx hb dX8_setClock_39 rfl (lv_at hl 3 rfl) ?_
          refine lv_iconst (v := 1) hx hb dX8_setClock_40 (by decide) ?_
          refine lv_icmp_lt (tgt := 50) hx hb dX8_setClock_41 (by decide) (fun c_41 => ?_) (fun c_41 => ?_)
          · obtain ⟨sa9, hstr9⟩ := hG.2.2.2.1 _ (List.mem_of_getElem? (i := 12) rfl)
            exact vx_throwS (sa := sa9) hx hb hl9 hown (by decide +kernel) (by decide +kernel) hw2 hw3 hstr9 (vx_hat (fun w hw => hts w (List.mem_cons_of_mem _ (List.mem_append_left _ (List.mem_append_right _ (hw))))) xh_35 (nw_use hN)) xg_35 hG.2.2.2.2.1 hG.2.2.2.2.2.1 hS (hl.1.trans hml.symm) dX8_setClock_50 dX8_setClock_53 dX8_setClock_54 dX8_setClock_56 dX8_setClock_59 (fun x9 hx9 => (htab x9 hx9).elim) (by decide) (by decide) (Nat.le_of_ble_eq_true rfl) (Nat.le_of_ble_eq_true rfl) hlocks (fun t hal hle hq => ⟨(), trivial, Or.inr (⟨rfl, (by unfold sp_X8_setClock; rw [if_neg c_2, if_pos c_7, if_neg c_21, if_pos c_26, if_pos c_41])⟩), ⟨Nat.le_trans hS.1 hle, fun q h1 h2 => (hq q (Nat.lt_of_lt_of_le h1 hS.1)).trans (hS.2.1 q h1 h2)⟩⟩) hS.2.2 (Nat.le_of_ble_eq_true rfl) (Nat.le_of_ble_eq_true rfl)
          · refine lv_iload_n hx hb dX8_setClock_44 rfl (lv_at hl 3 rfl) ?_
            refine lv_bipush (v := 64) hx hb dX8_setClock_45 (by decide) ?_
            refine lv_icmp_le (tgt := 60) hx hb dX8_setClock_47 (by decide) (fun c_47 => ?_) (fun c_47 => ?_)
            · refine lv_aload_n hx hb dX8_setClock_60 rfl (lv_at hl 0 rfl) ?_
              refine va_get (D := (dC, dI)) (ci := 12) (v := .ref ah) (C := RX8) (T := TX8) (N := 3) hx hb hts hiX8 hown hK hP 0 rfl rfl 0 (by decide) (hw4) (fun _ h9 => h9) rfl dX8_setClock_61 ?_
              refine va_get (D := (dC, dI)) (ci := 4) (v := .ref ac) (C := RX0) (T := TX0) (N := 9) hx hb hts hiX0 hown hK hP 1 rfl rfl 0 (by decide) (hw6) (fun _ h9 => h9) rfl dX8_setClock_64 ?_
              refine lv_astore (lv' := [(5, .ref ac), (0, .ref xt), (1, .int v1), (2, .int v2), (3, .int v3), (4, .int v4)]) hx hb dX8_setClock_67 hl (by decide) rfl (fun ls hl => ?_)
              refine lv_aload hx hb dX8_setClock_69 (lv_at hl 0 rfl) ?_
              refine va_get (D := (dC, dI)) (ci := 5) (v := .ref c2) (C := RX1) (T := TX1) (N := 6) hx hb hts hiX1 hown hK hP 2 rfl rfl 1 (by decide) (hw8) (fun _ h9 => h9) rfl dX8_setClock_71 ?_
              refine lv_iload_n hx hb dX8_setClock_74 rfl (lv_at hl 2 rfl) ?_
              refine va_iald (D := (dC, dI)) hx hb hK hP 4 0 rfl rfl (vp_in_iff.mpr ⟨i_l1 c_2, i_u4 c_7⟩) dX8_setClock_75 ?_
              refine lt_ci (y := 1) rfl ?_
              refine lv_istore (lv' := [(6, .int 1), (5, .ref ac), (0, .ref xt), (1, .int v1), (2, .int v2), (3, .int v3), (4, .int v4)]) hx hb dX8_setClock_76 hl (by decide) rfl (fun ls hl => ?_)
              refine lv_aload hx hb dX8_setClock_78 (lv_at hl 1 rfl) ?_
              refine va_get (D := (dC, dI)) (ci := 5) (v := .ref c1) (C := RX1) (T := TX1) (N := 6) hx hb hts hiX1 hown hK hP 2 rfl rfl 0 (by decide) (hw10) (fun _ h9 => h9) rfl dX8_setClock_80 ?_
              refine lv_iload_n hx hb dX8_setClock_83 rfl (lv_at hl 3 rfl) ?_
              refine lv_iload_n hx hb dX8_setClock_84 rfl (lv_at hl 4 rfl) ?_
              refine va_iast (D := (dC, dI)) hx hb hK hP hD hS 3 0 rfl rfl (vp_in_iff.mpr ⟨i_l1 c_2, i_u4 c_7⟩) dX8_setClock_85 (fun H locs hP hD hS => ?_)
              have hP : va_P (dC, dI) vwCl [(xt, .inr (12, [.ref ah, .ref xe, .ref xf])), (ah, .inr (4, [.ref ac, .ref au, .ref ab, .ref an, .ref ak, .ref ad, .int 0, .int 0, .long 0])), (ac, .inr (5, [.ref c1, .ref c2, .ref c3, .ref c4, .ref c5, .int 15])), (c1, .inl (cI, 4, .inl (upd (cn 0) (v1).toNatClampNeg v2))), (c2, .inl (cI, 4, .inl (cn 1))), (c3, .inl (cI, 4, .inl (cn 0))), (c4, .inl (cI, 4, .inl (cn 0))), (c5, .inl (cI, 4, .inl (cn 0)))] H := hP
              have hD : va_D A [(xt, .inr (12, [.ref ah, .ref xe, .ref xf])), (ah, .inr (4, [.ref ac, .ref au, .ref ab, .ref an, .ref ak, .ref ad, .int 0, .int 0, .long 0])), (ac, .inr (5, [.ref c1, .ref c2, .ref c3, .ref c4, .ref c5, .int 15])), (c1, .inl (cI, 4, .inl (upd (cn 0) (v1).toNatClampNeg v2))), (c2, .inl (cI, 4, .inl (cn 1))), (c3, .inl (cI, 4, .inl (cn 0))), (c4, .inl (cI, 4, .inl (cn 0))), (c5, .inl (cI, 4, .inl (cn 0)))] := hD
              refine lv_aload hx hb dX8_setClock_86 (lv_at hl 1 rfl) ?_
              refine va_get (D := (dC, dI)) (ci := 5) (v := .ref c2) (C := RX1) (T := TX1) (N := 6) hx hb hts hiX1 hown hK hP 2 rfl rfl 1 (by decide) (hw8) (fun _ h9 => h9) rfl dX8_setClock_88 ?_
              refine lv_iload_n hx hb dX8_setClock_91 rfl (lv_at hl 3 rfl) ?_
              refine lv_iload_n hx hb dX8_setClock_92 rfl (lv_at hl 5 rfl) ?_
              refine va_iast (D := (dC, dI)) hx hb hK hP hD hS 4 0 rfl rfl (vp_in_iff.mpr ⟨i_l1 c_2, i_u4 c_7⟩) dX8_setClock_93 (fun H locs hP hD hS => ?_)
              have hP : va_P (dC, dI) vwCl [(xt, .inr (12, [.ref ah, .ref xe, .ref xf])), (ah, .inr (4, [.ref ac, .ref au, .ref ab, .ref an, .ref ak, .ref ad, .int 0, .int 0, .long 0])), (ac, .inr (5, [.ref c1, .ref c2, .ref c3, .ref c4, .ref c5, .int 15])), (c1, .inl (cI, 4, .inl (upd (cn 0) (v1).toNatClampNeg v2))), (c2, .inl (cI, 4, .inl (upd (cn 1) (v1).toNatClampNeg v3))), (c3, .inl (cI, 4, .inl (cn 0))), (c4, .inl (cI, 4, .inl (cn 0))), (c5, .inl (cI, 4, .inl (cn 0)))] H := hP
              have hD : va_D A [(xt, .inr (12, [.ref ah, .ref xe, .ref xf])), (ah, .inr (4, [.ref ac, .ref au, .ref ab, .ref an, .ref ak, .ref ad, .int 0, .int 0, .long 0])), (ac, .inr (5, [.ref c1, .ref c2, .ref c3, .ref c4, .ref c5, .int 15])), (c1, .inl (cI, 4, .inl (upd (cn 0) (v1).toNatClampNeg v2))), (c2, .inl (cI, 4, .inl (upd (cn 1) (v1).toNatClampNeg v3))), (c3, .inl (cI, 4, .inl (cn 0))), (c4, .inl (cI, 4, .inl (cn 0))), (c5, .inl (cI, 4, .inl (cn 0)))] := hD
              refine lv_aload hx hb dX8_setClock_94 (lv_at hl 1 rfl) ?_
              refine lv_aload hx hb dX8_setClock_96 (lv_at hl 1 rfl) ?_
              refine va_get (D := (dC, dI)) (ci := 5) (v := .int 15) (C := RX1) (T := TX1) (N := 6) hx hb hts hiX1 hown hK hP 2 rfl rfl 5 (by decide) (hw11) (fun _ h9 => h9) rfl dX8_setClock_98 ?_
              refine lv_iload_n hx hb dX8_setClock_101 rfl (lv_at hl 3 rfl) ?_
              refine lv_iload hx hb dX8_setClock_102 (lv_at hl 6 rfl) ?_
              have hPc := hP.sub (ws' := []) [] rfl
              have hDc := hD.sub (ws' := []) [] (by decide) rfl
              have hKc := hK.sub (tys' := []) [] rfl
              have hFc := va_free (wc := []) hD hS hA [] rfl
              refine va_calli (va_runS (As := [.int 15, .int v1, .int v4]) (rest := [.ref ac]) ⟨hx, hb, hml, hown, hts⟩ (c_X8_withBit_any l dC dI g 15 v1 v4 H.size) (va_cwS 3 hts gX8_setClock_X8_withBit rfl rfl rfl (by decide +kernel) ⟨Nat.le_of_ble_eq_true rfl, Nat.le_of_ble_eq_true rfl⟩) ⟨wIn_blind, wIn_at hPc hKc hDc hG hS hFc⟩ rfl rfl hl.1 rfl (lv_room (Nat.le_of_ble_eq_true rfl)) dX8_setClock_104 ⟨Nat.le_of_ble_eq_true rfl, Nat.le_of_ble_eq_true rfl⟩) hS (fun q _ h => hFc q h) hFc (fun r_1 u t H1 locs ht hvm hw hB hz1 hk1 hS => ?_)
              obtain ⟨hP1, hK1, hD1⟩ := hB
              rw [ht] at hP1
              obtain ⟨hP, hD⟩ := va_join (wr := [(xt, .inr (12, [.ref ah, .ref xe, .ref xf])), (ah, .inr (4, [.ref ac, .ref au, .ref ab, .ref an, .ref ak, .ref ad, .int 0, .int 0, .long 0])), (ac, .inr (5, [.ref c1, .ref c2, .ref c3, .ref c4, .ref c5, .int 15])), (c1, .inl (cI, 4, .inl (upd (cn 0) (v1).toNatClampNeg v2))), (c2, .inl (cI, 4, .inl (upd (cn 1) (v1).toNatClampNeg v3))), (c3, .inl (cI, 4, .inl (cn 0))), (c4, .inl (cI, 4, .inl (cn 0))), (c5, .inl (cI, 4, .inl (cn 0)))]) (w1 := []) hP hD [] [0, 1, 2, 3, 4, 5, 6, 7] rfl rfl (by decide) (by decide) hk1 hFc hP1 hD1
              generalize H1 = H at hP hS ⊢
              have hP : va_P (dC, dI) vwCl [(xt, .inr (12, [.ref ah, .ref xe, .ref xf])), (ah, .inr (4, [.ref ac, .ref au, .ref ab, .ref an, .ref ak, .ref ad, .int 0, .int 0, .long 0])), (ac, .inr (5, [.ref c1, .ref c2, .ref c3, .ref c4, .ref c5, .int 15])), (c1, .inl (cI, 4, .inl (upd (cn 0) (v1).toNatClampNeg v2))), (c2, .inl (cI, 4, .inl (upd (cn 1) (v1).toNatClampNeg v3))), (c3, .inl (cI, 4, .inl (cn 0))), (c4, .inl (cI, 4, .inl (cn 0))), (c5, .inl (cI, 4, .inl (cn 0)))] H := hP
              have hD : va_D A [(xt, .inr (12, [.ref ah, .ref xe, .ref xf])), (ah, .inr (4, [.ref ac, .ref au, .ref ab, .ref an, .ref ak, .ref ad, .int 0, .int 0, .long 0])), (ac, .inr (5, [.ref c1, .ref c2, .ref c3, .ref c4, .ref c5, .int 15])), (c1, .inl (cI, 4, .inl (upd (cn 0) (v1).toNatClampNeg v2))), (c2, .inl (cI, 4, .inl (upd (cn 1) (v1).toNatClampNeg v3))), (c3, .inl (cI, 4, .inl (cn 0))), (c4, .inl (cI, 4, .inl (cn 0))), (c5, .inl (cI, 4, .inl (cn 0)))] := hD
              have hw_2 : True := hw
              refine va_put (D := (dC, dI)) (ci := 5) (v := .int r_1) (ty := .int) (C := RX1) (T := TX1) (N := 6) hx hb hts hiX1 tyX1 tyX1_ok nmX1 hown hK hP hD hS 2 rfl rfl 5 (by decide) (hw11) (fun _ h9 => h9) rfl (by decide +kernel) rfl rfl (Nat.le_of_ble_eq_true rfl) dX8_setClock_107 (fun H locs hP hD hS => ?_)
              have hP : va_P (dC, dI) vwCl [(xt, .inr (12, [.ref ah, .ref xe, .ref xf])), (ah, .inr (4, [.ref ac, .ref au, .ref ab, .ref an, .ref ak, .ref ad, .int 0, .int 0, .long 0])), (ac, .inr (5, [.ref c1, .ref c2, .ref c3, .ref c4, .ref c5, .int r_1])), (c1, .inl (cI, 4, .inl (upd (cn 0) (v1).toNatClampNeg v2))), (c2, .inl (cI, 4, .inl (upd (cn 1) (v1).toNatClampNeg v3))), (c3, .inl (cI, 4, .inl (cn 0))), (c4, .inl (cI, 4, .inl (cn 0))), (c5, .inl (cI, 4, .inl (cn 0)))] H := hP
              have hD : va_D A [(xt, .inr (12, [.ref ah, .ref xe, .ref xf])), (ah, .inr (4, [.ref ac, .ref au, .ref ab, .ref an, .ref ak, .ref ad, .int 0, .int 0, .long 0])), (ac, .inr (5, [.ref c1, .ref c2, .ref c3, .ref c4, .ref c5, .int r_1])), (c1, .inl (cI, 4, .inl (upd (cn 0) (v1).toNatClampNeg v2))), (c2, .inl (cI, 4, .inl (upd (cn 1) (v1).toNatClampNeg v3))), (c3, .inl (cI, 4, .inl (cn 0))), (c4, .inl (cI, 4, .inl (cn 0))), (c5, .inl (cI, 4, .inl (cn 0)))] := hD
              refine lv_iload hx hb dX8_setClock_110 (lv_at hl 0 rfl) ?_
              have hP9 := hP.sub (ws' := []) [] rfl
              have hD9 := hD.sub (ws' := []) [] (by decide) rfl
              have hK9 := hK.sub (tys' := [(cI, .int)]) [0] rfl
              refine W.widen (k := 1) (n := 6) (Nat.le_of_ble_eq_true rfl) (Nat.le_of_ble_eq_true rfl) ?_
              refine vx_ret ?_
              exact W.iret (v := 1) hx hb hr (fun t ht hW => ⟨⟨1, (), rfl, ⟨rfl, (by unfold sp_X8_setClock; rw [if_neg c_2, if_pos c_7, if_neg c_21, if_pos c_26, if_neg c_41, if_pos c_47])⟩, wOut_at ht hW hP9 hK9 hD9⟩, hS.F ht⟩) hS.2.2 dX8_setClock_112
            · obtain ⟨sa9, hstr9⟩ := hG.2.2.2.1 _ (List.mem_of_getElem? (i := 12) rfl)
              exact vx_throwS (sa := sa9) hx hb hl9 hown (by decide +kernel) (by decide +kernel) hw2 hw3 hstr9 (vx_hat (fun w hw => hts w (List.mem_cons_of_mem _ (List.mem_append_left _ (List.mem_append_right _ (hw))))) xh_35 (nw_use hN)) xg_35 hG.2.2.2.2.1 hG.2.2.2.2.2.1 hS (hl.1.trans hml.symm) dX8_setClock_50 dX8_setClock_53 dX8_setClock_54 dX8_setClock_56 dX8_setClock_59 (fun x9 hx9 => (htab x9 hx9).elim) (by decide) (by decide) (Nat.le_of_ble_eq_true rfl) (Nat.le_of_ble_eq_true rfl) hlocks (fun t hal hle hq => ⟨(), trivial, Or.inr (⟨rfl, (by unfold sp_X8_setClock; rw [if_neg c_2, if_pos c_7, if_neg c_21, if_pos c_26, if_neg c_41, if_neg c_47])⟩), ⟨Nat.le_trans hS.1 hle, fun q h1 h2 => (hq q (Nat.lt_of_lt_of_le h1 hS.1)).trans (hS.2.1 q h1 h2)⟩⟩) hS.2.2 (Nat.le_of_ble_eq_true rfl) (Nat.le_of_ble_eq_true rfl)
        · obtain ⟨sa9, hstr9⟩ := hG.2.2.2.1 _ (List.mem_of_getElem? (i := 11) rfl)
          exact vx_throwS (sa := sa9) hx hb hl9 hown (by decide +kernel) (by decide +kernel) hw0 hw1 hstr9 (vx_hat (fun w hw => hts w (List.mem_cons_of_mem _ (List.mem_append_left _ (List.mem_append_left _ (List.mem_append_right _ (hw)))))) xh_26 (nw_use hN)) xg_26 hG.2.2.2.2.1 hG.2.2.2.2.2.1 hS (hl.1.trans hml.symm) dX8_setClock_29 dX8_setClock_32 dX8_setClock_33 dX8_setClock_35 dX8_setClock_38 (fun x9 hx9 => (htab x9 hx9).elim) (by decide) (by decide) (Nat.le_of_ble_eq_true rfl) (Nat.le_of_ble_eq_true rfl) hlocks (fun t hal hle hq => ⟨(), trivial, Or.inl ⟨rfl, (by unfold sp_X8_setClock; rw [if_neg c_2, if_pos c_7, if_neg c_21, if_neg c_26])⟩, ⟨Nat.le_trans hS.1 hle, fun q h1 h2 => (hq q (Nat.lt_of_lt_of_le h1 hS.1)).trans (hS.2.1 q h1 h2)⟩⟩) hS.2.2 (Nat.le_of_ble_eq_true rfl) (Nat.le_of_ble_eq_true rfl)
    · obtain ⟨sa9, hstr9⟩ := hG.2.2.2.1 _ (List.mem_of_getElem? (i := 8) rfl)
      exact vx_throwS (sa := sa9) hx hb hl9 hown (by decide +kernel) (by decide +kernel) hw0 hw1 hstr9 (vx_hat (fun w hw => hts w (List.mem_cons_of_mem _ (List.mem_append_left _ (List.mem_append_left _ (List.mem_append_right _ (hw)))))) xh_26 (nw_use hN)) xg_26 hG.2.2.2.2.1 hG.2.2.2.2.2.1 hS (hl.1.trans hml.symm) dX8_setClock_10 dX8_setClock_13 dX8_setClock_14 dX8_setClock_16 dX8_setClock_19 (fun x9 hx9 => (htab x9 hx9).elim) (by decide) (by decide) (Nat.le_of_ble_eq_true rfl) (Nat.le_of_ble_eq_true rfl) hlocks (fun t hal hle hq => ⟨(), trivial, Or.inl ⟨rfl, (by unfold sp_X8_setClock; rw [if_neg c_2, if_neg c_7])⟩, ⟨Nat.le_trans hS.1 hle, fun q h1 h2 => (hq q (Nat.lt_of_lt_of_le h1 hS.1)).trans (hS.2.1 q h1 h2)⟩⟩) hS.2.2 (Nat.le_of_ble_eq_true rfl) (Nat.le_of_ble_eq_true rfl)

def sp_X8_setTimer (v1 : Int32) (v2 : Int32) (v3 : Int32) (v4 : Int32) (v5 : Int32) : Int32 := (if v1 < 0 then 1 else (if 4 ≤ v1 then 1 else (if v2 < 0 then 1 else (if v2 < 4 then (if v3 < 1 then 2 else (if 200 < v3 then 2 else (if v4 < 1 then 2 else (if v4 ≤ 200 then (if v5 = 114 then 0 else (if v5 = 111 then 0 else 2)) else 2)))) else 1))))
set_option maxHeartbeats 4000000 in
set_option maxRecDepth 100000 in
theorem c_X8_setTimer (l : Launch) (hl9 : l.stackTraces = false) (dC : Nat → ClassId) (dI : Nat → Nat → Nat) (g : Nat × Nat × Nat) (xt : Nat) (xe : Nat) (xf : Nat) (ah : Nat) (ac : Nat) (au : Nat) (t1 : Nat) (t2 : Nat) (t3 : Nat) (t4 : Nat) (t5 : Nat) (t6 : Nat) (t7 : Nat) (ab : Nat) (an : Nat) (ak : Nat) (ad : Nat) (cI : ClassId) (v1 : Int32) (v2 : Int32) (v3 : Int32) (v4 : Int32) (v5 : Int32) (sz : Nat) : vx_Met l yX8_setTimer wsX8_setTimer ({ frames := 6, cells := 1, slots := 6, locals := 100 } : Room) (va_Pc [.ref xt, .int v1, .int v2, .int v3, .int v4, .int v5] (wIn dC dI g [(xt, .inr (12, [.ref ah, .ref xe, .ref xf])), (ah, .inr (4, [.ref ac, .ref au, .ref ab, .ref an, .ref ak, .ref ad, .int 0, .int 0, .long 0])), (au, .inr (10, [.ref t1, .ref t2, .ref t3, .ref t4, .ref t5, .ref t6, .ref t7, .int 0, .int 0])), (t1, .inl (cI, 4, .inl (cn 0))), (t2, .inl (cI, 4, .inl (cn 10))), (t3, .inl (cI, 4, .inl (cn 10))), (t4, .inl (cI, 4, .inl (cn (-1)))), (t5, .inl (cI, 4, .inl (cn 0))), (t6, .inl (cI, 4, .inl (cn 0))), (t7, .inl (cI, 4, .inl (cn 110)))] [(cI, .int)] sz)) (va_Qi (fun (r : Int32) (u : Unit) => r = 10 ∧ sp_X8_setTimer v1 v2 v3 v4 v5 = 0) (fun (u : Unit) (t : State) => wOut dC dI [] [(cI, .int)] (va_A [(xt, .inr (12, [.ref ah, .ref xe, .ref xf])), (ah, .inr (4, [.ref ac, .ref au, .ref ab, .ref an, .ref ak, .ref ad, .int 0, .int 0, .long 0])), (au, .inr (10, [.ref t1, .ref t2, .ref t3, .ref t4, .ref t5, .ref t6, .ref t7, .int 0, .int 0])), (t1, .inl (cI, 4, .inl (cn 0))), (t2, .inl (cI, 4, .inl (cn 10))), (t3, .inl (cI, 4, .inl (cn 10))), (t4, .inl (cI, 4, .inl (cn (-1)))), (t5, .inl (cI, 4, .inl (cn 0))), (t6, .inl (cI, 4, .inl (cn 0))), (t7, .inl (cI, 4, .inl (cn 110)))] sz) t) (va_A [(xt, .inr (12, [.ref ah, .ref xe, .ref xf])), (ah, .inr (4, [.ref ac, .ref au, .ref ab, .ref an, .ref ak, .ref ad, .int 0, .int 0, .long 0])), (au, .inr (10, [.ref t1, .ref t2, .ref t3, .ref t4, .ref t5, .ref t6, .ref t7, .int 0, .int 0])), (t1, .inl (cI, 4, .inl (cn 0))), (t2, .inl (cI, 4, .inl (cn 10))), (t3, .inl (cI, 4, .inl (cn 10))), (t4, .inl (cI, 4, .inl (cn (-1)))), (t5, .inl (cI, 4, .inl (cn 0))), (t6, .inl (cI, 4, .inl (cn 0))), (t7, .inl (cI, 4, .inl (cn 110)))] sz)) (vx_X (fun (_ : Unit) => True) (fun (E : String) (_ : Unit) (_ : State) => (E = "java/lang/IndexOutOfBoundsException" ∧ sp_X8_setTimer v1 v2 v3 v4 v5 = 1) ∨ (E = "java/lang/IllegalArgumentException" ∧ sp_X8_setTimer v1 v2 v3 v4 v5 = 2)) (va_A [(xt, .inr (12, [.ref ah, .ref xe, .ref xf])), (ah, .inr (4, [.ref ac, .ref au, .ref ab, .ref an, .ref ak, .ref ad, .int 0, .int 0, .long 0])), (au, .inr (10, [.ref t1, .ref t2, .ref t3, .ref t4, .ref t5, .ref t6, .ref t7, .int 0, .int 0])), (t1, .inl (cI, 4, .inl (cn 0))), (t2, .inl (cI, 4, .inl (cn 10))), (t3, .inl (cI, 4, .inl (cn 10))), (t4, .inl (cI, 4, .inl (cn (-1)))), (t5, .inl (cI, 4, .inl (cn 0))), (t6, .inl (cI, 4, .inl (cn 0))), (t7, .inl (cI, 4, .inl (cn 110)))] sz)) 1 6 (va_A [(xt, .inr (12, [.ref ah, .ref xe, .ref xf])), (ah, .inr (4, [.ref ac, .ref au, .ref ab, .ref an, .ref ak, .ref ad, .int 0, .int 0, .long 0])), (au, .inr (10, [.ref t1, .ref t2, .ref t3, .ref t4, .ref t5, .ref t6, .ref t7, .int 0, .int 0])), (t1, .inl (cI, 4, .inl (cn 0))), (t2, .inl (cI, 4, .inl (cn 10))), (t3, .inl (cI, 4, .inl (cn 10))), (t4, .inl (cI, 4, .inl (cn (-1)))), (t5, .inl (cI, 4, .inl (cn 0))), (t6, .inl (cI, 4, .inl (cn 0))), (t7, .inl (cI, 4, .inl (cn 110)))] sz) := by
  refine vx_ofW (cc := cX8_setTimer) (maxL := 8) (ret := (some .int)) (by decide) rfl ?_
  intro p e s m args below meth c s₁ B hml htab hv
  obtain ⟨rfl, hsz, hP, hK, hD0, hG⟩ := hv
  have hx := B.exec
  have hb := B.bytes
  have hr := B.returns
  have hts := atoms_spec (ws := wsX8_setTimer) B.pre
  have hown : s.vm.findClass RX8 = some m.cls := findClass_of_methodNamed B.named
  have hlocks := B.notSynchronized
  subst hsz
  have hD := hD0.self (sz := s.heap.size)
  generalize hAe : va_A [(xt, .inr (12, [.ref ah, .ref xe, .ref xf])), (ah, .inr (4, [.ref ac, .ref au, .ref ab, .ref an, .ref ak, .ref ad, .int 0, .int 0, .long 0])), (au, .inr (10, [.ref t1, .ref t2, .ref t3, .ref t4, .ref t5, .ref t6, .ref t7, .int 0, .int 0])), (t1, .inl (cI, 4, .inl (cn 0))), (t2, .inl (cI, 4, .inl (cn 10))), (t3, .inl (cI, 4, .inl (cn 10))), (t4, .inl (cI, 4, .inl (cn (-1)))), (t5, .inl (cI, 4, .inl (cn 0))), (t6, .inl (cI, 4, .inl (cn 0))), (t7, .inl (cI, 4, .inl (cn 110)))] s.heap.size = A at hD hG ⊢
  have hN := hG.1
  have hA : ∀ q : Nat, s.heap.size ≤ q → A q := fun q h => by rw [← hAe]; exact Or.inr h
  have hS : va_S A s.heap s.heap [] := va_S.rf
  have hP : va_P (dC, dI) vwCl [(xt, .inr (12, [.ref ah, .ref xe, .ref xf])), (ah, .inr (4, [.ref ac, .ref au, .ref ab, .ref an, .ref ak, .ref ad, .int 0, .int 0, .long 0])), (au, .inr (10, [.ref t1, .ref t2, .ref t3, .ref t4, .ref t5, .ref t6, .ref t7, .int 0, .int 0])), (t1, .inl (cI, 4, .inl (cn 0))), (t2, .inl (cI, 4, .inl (cn 10))), (t3, .inl (cI, 4, .inl (cn 10))), (t4, .inl (cI, 4, .inl (cn (-1)))), (t5, .inl (cI, 4, .inl (cn 0))), (t6, .inl (cI, 4, .inl (cn 0))), (t7, .inl (cI, 4, .inl (cn 110)))] s.heap := hP
  have hw0 : (Cond.classLink RX8 22 "java/lang/IndexOutOfBoundsException").before _ s = true := hts _ (List.mem_cons_of_mem _ (List.mem_append_left _ (List.mem_append_left _ (List.mem_append_left _ (List.mem_append_left _ (List.mem_append_left _ (List.mem_append_left _ (List.mem_of_getElem? (i := 0) rfl))))))))
  have hw1 : (Cond.initialized "java/lang/IndexOutOfBoundsException").before _ s = true := hts _ (List.mem_cons_of_mem _ (List.mem_append_left _ (List.mem_append_left _ (List.mem_append_left _ (List.mem_append_left _ (List.mem_append_left _ (List.mem_append_left _ (List.mem_of_getElem? (i := 1) rfl))))))))
  have hw2 : (Cond.classLink RX8 31 "java/lang/IllegalArgumentException").before _ s = true := hts _ (List.mem_cons_of_mem _ (List.mem_append_left _ (List.mem_append_left _ (List.mem_append_left _ (List.mem_append_left _ (List.mem_append_left _ (List.mem_append_left _ (List.mem_of_getElem? (i := 2) rfl))))))))
  have hw3 : (Cond.initialized "java/lang/IllegalArgumentException").before _ s = true := hts _ (List.mem_cons_of_mem _ (List.mem_append_left _ (List.mem_append_left _ (List.mem_append_left _ (List.mem_append_left _ (List.mem_append_left _ (List.mem_append_left _ (List.mem_of_getElem? (i := 3) rfl))))))))
  have hw4 : (Cond.fieldLink RX8 10 "Tickstation" "chip" "LTickstation$Chip;").before _ s = true := hts _ (List.mem_cons_of_mem _ (List.mem_append_left _ (List.mem_append_left _ (List.mem_append_left _ (List.mem_append_left _ (List.mem_append_left _ (List.mem_append_left _ (List.mem_of_getElem? (i := 4) rfl))))))))
  have hiX8 : ∀ w ∈ u_ws RX8 TX8 3, w ∈ wsX8_setTimer := fun _ h => List.mem_cons_of_mem _ (List.mem_append_left _ (List.mem_append_left _ (List.mem_append_left _ (List.mem_append_left _ (List.mem_append_left _ (List.mem_append_right _ (h)))))))
  have hw6 : (Cond.fieldLink RX8 63 "Tickstation$Chip" "timers" "LTickstation$Timers;").before _ s = true := hts _ (List.mem_cons_of_mem _ (List.mem_append_left _ (List.mem_append_left _ (List.mem_append_left _ (List.mem_append_left _ (List.mem_append_left _ (List.mem_append_left _ (List.mem_of_getElem? (i := 5) rfl))))))))
  have hiX0 : ∀ w ∈ u_ws RX0 TX0 9, w ∈ wsX8_setTimer := fun _ h => List.mem_cons_of_mem _ (List.mem_append_left _ (List.mem_append_left _ (List.mem_append_left _ (List.mem_append_left _ (List.mem_append_right _ (h))))))
  have hw8 : (Cond.fieldLink RX8 67 "Tickstation$Timers" "period" "[I").before _ s = true := hts _ (List.mem_cons_of_mem _ (List.mem_append_left _ (List.mem_append_left _ (List.mem_append_left _ (List.mem_append_left _ (List.mem_append_left _ (List.mem_append_left _ (List.mem_of_getElem? (i := 6) rfl))))))))
  have hiX6 : ∀ w ∈ u_ws RX6 TX6 9, w ∈ wsX8_setTimer := fun _ h => List.mem_cons_of_mem _ (List.mem_append_left _ (List.mem_append_left _ (List.mem_append_left _ (List.mem_append_right _ (h)))))
  have hw10 : (Cond.fieldLink RX8 72 "Tickstation$Timers" "clock" "[I").before _ s = true := hts _ (List.mem_cons_of_mem _ (List.mem_append_left _ (List.mem_append_left _ (List.mem_append_left _ (List.mem_append_left _ (List.mem_append_left _ (List.mem_append_left _ (List.mem_of_getElem? (i := 7) rfl))))))))
  have hw11 : (Cond.fieldLink RX8 75 "Tickstation$Timers" "compare" "[I").before _ s = true := hts _ (List.mem_cons_of_mem _ (List.mem_append_left _ (List.mem_append_left _ (List.mem_append_left _ (List.mem_append_left _ (List.mem_append_left _ (List.mem_append_left _ (List.mem_of_getElem? (i := 8) rfl))))))))
  have hw12 : (Cond.fieldLink RX8 78 "Tickstation$Timers" "once" "I").before _ s = true := hts _ (List.mem_cons_of_mem _ (List.mem_append_left _ (List.mem_append_left _ (List.mem_append_left _ (List.mem_append_left _ (List.mem_append_left _ (List.mem_append_left _ (List.mem_of_getElem? (i := 9) rfl))))))))
  have hw13 : (Cond.fieldLink RX8 81 "Tickstation$Timers" "linkedTo" "[I").before _ s = true := hts _ (List.mem_cons_of_mem _ (List.mem_append_left _ (List.mem_append_left _ (List.mem_append_left _ (List.mem_append_left _ (List.mem_append_left _ (List.mem_append_left _ (List.mem_of_getElem? (i := 10) rfl))))))))
  have hl := lv_entry ([.ref xt, .int v1, .int v2, .int v3, .int v4, .int v5]) (n := 8) (Nat.le_of_ble_eq_true rfl)
  rw [lg_entry_eq]
  generalize (lg_sl ([.ref xt, .int v1, .int v2, .int v3, .int v4, .int v5]) ++ List.replicate (8 - (lg_sl ([.ref xt, .int v1, .int v2, .int v3, .int v4, .int v5])).length) Slot.unset).toArray = ls at hl ⊢
  have hl : lv_has ls 8 [(0, .ref xt), (1, .int v1), (2, .int v2), (3, .int v3), (4, .int v4), (5, .int v5)] := hl
  refine lv_iload_n hx hb dX8_setTimer_0 rfl (lv_at hl 1 rfl) ?_
  refine lv_if_lt (tgt := 18) hx hb dX8_setTimer_1 (by decide) (fun c_1 => ?_) (fun c_1 => ?_)
  · obtain ⟨sa9, hstr9⟩ := hG.2.2.2.1 _ (List.mem_of_getElem? (i := 13) rfl)
    exact vx_throwS (sa := sa9) hx hb hl9 hown (by decide +kernel) (by decide +kernel) hw0 hw1 hstr9 (vx_hat (fun w hw => hts w (List.mem_cons_of_mem _ (List.mem_append_left _ (List.mem_append_left _ (List.mem_append_right _ (hw)))))) xh_26 (nw_use hN)) xg_26 hG.2.2.2.2.1 hG.2.2.2.2.2.1 hS (hl.1.trans hml.symm) dX8_setTimer_18 dX8_setTimer_21 dX8_setTimer_22 dX8_setTimer_24 dX8_setTimer_27 (fun x9 hx9 => (htab x9 hx9).elim) (by decide) (by decide) (Nat.le_of_ble_eq_true rfl) (Nat.le_of_ble_eq_true rfl) hlocks (fun t hal hle hq => ⟨(), trivial, Or.inl ⟨rfl, (by unfold sp_X8_setTimer; rw [if_pos c_1])⟩, ⟨Nat.le_trans hS.1 hle, fun q h1 h2 => (hq q (Nat.lt_of_lt_of_le h1 hS.1)).trans (hS.2.1 q h1 h2)⟩⟩) hS.2.2 (Nat.le_of_ble_eq_true rfl) (Nat.le_of_ble_eq_true rfl)
  · refine lv_iload_n hx hb dX8_setTimer_4 rfl (lv_at hl 1 rfl) ?_
    refine lv_iconst (v := 4) hx hb dX8_setTimer_5 (by decide) ?_
    refine lv_icmp_ge (tgt := 18) hx hb dX8_setTimer_6 (by decide) (fun c_6 => ?_) (fun c_6 => ?_)
    · obtain ⟨sa9, hstr9⟩ := hG.2.2.2.1 _ (List.mem_of_getElem? (i := 13) rfl)
      exact vx_throwS (sa := sa9) hx hb hl9 hown (by decide +kernel) (by decide +kernel) hw0 hw1 hstr9 (vx_hat (fun w hw => hts w (List.mem_cons_of_mem _ (List.mem_append_left _ (List.mem_append_left _ (List.mem_append_right _ (hw)))))) xh_26 (nw_use hN)) xg_26 hG.2.2.2.2.1 hG.2.2.2.2.2.1 hS (hl.1.trans hml.symm) dX8_setTimer_18 dX8_setTimer_21 dX8_setTimer_22 dX8_setTimer_24 dX8_setTimer_27 (fun x9 hx9 => (htab x9 hx9).elim) (by decide) (by decide) (Nat.le_of_ble_eq_true rfl) (Nat.le_of_ble_eq_true rfl) hlocks (fun t hal hle hq => ⟨(), trivial, Or.inl ⟨rfl, (by unfold sp_X8_setTimer; rw [if_neg c_1, if_pos c_6])⟩, ⟨Nat.le_trans hS.1 hle, fun q h1 h2 => (hq q (Nat.lt_of_lt_of_le h1 hS.1)).trans (hS.2.1 q h1 h2)⟩⟩) hS.2.2 (Nat.le_of_ble_eq_true rfl) (Nat.le_of_ble_eq_true rfl)
    · refine lv_iload_n hx hb dX8_setTimer_9 rfl (lv_at hl 2 rfl) ?_
      refine lv_if_lt (tgt := 18) hx hb dX8_setTimer_10 (by decide) (fun c_10 => ?_) (fun c_10 => ?_)
      · obtain ⟨sa9, hstr9⟩ := hG.2.2.2.1 _ (List.mem_of_getElem? (i := 13) rfl)
        exact vx_throwS (sa := sa9) hx hb hl9 hown (by decide +kernel) (by decide +kernel) hw0 hw1 hstr9 (vx_hat (fun w hw => hts w (List.mem_cons_of_mem _ (List.mem_append_left _ (List.mem_append_left _ (List.mem_append_right _ (hw)))))) xh_26 (nw_use hN)) xg_26 hG.2.2.2.2.1 hG.2.2.2.2.2.1 hS (hl.1.trans hml.symm) dX8_setTimer_18 dX8_setTimer_21 dX8_setTimer_22 dX8_setTimer_24 dX8_setTimer_27 (fun x9 hx9 => (htab x9 hx9).elim) (by decide) (by decide) (Nat.le_of_ble_eq_true rfl) (Nat.le_of_ble_eq_true rfl) hlocks (fun t hal hle hq => ⟨(), trivial, Or.inl ⟨rfl, (by unfold sp_X8_setTimer; rw [if_neg c_1, if_neg c_6, if_pos c_10])⟩, ⟨Nat.le_trans hS.1 hle, fun q h1 h2 => (hq q (Nat.lt_of_lt_of_le h1 hS.1)).trans (hS.2.1 q h1 h2)⟩⟩) hS.2.2 (Nat.le_of_ble_eq_true rfl) (Nat.le_of_ble_eq_true rfl)
      · refine lv_iload_n hx hb dX8_setTimer_13 rfl (lv_at hl 2 rfl) ?_
        refine lv_iconst (v := 4) hx hb dX8_setTimer_14 (by decide) ?_
        refine lv_icmp_lt (tgt := 28) hx hb dX8_setTimer_15 (by decide) (fun c_15 => ?_) (fun c_15 => ?_)
        · refine lv_iload_n hx hb dX8_setTimer_28 rfl (lv_at hl 3 rfl) ?_
          refine lv_iconst (v := 1) hx hb dX8_setTimer_29 (by decide) ?_
          refine lv_icmp_lt (tgt := 54) hx hb dX8_setTimer_30 (by decide) (fun c_30 => ?_) (fun c_30 => ?_)
          · obtain ⟨sa9, hstr9⟩ := hG.2.2.2.1 _ (List.mem_of_getElem? (i := 14) rfl)
            exact vx_throwS (sa := sa9) hx hb hl9 hown (by decide +kernel) (by decide +kernel) hw2 hw3 hstr9 (vx_hat (fun w hw => hts w (List.mem_cons_of_mem _ (List.mem_append_left _ (List.mem_append_right _ (hw))))) xh_35 (nw_use hN)) xg_35 hG.2.2.2.2.1 hG.2.2.2.2.2.1 hS (hl.1.trans hml.symm) dX8_setTimer_54 dX8_setTimer_57 dX8_setTimer_58 dX8_setTimer_60 dX8_setTimer_63 (fun x9 hx9 => (htab x9 hx9).elim) (by decide) (by decide) (Nat.le_of_ble_eq_true rfl) (Nat.le_of_ble_eq_true rfl) hlocks (fun t hal hle hq => ⟨(), trivial, Or.inr (⟨rfl, (by unfold sp_X8_setTimer; rw [if_neg c_1, if_neg c_6, if_neg c_10, if_pos c_15, if_pos c_30])⟩), ⟨Nat.le_trans hS.1 hle, fun q h1 h2 => (hq q (Nat.lt_of_lt_of_le h1 hS.1)).trans (hS.2.1 q h1 h2)⟩⟩) hS.2.2 (Nat.le_of_ble_eq_true rfl) (Nat.le_of_ble_eq_true rfl)
          · refine lv_iload_n hx hb dX8_setTimer_33 rfl (lv_at hl 3 rfl) ?_
            refine lv_sipush (v := 200) hx hb dX8_setTimer_34 (by decide) ?_
            refine lv_icmp_gt (tgt := 54) hx hb dX8_setTimer_37 (by decide) (fun c_37 => ?_) (fun c_37 => ?_)
            · obtain ⟨sa9, hstr9⟩ := hG.2.2.2.1 _ (List.mem_of_getElem? (i := 14) rfl)
              exact vx_throwS (sa := sa9) hx hb hl9 hown (by decide +kernel) (by decide +kernel) hw2 hw3 hstr9 (vx_hat (fun w hw => hts w (List.mem_cons_of_mem _ (List.mem_append_left _ (List.mem_append_right _ (hw))))) xh_35 (nw_use hN)) xg_35 hG.2.2.2.2.1 hG.2.2.2.2.2.1 hS (hl.1.trans hml.symm) dX8_setTimer_54 dX8_setTimer_57 dX8_setTimer_58 dX8_setTimer_60 dX8_setTimer_63 (fun x9 hx9 => (htab x9 hx9).elim) (by decide) (by decide) (Nat.le_of_ble_eq_true rfl) (Nat.le_of_ble_eq_true rfl) hlocks (fun t hal hle hq => ⟨(), trivial, Or.inr (⟨rfl, (by unfold sp_X8_setTimer; rw [if_neg c_1, if_neg c_6, if_neg c_10, if_pos c_15, if_neg c_30, if_pos c_37])⟩), ⟨Nat.le_trans hS.1 hle, fun q h1 h2 => (hq q (Nat.lt_of_lt_of_le h1 hS.1)).trans (hS.2.1 q h1 h2)⟩⟩) hS.2.2 (Nat.le_of_ble_eq_true rfl) (Nat.le_of_ble_eq_true rfl)
            · refine lv_iload hx hb dX8_setTimer_40 (lv_at hl 4 rfl) ?_
              refine lv_iconst (v := 1) hx hb dX8_setTimer_42 (by decide) ?_
              refine lv_icmp_lt (tgt := 54) hx hb dX8_setTimer_43 (by decide) (fun c_43 => ?_) (fun c_43 => ?_)
              · obtain ⟨sa9, hstr9⟩ := hG.2.2.2.1 _ (List.mem_of_getElem? (i := 14) rfl)
                exact vx_throwS (sa := sa9) hx hb hl9 hown (by decide +kernel) (by decide +kernel) hw2 hw3 hstr9 (vx_hat (fun w hw => hts w (List.mem_cons_of_mem _ (List.mem_append_left _ (List.mem_append_right _ (hw))))) xh_35 (nw_use hN)) xg_35 hG.2.2.2.2.1 hG.2.2.2.2.2.1 hS (hl.1.trans hml.symm) dX8_setTimer_54 dX8_setTimer_57 dX8_setTimer_58 dX8_setTimer_60 dX8_setTimer_63 (fun x9 hx9 => (htab x9 hx9).elim) (by decide) (by decide) (Nat.le_of_ble_eq_true rfl) (Nat.le_of_ble_eq_true rfl) hlocks (fun t hal hle hq => ⟨(), trivial, Or.inr (⟨rfl, (by unfold sp_X8_setTimer; rw [if_neg c_1, if_neg c_6, if_neg c_10, if_pos c_15, if_neg c_30, if_neg c_37, if_pos c_43])⟩), ⟨Nat.le_trans hS.1 hle, fun q h1 h2 => (hq q (Nat.lt_of_lt_of_le h1 hS.1)).trans (hS.2.1 q h1 h2)⟩⟩) hS.2.2 (Nat.le_of_ble_eq_true rfl) (Nat.le_of_ble_eq_true rfl)
              · refine lv_iload hx hb dX8_setTimer_46 (lv_at hl 4 rfl) ?_
                refine lv_sipush (v := 200) hx hb dX8_setTimer_48 (by decide) ?_
                refine lv_icmp_le (tgt := 64) hx hb dX8_setTimer_51 (by decide) (fun c_51 => ?_) (fun c_51 => ?_)
                · refine lv_iload hx hb dX8_setTimer_64 (lv_at hl 5 rfl) ?_
                  refine lv_bipush (v := 114) hx hb dX8_setTimer_66 (by decide) ?_
                  refine lv_icmp_eq (tgt := 88) hx hb dX8_setTimer_68 (by decide) (fun c_68 => ?_) (fun c_68 => ?_)
                  · refine lv_aload_n hx hb dX8_setTimer_88 rfl (lv_at hl 0 rfl) ?_
                    refine va_get (D := (dC, dI)) (ci := 12) (v := .ref ah) (C := RX8) (T := TX8) (N := 3) hx hb hts hiX8 hown hK hP 0 rfl rfl 0 (by decide) (hw4) (fun _ h9 => h9) rfl dX8_setTimer_89 ?_
                    refine va_get (D := (dC, dI)) (ci := 4) (v := .ref au) (C := RX0) (T := TX0) (N := 9) hx hb hts hiX0 hown hK hP 1 rfl rfl 1 (by decide) (hw6) (fun _ h9 => h9) rfl dX8_setTimer_92 ?_
                    refine lv_astore (lv' := [(6, .ref au), (0, .ref xt), (1, .int v1), (2, .int v2), (3, .int v3), (4, .int v4), (5, .int v5)]) hx hb dX8_setTimer_95 hl (by decide) rfl (fun ls hl => ?_)
                    refine lv_aload hx hb dX8_setTimer_97 (lv_at hl 0 rfl) ?_
                    refine va_get (D := (dC, dI)) (ci := 10) (v := .ref t2) (C := RX6) (T := TX6) (N := 9) hx hb hts hiX6 hown hK hP 2 rfl rfl 1 (by decide) (hw8) (fun _ h9 => h9) rfl dX8_setTimer_99 ?_
                    refine lv_iload_n hx hb dX8_setTimer_102 rfl (lv_at hl 2 rfl) ?_
                    refine va_iald (D := (dC, dI)) hx hb hK hP 4 0 rfl rfl (vp_in_iff.mpr ⟨i_l0 c_1, i_v4 c_6⟩) dX8_setTimer_103 ?_
                    refine lt_ci (y := 10) rfl ?_
                    refine lv_istore (lv' := [(7, .int 10), (6, .ref au), (0, .ref xt), (1, .int v1), (2, .int v2), (3, .int v3), (4, .int v4), (5, .int v5)]) hx hb dX8_setTimer_104 hl (by decide) rfl (fun ls hl => ?_)
                    refine lv_aload hx hb dX8_setTimer_106 (lv_at hl 1 rfl) ?_
                    refine va_get (D := (dC, dI)) (ci := 10) (v := .ref t1) (C := RX6) (T := TX6) (N := 9) hx hb hts hiX6 hown hK hP 2 rfl rfl 0 (by decide) (hw10) (fun _ h9 => h9) rfl dX8_setTimer_108 ?_
                    refine lv_iload_n hx hb dX8_setTimer_111 rfl (lv_at hl 3 rfl) ?_
                    refine lv_iload_n hx hb dX8_setTimer_112 rfl (lv_at hl 4 rfl) ?_
                    refine va_iast (D := (dC, dI)) hx hb hK hP hD hS 3 0 rfl rfl (vp_in_iff.mpr ⟨i_l0 c_1, i_v4 c_6⟩) dX8_setTimer_113 (fun H locs hP hD hS => ?_)
                    have hP : va_P (dC, dI) vwCl [(xt, .inr (12, [.ref ah, .ref xe, .ref xf])), (ah, .inr (4, [.ref ac, .ref au, .ref ab, .ref an, .ref ak, .ref ad, .int 0, .int 0, .long 0])), (au, .inr (10, [.ref t1, .ref t2, .ref t3, .ref t4, .ref t5, .ref t6, .ref t7, .int 0, .int 0])), (t1, .inl (cI, 4, .inl (upd (cn 0) (v1).toNatClampNeg v2))), (t2, .inl (cI, 4, .inl (cn 10))), (t3, .inl (cI, 4, .inl (cn 10))), (t4, .inl (cI, 4, .inl (cn (-1)))), (t5, .inl (cI, 4, .inl (cn 0))), (t6, .inl (cI, 4, .inl (cn 0))), (t7, .inl (cI, 4, .inl (cn 110)))] H := hP
                    have hD : va_D A [(xt, .inr (12, [.ref ah, .ref xe, .ref xf])), (ah, .inr (4, [.ref ac, .ref au, .ref ab, .ref an, .ref ak, .ref ad, .int 0, .int 0, .long 0])), (au, .inr (10, [.ref t1, .ref t2, .ref t3, .ref t4, .ref t5, .ref t6, .ref t7, .int 0, .int 0])), (t1, .inl (cI, 4, .inl (upd (cn 0) (v1).toNatClampNeg v2))), (t2, .inl (cI, 4, .inl (cn 10))), (t3, .inl (cI, 4, .inl (cn 10))), (t4, .inl (cI, 4, .inl (cn (-1)))), (t5, .inl (cI, 4, .inl (cn 0))), (t6, .inl (cI, 4, .inl (cn 0))), (t7, .inl (cI, 4, .inl (cn 110)))] := hD
                    refine lv_aload hx hb dX8_setTimer_114 (lv_at hl 1 rfl) ?_
                    refine va_get (D := (dC, dI)) (ci := 10) (v := .ref t2) (C := RX6) (T := TX6) (N := 9) hx hb hts hiX6 hown hK hP 2 rfl rfl 1 (by decide) (hw8) (fun _ h9 => h9) rfl dX8_setTimer_116 ?_
                    refine lv_iload_n hx hb dX8_setTimer_119 rfl (lv_at hl 3 rfl) ?_
                    refine lv_iload_n hx hb dX8_setTimer_120 rfl (lv_at hl 5 rfl) ?_
                    refine va_iast (D := (dC, dI)) hx hb hK hP hD hS 4 0 rfl rfl (vp_in_iff.mpr ⟨i_l0 c_1, i_v4 c_6⟩) dX8_setTimer_121 (fun H locs hP hD hS => ?_)
                    have hP : va_P (dC, dI) vwCl [(xt, .inr (12, [.ref ah, .ref xe, .ref xf])), (ah, .inr (4, [.ref ac, .ref au, .ref ab, .ref an, .ref ak, .ref ad, .int 0, .int 0, .long 0])), (au, .inr (10, [.ref t1, .ref t2, .ref t3, .ref t4, .ref t5, .ref t6, .ref t7, .int 0, .int 0])), (t1, .inl (cI, 4, .inl (upd (cn 0) (v1).toNatClampNeg v2))), (t2, .inl (cI, 4, .inl (upd (cn 10) (v1).toNatClampNeg v3))), (t3, .inl (cI, 4, .inl (cn 10))), (t4, .inl (cI, 4, .inl (cn (-1)))), (t5, .inl (cI, 4, .inl (cn 0))), (t6, .inl (cI, 4, .inl (cn 0))), (t7, .inl (cI, 4, .inl (cn 110)))] H := hP
                    have hD : va_D A [(xt, .inr (12, [.ref ah, .ref xe, .ref xf])), (ah, .inr (4, [.ref ac, .ref au, .ref ab, .ref an, .ref ak, .ref ad, .int 0, .int 0, .long 0])), (au, .inr (10, [.ref t1, .ref t2, .ref t3, .ref t4, .ref t5, .ref t6, .ref t7, .int 0, .int 0])), (t1, .inl (cI, 4, .inl (upd (cn 0) (v1).toNatClampNeg v2))), (t2, .inl (cI, 4, .inl (upd (cn 10) (v1).toNatClampNeg v3))), (t3, .inl (cI, 4, .inl (cn 10))), (t4, .inl (cI, 4, .inl (cn (-1)))), (t5, .inl (cI, 4, .inl (cn 0))), (t6, .inl (cI, 4, .inl (cn 0))), (t7, .inl (cI, 4, .inl (cn 110)))] := hD
                    refine lv_aload hx hb dX8_setTimer_122 (lv_at hl 1 rfl) ?_
                    refine va_get (D := (dC, dI)) (ci := 10) (v := .ref t3) (C := RX6) (T := TX6) (N := 9) hx hb hts hiX6 hown hK hP 2 rfl rfl 2 (by decide) (hw11) (fun _ h9 => h9) rfl dX8_setTimer_124 ?_
                    refine lv_iload_n hx hb dX8_setTimer_127 rfl (lv_at hl 3 rfl) ?_
                    refine lv_iload hx hb dX8_setTimer_128 (lv_at hl 6 rfl) ?_
                    refine va_iast (D := (dC, dI)) hx hb hK hP hD hS 5 0 rfl rfl (vp_in_iff.mpr ⟨i_l0 c_1, i_v4 c_6⟩) dX8_setTimer_130 (fun H locs hP hD hS => ?_)
                    have hP : va_P (dC, dI) vwCl [(xt, .inr (12, [.ref ah, .ref xe, .ref xf])), (ah, .inr (4, [.ref ac, .ref au, .ref ab, .ref an, .ref ak, .ref ad, .int 0, .int 0, .long 0])), (au, .inr (10, [.ref t1, .ref t2, .ref t3, .ref t4, .ref t5, .ref t6, .ref t7, .int 0, .int 0])), (t1, .inl (cI, 4, .inl (upd (cn 0) (v1).toNatClampNeg v2))), (t2, .inl (cI, 4, .inl (upd (cn 10) (v1).toNatClampNeg v3))), (t3, .inl (cI, 4, .inl (upd (cn 10) (v1).toNatClampNeg v4))), (t4, .inl (cI, 4, .inl (cn (-1)))), (t5, .inl (cI, 4, .inl (cn 0))), (t6, .inl (cI, 4, .inl (cn 0))), (t7, .inl (cI, 4, .inl (cn 110)))] H := hP
                    have hD : va_D A [(xt, .inr (12, [.ref ah, .ref xe, .ref xf])), (ah, .inr (4, [.ref ac, .ref au, .ref ab, .ref an, .ref ak, .ref ad, .int 0, .int 0, .long 0])), (au, .inr (10, [.ref t1, .ref t2, .ref t3, .ref t4, .ref t5, .ref t6, .ref t7, .int 0, .int 0])), (t1, .inl (cI, 4, .inl (upd (cn 0) (v1).toNatClampNeg v2))), (t2, .inl (cI, 4, .inl (upd (cn 10) (v1).toNatClampNeg v3))), (t3, .inl (cI, 4, .inl (upd (cn 10) (v1).toNatClampNeg v4))), (t4, .inl (cI, 4, .inl (cn (-1)))), (t5, .inl (cI, 4, .inl (cn 0))), (t6, .inl (cI, 4, .inl (cn 0))), (t7, .inl (cI, 4, .inl (cn 110)))] := hD
                    refine lv_aload hx hb dX8_setTimer_131 (lv_at hl 1 rfl) ?_
                    refine lv_aload hx hb dX8_setTimer_133 (lv_at hl 1 rfl) ?_
                    refine va_get (D := (dC, dI)) (ci := 10) (v := .int 0) (C := RX6) (T := TX6) (N := 9) hx hb hts hiX6 hown hK hP 2 rfl rfl 7 (by decide) (hw12) (fun _ h9 => h9) rfl dX8_setTimer_135 ?_
                    refine lv_iload_n hx hb dX8_setTimer_138 rfl (lv_at hl 3 rfl) ?_
                    refine lv_iload hx hb dX8_setTimer_139 (lv_at hl 7 rfl) ?_
                    refine lv_bipush (v := 111) hx hb dX8_setTimer_141 (by decide) ?_
                    refine lv_icmp_ne (tgt := 150) hx hb dX8_setTimer_143 (by decide) (fun _ => ?_) (fun c => absurd c (by rw [c_68]; decide))
                    refine lv_iconst (v := 0) hx hb dX8_setTimer_150 (by decide) ?_
                    have hPc := hP.sub (ws' := []) [] rfl
                    have hDc := hD.sub (ws' := []) [] (by decide) rfl
                    have hKc := hK.sub (tys' := []) [] rfl
                    have hFc := va_free (wc := []) hD hS hA [] rfl
                    refine va_calli (va_runS (As := [.int 0, .int v1, .int 0]) (rest := [.ref au]) ⟨hx, hb, hml, hown, hts⟩ (c_X8_withBit_0 l dC dI g 0 v1 H.size) (va_cwS 3 hts gX8_setTimer_X8_withBit rfl rfl rfl (by decide +kernel) ⟨Nat.le_of_ble_eq_true rfl, Nat.le_of_ble_eq_true rfl⟩) ⟨wIn_blind, wIn_at hPc hKc hDc hG hS hFc⟩ rfl rfl hl.1 rfl (lv_room (Nat.le_of_ble_eq_true rfl)) dX8_setTimer_151 ⟨Nat.le_of_ble_eq_true rfl, Nat.le_of_ble_eq_true rfl⟩) hS (fun q _ h => hFc q h) hFc (fun r_1 u t H1 locs ht hvm hw hB hz1 hk1 hS => ?_)
                    obtain ⟨hP1, hK1, hD1⟩ := hB
                    rw [ht] at hP1
                    obtain ⟨hP, hD⟩ := va_join (wr := [(xt, .inr (12, [.ref ah, .ref xe, .ref xf])), (ah, .inr (4, [.ref ac, .ref au, .ref ab, .ref an, .ref ak, .ref ad, .int 0, .int 0, .long 0])), (au, .inr (10, [.ref t1, .ref t2, .ref t3, .ref t4, .ref t5, .ref t6, .ref t7, .int 0, .int 0])), (t1, .inl (cI, 4, .inl (upd (cn 0) (v1).toNatClampNeg v2))), (t2, .inl (cI, 4, .inl (upd (cn 10) (v1).toNatClampNeg v3))), (t3, .inl (cI, 4, .inl (upd (cn 10) (v1).toNatClampNeg v4))), (t4, .inl (cI, 4, .inl (cn (-1)))), (t5, .inl (cI, 4, .inl (cn 0))), (t6, .inl (cI, 4, .inl (cn 0))), (t7, .inl (cI, 4, .inl (cn 110)))]) (w1 := []) hP hD [] [0, 1, 2, 3, 4, 5, 6, 7, 8, 9] rfl rfl (by decide) (by decide) hk1 hFc hP1 hD1
                    generalize H1 = H at hP hS ⊢
                    have hP : va_P (dC, dI) vwCl [(xt, .inr (12, [.ref ah, .ref xe, .ref xf])), (ah, .inr (4, [.ref ac, .ref au, .ref ab, .ref an, .ref ak, .ref ad, .int 0, .int 0, .long 0])), (au, .inr (10, [.ref t1, .ref t2, .ref t3, .ref t4, .ref t5, .ref t6, .ref t7, .int 0, .int 0])), (t1, .inl (cI, 4, .inl (upd (cn 0) (v1).toNatClampNeg v2))), (t2, .inl (cI, 4, .inl (upd (cn 10) (v1).toNatClampNeg v3))), (t3, .inl (cI, 4, .inl (upd (cn 10) (v1).toNatClampNeg v4))), (t4, .inl (cI, 4, .inl (cn (-1)))), (t5, .inl (cI, 4, .inl (cn 0))), (t6, .inl (cI, 4, .inl (cn 0))), (t7, .inl (cI, 4, .inl (cn 110)))] H := hP
                    have hD : va_D A [(xt, .inr (12, [.ref ah, .ref xe, .ref xf])), (ah, .inr (4, [.ref ac, .ref au, .ref ab, .ref an, .ref ak, .ref ad, .int 0, .int 0, .long 0])), (au, .inr (10, [.ref t1, .ref t2, .ref t3, .ref t4, .ref t5, .ref t6, .ref t7, .int 0, .int 0])), (t1, .inl (cI, 4, .inl (upd (cn 0) (v1).toNatClampNeg v2))), (t2, .inl (cI, 4, .inl (upd (cn 10) (v1).toNatClampNeg v3))), (t3, .inl (cI, 4, .inl (upd (cn 10) (v1).toNatClampNeg v4))), (t4, .inl (cI, 4, .inl (cn (-1)))), (t5, .inl (cI, 4, .inl (cn 0))), (t6, .inl (cI, 4, .inl (cn 0))), (t7, .inl (cI, 4, .inl (cn 110)))] := hD
                    refine lt_ci (y := ((0 : Int32) &&& (((1 : Int32) <<< (v1 &&& 31)) ^^^ (-1)))) hw ?_
                    refine va_put (D := (dC, dI)) (ci := 10) (v := .int ((0 : Int32) &&& (((1 : Int32) <<< (v1 &&& 31)) ^^^ (-1)))) (ty := .int) (C := RX6) (T := TX6) (N := 9) hx hb hts hiX6 tyX6 tyX6_ok nmX6 hown hK hP hD hS 2 rfl rfl 7 (by decide) (hw12) (fun _ h9 => h9) rfl (by decide +kernel) rfl rfl (Nat.le_of_ble_eq_true rfl) dX8_setTimer_154 (fun H locs hP hD hS => ?_)
                    have hP : va_P (dC, dI) vwCl [(xt, .inr (12, [.ref ah, .ref xe, .ref xf])), (ah, .inr (4, [.ref ac, .ref au, .ref ab, .ref an, .ref ak, .ref ad, .int 0, .int 0, .long 0])), (au, .inr (10, [.ref t1, .ref t2, .ref t3, .ref t4, .ref t5, .ref t6, .ref t7, .int ((0 : Int32) &&& (((1 : Int32) <<< (v1 &&& 31)) ^^^ (-1))), .int 0])), (t1, .inl (cI, 4, .inl (upd (cn 0) (v1).toNatClampNeg v2))), (t2, .inl (cI, 4, .inl (upd (cn 10) (v1).toNatClampNeg v3))), (t3, .inl (cI, 4, .inl (upd (cn 10) (v1).toNatClampNeg v4))), (t4, .inl (cI, 4, .inl (cn (-1)))), (t5, .inl (cI, 4, .inl (cn 0))), (t6, .inl (cI, 4, .inl (cn 0))), (t7, .inl (cI, 4, .inl (cn 110)))] H := hP
                    have hD : va_D A [(xt, .inr (12, [.ref ah, .ref xe, .ref xf])), (ah, .inr (4, [.ref ac, .ref au, .ref ab, .ref an, .ref ak, .ref ad, .int 0, .int 0, .long 0])), (au, .inr (10, [.ref t1, .ref t2, .ref t3, .ref t4, .ref t5, .ref t6, .ref t7, .int ((0 : Int32) &&& (((1 : Int32) <<< (v1 &&& 31)) ^^^ (-1))), .int 0])), (t1, .inl (cI, 4, .inl (upd (cn 0) (v1).toNatClampNeg v2))), (t2, .inl (cI, 4, .inl (upd (cn 10) (v1).toNatClampNeg v3))), (t3, .inl (cI, 4, .inl (upd (cn 10) (v1).toNatClampNeg v4))), (t4, .inl (cI, 4, .inl (cn (-1)))), (t5, .inl (cI, 4, .inl (cn 0))), (t6, .inl (cI, 4, .inl (cn 0))), (t7, .inl (cI, 4, .inl (cn 110)))] := hD
                    refine lv_aload hx hb dX8_setTimer_157 (lv_at hl 1 rfl) ?_
                    refine va_get (D := (dC, dI)) (ci := 10) (v := .ref t4) (C := RX6) (T := TX6) (N := 9) hx hb hts hiX6 hown hK hP 2 rfl rfl 3 (by decide) (hw13) (fun _ h9 => h9) rfl dX8_setTimer_159 ?_
                    refine lv_iload_n hx hb dX8_setTimer_162 rfl (lv_at hl 3 rfl) ?_
                    refine lv_iconst (v := (-1)) hx hb dX8_setTimer_163 (by decide) ?_
                    refine va_iast (D := (dC, dI)) hx hb hK hP hD hS 6 0 rfl rfl (vp_in_iff.mpr ⟨i_l0 c_1, i_v4 c_6⟩) dX8_setTimer_164 (fun H locs hP hD hS => ?_)
                    have hP : va_P (dC, dI) vwCl [(xt, .inr (12, [.ref ah, .ref xe, .ref xf])), (ah, .inr (4, [.ref ac, .ref au, .ref ab, .ref an, .ref ak, .ref ad, .int 0, .int 0, .long 0])), (au, .inr (10, [.ref t1, .ref t2, .ref t3, .ref t4, .ref t5, .ref t6, .ref t7, .int ((0 : Int32) &&& (((1 : Int32) <<< (v1 &&& 31)) ^^^ (-1))), .int 0])), (t1, .inl (cI, 4, .inl (upd (cn 0) (v1).toNatClampNeg v2))), (t2, .inl (cI, 4, .inl (upd (cn 10) (v1).toNatClampNeg v3))), (t3, .inl (cI, 4, .inl (upd (cn 10) (v1).toNatClampNeg v4))), (t4, .inl (cI, 4, .inl (upd (cn (-1)) (v1).toNatClampNeg (-1)))), (t5, .inl (cI, 4, .inl (cn 0))), (t6, .inl (cI, 4, .inl (cn 0))), (t7, .inl (cI, 4, .inl (cn 110)))] H := hP
                    have hD : va_D A [(xt, .inr (12, [.ref ah, .ref xe, .ref xf])), (ah, .inr (4, [.ref ac, .ref au, .ref ab, .ref an, .ref ak, .ref ad, .int 0, .int 0, .long 0])), (au, .inr (10, [.ref t1, .ref t2, .ref t3, .ref t4, .ref t5, .ref t6, .ref t7, .int ((0 : Int32) &&& (((1 : Int32) <<< (v1 &&& 31)) ^^^ (-1))), .int 0])), (t1, .inl (cI, 4, .inl (upd (cn 0) (v1).toNatClampNeg v2))), (t2, .inl (cI, 4, .inl (upd (cn 10) (v1).toNatClampNeg v3))), (t3, .inl (cI, 4, .inl (upd (cn 10) (v1).toNatClampNeg v4))), (t4, .inl (cI, 4, .inl (upd (cn (-1)) (v1).toNatClampNeg (-1)))), (t5, .inl (cI, 4, .inl (cn 0))), (t6, .inl (cI, 4, .inl (cn 0))), (t7, .inl (cI, 4, .inl (cn 110)))] := hD
                    refine lv_iload hx hb dX8_setTimer_165 (lv_at hl 0 rfl) ?_
                    have hP9 := hP.sub (ws' := []) [] rfl
                    have hD9 := hD.sub (ws' := []) [] (by decide) rfl
                    have hK9 := hK.sub (tys' := [(cI, .int)]) [0] rfl
                    refine W.widen (k := 1) (n := 6) (Nat.le_of_ble_eq_true rfl) (Nat.le_of_ble_eq_true rfl) ?_
                    refine vx_ret ?_
                    exact W.iret (v := 10) hx hb hr (fun t ht hW => ⟨⟨10, (), rfl, ⟨rfl, (by unfold sp_X8_setTimer; rw [if_neg c_1, if_neg c_6, if_neg c_10, if_pos c_15, if_neg c_30, if_neg c_37, if_neg c_43, if_pos c_51, if_pos c_68])⟩, wOut_at ht hW hP9 hK9 hD9⟩, hS.F ht⟩) hS.2.2 dX8_setTimer_167
                  · refine lv_iload hx hb dX8_setTimer_71 (lv_at hl 5 rfl) ?_
                    refine lv_bipush (v := 111) hx hb dX8_setTimer_73 (by decide) ?_
                    refine lv_icmp_eq (tgt := 88) hx hb dX8_setTimer_75 (by decide) (fun c_75 => ?_) (fun c_75 => ?_)
                    · refine lv_aload_n hx hb dX8_setTimer_88 rfl (lv_at hl 0 rfl) ?_
                      refine va_get (D := (dC, dI)) (ci := 12) (v := .ref ah) (C := RX8) (T := TX8) (N := 3) hx hb hts hiX8 hown hK hP 0 rfl rfl 0 (by decide) (hw4) (fun _ h9 => h9) rfl dX8_setTimer_89 ?_
                      refine va_get (D := (dC, dI)) (ci := 4) (v := .ref au) (C := RX0) (T := TX0) (N := 9) hx hb hts hiX0 hown hK hP 1 rfl rfl 1 (by decide) (hw6) (fun _ h9 => h9) rfl dX8_setTimer_92 ?_
                      refine lv_astore (lv' := [(6, .ref au), (0, .ref xt), (1, .int v1), (2, .int v2), (3, .int v3), (4, .int v4), (5, .int v5)]) hx hb dX8_setTimer_95 hl (by decide) rfl (fun ls hl => ?_)
                      refine lv_aload hx hb dX8_setTimer_97 (lv_at hl 0 rfl) ?_
                      refine va_get (D := (dC, dI)) (ci := 10) (v := .ref t2) (C := RX6) (T := TX6) (N := 9) hx hb hts hiX6 hown hK hP 2 rfl rfl 1 (by decide) (hw8) (fun _ h9 => h9) rfl dX8_setTimer_99 ?_
                      refine lv_iload_n hx hb dX8_setTimer_102 rfl (lv_at hl 2 rfl) ?_
                      refine va_iald (D := (dC, dI)) hx hb hK hP 4 0 rfl rfl (vp_in_iff.mpr ⟨i_l0 c_1, i_v4 c_6⟩) dX8_setTimer_103 ?_
                      refine lt_ci (y := 10) rfl ?_
                      refine lv_istore (lv' := [(7, .int 10), (6, .ref au), (0, .ref xt), (1, .int v1), (2, .int v2), (3, .int v3), (4, .int v4), (5, .int v5)]) hx hb dX8_setTimer_104 hl (by decide) rfl (fun ls hl => ?_)
                      refine lv_aload hx hb dX8_setTimer_106 (lv_at hl 1 rfl) ?_
                      refine va_get (D := (dC, dI)) (ci := 10) (v := .ref t1) (C := RX6) (T := TX6) (N := 9) hx hb hts hiX6 hown hK hP 2 rfl rfl 0 (by decide) (hw10) (fun _ h9 => h9) rfl dX8_setTimer_108 ?_
                      refine lv_iload_n hx hb dX8_setTimer_111 rfl (lv_at hl 3 rfl) ?_
                      refine lv_iload_n hx hb dX8_setTimer_112 rfl (lv_at hl 4 rfl) ?_
                      refine va_iast (D := (dC, dI)) hx hb hK hP hD hS 3 0 rfl rfl (vp_in_iff.mpr ⟨i_l0 c_1, i_v4 c_6⟩) dX8_setTimer_113 (fun H locs hP hD hS => ?_)
                      have hP : va_P (dC, dI) vwCl [(xt, .inr (12, [.ref ah, .ref xe, .ref xf])), (ah, .inr (4, [.ref ac, .ref au, .ref ab, .ref an, .ref ak, .ref ad, .int 0, .int 0, .long 0])), (au, .inr (10, [.ref t1, .ref t2, .ref t3, .ref t4, .ref t5, .ref t6, .ref t7, .int 0, .int 0])), (t1, .inl (cI, 4, .inl (upd (cn 0) (v1).toNatClampNeg v2))), (t2, .inl (cI, 4, .inl (cn 10))), (t3, .inl (cI, 4, .inl (cn 10))), (t4, .inl (cI, 4, .inl (cn (-1)))), (t5, .inl (cI, 4, .inl (cn 0))), (t6, .inl (cI, 4, .inl (cn 0))), (t7, .inl (cI, 4, .inl (cn 110)))] H := hP
                      have hD : va_D A [(xt, .inr (12, [.ref ah, .ref xe, .ref xf])), (ah, .inr (4, [.ref ac, .ref au, .ref ab, .ref an, .ref ak, .ref ad, .int 0, .int 0, .long 0])), (au, .inr (10, [.ref t1, .ref t2, .ref t3, .ref t4, .ref t5, .ref t6, .ref t7, .int 0, .int 0])), (t1, .inl (cI, 4, .inl (upd (cn 0) (v1).toNatClampNeg v2))), (t2, .inl (cI, 4, .inl (cn 10))), (t3, .inl (cI, 4, .inl (cn 10))), (t4, .inl (cI, 4, .inl (cn (-1)))), (t5, .inl (cI, 4, .inl (cn 0))), (t6, .inl (cI, 4, .inl (cn 0))), (t7, .inl (cI, 4, .inl (cn 110)))] := hD
                      refine lv_aload hx hb dX8_setTimer_114 (lv_at hl 1 rfl) ?_
                      refine va_get (D := (dC, dI)) (ci := 10) (v := .ref t2) (C := RX6) (T := TX6) (N := 9) hx hb hts hiX6 hown hK hP 2 rfl rfl 1 (by decide) (hw8) (fun _ h9 => h9) rfl dX8_setTimer_116 ?_
                      refine lv_iload_n hx hb dX8_setTimer_119 rfl (lv_at hl 3 rfl) ?_
                      refine lv_iload_n hx hb dX8_setTimer_120 rfl (lv_at hl 5 rfl) ?_
                      refine va_iast (D := (dC, dI)) hx hb hK hP hD hS 4 0 rfl rfl (vp_in_iff.mpr ⟨i_l0 c_1, i_v4 c_6⟩) dX8_setTimer_121 (fun H locs hP hD hS => ?_)
                      have hP : va_P (dC, dI) vwCl [(xt, .inr (12, [.ref ah, .ref xe, .ref xf])), (ah, .inr (4, [.ref ac, .ref au, .ref ab, .ref an, .ref ak, .ref ad, .int 0, .int 0, .long 0])), (au, .inr (10, [.ref t1, .ref t2, .ref t3, .ref t4, .ref t5, .ref t6, .ref t7, .int 0, .int 0])), (t1, .inl (cI, 4, .inl (upd (cn 0) (v1).toNatClampNeg v2))), (t2, .inl (cI, 4, .inl (upd (cn 10) (v1).toNatClampNeg v3))), (t3, .inl (cI, 4, .inl (cn 10))), (t4, .inl (cI, 4, .inl (cn (-1)))), (t5, .inl (cI, 4, .inl (cn 0))), (t6, .inl (cI, 4, .inl (cn 0))), (t7, .inl (cI, 4, .inl (cn 110)))] H := hP
                      have hD : va_D A [(xt, .inr (12, [.ref ah, .ref xe, .ref xf])), (ah, .inr (4, [.ref ac, .ref au, .ref ab, .ref an, .ref ak, .ref ad, .int 0, .int 0, .long 0])), (au, .inr (10, [.ref t1, .ref t2, .ref t3, .ref t4, .ref t5, .ref t6, .ref t7, .int 0, .int 0])), (t1, .inl (cI, 4, .inl (upd (cn 0) (v1).toNatClampNeg v2))), (t2, .inl (cI, 4, .inl (upd (cn 10) (v1).toNatClampNeg v3))), (t3, .inl (cI, 4, .inl (cn 10))), (t4, .inl (cI, 4, .inl (cn (-1)))), (t5, .inl (cI, 4, .inl (cn 0))), (t6, .inl (cI, 4, .inl (cn 0))), (t7, .inl (cI, 4, .inl (cn 110)))] := hD
                      refine lv_aload hx hb dX8_setTimer_122 (lv_at hl 1 rfl) ?_
                      refine va_get (D := (dC, dI)) (ci := 10) (v := .ref t3) (C := RX6) (T := TX6) (N := 9) hx hb hts hiX6 hown hK hP 2 rfl rfl 2 (by decide) (hw11) (fun _ h9 => h9) rfl dX8_setTimer_124 ?_
                      refine lv_iload_n hx hb dX8_setTimer_127 rfl (lv_at hl 3 rfl) ?_
                      refine lv_iload hx hb dX8_setTimer_128 (lv_at hl 6 rfl) ?_
                      refine va_iast (D := (dC, dI)) hx hb hK hP hD hS 5 0 rfl rfl (vp_in_iff.mpr ⟨i_l0 c_1, i_v4 c_6⟩) dX8_setTimer_130 (fun H locs hP hD hS => ?_)
                      have hP : va_P (dC, dI) vwCl [(xt, .inr (12, [.ref ah, .ref xe, .ref xf])), (ah, .inr (4, [.ref ac, .ref au, .ref ab, .ref an, .ref ak, .ref ad, .int 0, .int 0, .long 0])), (au, .inr (10, [.ref t1, .ref t2, .ref t3, .ref t4, .ref t5, .ref t6, .ref t7, .int 0, .int 0])), (t1, .inl (cI, 4, .inl (upd (cn 0) (v1).toNatClampNeg v2))), (t2, .inl (cI, 4, .inl (upd (cn 10) (v1).toNatClampNeg v3))), (t3, .inl (cI, 4, .inl (upd (cn 10) (v1).toNatClampNeg v4))), (t4, .inl (cI, 4, .inl (cn (-1)))), (t5, .inl (cI, 4, .inl (cn 0))), (t6, .inl (cI, 4, .inl (cn 0))), (t7, .inl (cI, 4, .inl (cn 110)))] H := hP
                      have hD : va_D A [(xt, .inr (12, [.ref ah, .ref xe, .ref xf])), (ah, .inr (4, [.ref ac, .ref au, .ref ab, .ref an, .ref ak, .ref ad, .int 0, .int 0, .long 0])), (au, .inr (10, [.ref t1, .ref t2, .ref t3, .ref t4, .ref t5, .ref t6, .ref t7, .int 0, .int 0])), (t1, .inl (cI, 4, .inl (upd (cn 0) (v1).toNatClampNeg v2))), (t2, .inl (cI, 4, .inl (upd (cn 10) (v1).toNatClampNeg v3))), (t3, .inl (cI, 4, .inl (upd (cn 10) (v1).toNatClampNeg v4))), (t4, .inl (cI, 4, .inl (cn (-1)))), (t5, .inl (cI, 4, .inl (cn 0))), (t6, .inl (cI, 4, .inl (cn 0))), (t7, .inl (cI, 4, .inl (cn 110)))] := hD
                      refine lv_aload hx hb dX8_setTimer_131 (lv_at hl 1 rfl) ?_
                      refine lv_aload hx hb dX8_setTimer_133 (lv_at hl 1 rfl) ?_
                      refine va_get (D := (dC, dI)) (ci := 10) (v := .int 0) (C := RX6) (T := TX6) (N := 9) hx hb hts hiX6 hown hK hP 2 rfl rfl 7 (by decide) (hw12) (fun _ h9 => h9) rfl dX8_setTimer_135 ?_
                      refine lv_iload_n hx hb dX8_setTimer_138 rfl (lv_at hl 3 rfl) ?_
                      refine lv_iload hx hb dX8_setTimer_139 (lv_at hl 7 rfl) ?_
                      refine lv_bipush (v := 111) hx hb dX8_setTimer_141 (by decide) ?_
                      refine lv_icmp_ne (tgt := 150) hx hb dX8_setTimer_143 (by decide) (fun c => (c (c_75)).elim) (fun _ => ?_)
                      refine lv_iconst (v := 1) hx hb dX8_setTimer_146 (by decide) ?_
                      refine lv_goto (tgt := 151) hx hb dX8_setTimer_147 (by decide) ?_
                      have hPc := hP.sub (ws' := []) [] rfl
                      have hDc := hD.sub (ws' := []) [] (by decide) rfl
                      have hKc := hK.sub (tys' := []) [] rfl
                      have hFc := va_free (wc := []) hD hS hA [] rfl
                      refine va_calli (va_runS (As := [.int 0, .int v1, .int 1]) (rest := [.ref au]) ⟨hx, hb, hml, hown, hts⟩ (c_X8_withBit_1 l dC dI g 0 v1 H.size) (va_cwS 3 hts gX8_setTimer_X8_withBit rfl rfl rfl (by decide +kernel) ⟨Nat.le_of_ble_eq_true rfl, Nat.le_of_ble_eq_true rfl⟩) ⟨wIn_blind, wIn_at hPc hKc hDc hG hS hFc⟩ rfl rfl hl.1 rfl (lv_room (Nat.le_of_ble_eq_true rfl)) dX8_setTimer_151 ⟨Nat.le_of_ble_eq_true rfl, Nat.le_of_ble_eq_true rfl⟩) hS (fun q _ h => hFc q h) hFc (fun r_2 u t H1 locs ht hvm hw hB hz1 hk1 hS => ?_)
                      obtain ⟨hP1, hK1, hD1⟩ := hB
                      rw [ht] at hP1
                      obtain ⟨hP, hD⟩ := va_join (wr := [(xt, .inr (12, [.ref ah, .ref xe, .ref xf])), (ah, .inr (4, [.ref ac, .ref au, .ref ab, .ref an, .ref ak, .ref ad, .int 0, .int 0, .long 0])), (au, .inr (10, [.ref t1, .ref t2, .ref t3, .ref t4, .ref t5, .ref t6, .ref t7, .int 0, .int 0])), (t1, .inl (cI, 4, .inl (upd (cn 0) (v1).toNatClampNeg v2))), (t2, .inl (cI, 4, .inl (upd (cn 10) (v1).toNatClampNeg v3))), (t3, .inl (cI, 4, .inl (upd (cn 10) (v1).toNatClampNeg v4))), (t4, .inl (cI, 4, .inl (cn (-1)))), (t5, .inl (cI, 4, .inl (cn 0))), (t6, .inl (cI, 4, .inl (cn 0))), (t7, .inl (cI, 4, .inl (cn 110)))]) (w1 := []) hP hD [] [0, 1, 2, 3, 4, 5, 6, 7, 8, 9] rfl rfl (by decide) (by decide) hk1 hFc hP1 hD1
                      generalize H1 = H at hP hS ⊢
                      have hP : va_P (dC, dI) vwCl [(xt, .inr (12, [.ref ah, .ref xe, .ref xf])), (ah, .inr (4, [.ref ac, .ref au, .ref ab, .ref an, .ref ak, .ref ad, .int 0, .int 0, .long 0])), (au, .inr (10, [.ref t1, .ref t2, .ref t3, .ref t4, .ref t5, .ref t6, .ref t7, .int 0, .int 0])), (t1, .inl (cI, 4, .inl (upd (cn 0) (v1).toNatClampNeg v2))), (t2, .inl (cI, 4, .inl (upd (cn 10) (v1).toNatClampNeg v3))), (t3, .inl (cI, 4, .inl (upd (cn 10) (v1).toNatClampNeg v4))), (t4, .inl (cI, 4, .inl (cn (-1)))), (t5, .inl (cI, 4, .inl (cn 0))), (t6, .inl (cI, 4, .inl (cn 0))), (t7, .inl (cI, 4, .inl (cn 110)))] H := hP
                      have hD : va_D A [(xt, .inr (12, [.ref ah, .ref xe, .ref xf])), (ah, .inr (4, [.ref ac, .ref au, .ref ab, .ref an, .ref ak, .ref ad, .int 0, .int 0, .long 0])), (au, .inr (10, [.ref t1, .ref t2, .ref t3, .ref t4, .ref t5, .ref t6, .ref t7, .int 0, .int 0])), (t1, .inl (cI, 4, .inl (upd (cn 0) (v1).toNatClampNeg v2))), (t2, .inl (cI, 4, .inl (upd (cn 10) (v1).toNatClampNeg v3))), (t3, .inl (cI, 4, .inl (upd (cn 10) (v1).toNatClampNeg v4))), (t4, .inl (cI, 4, .inl (cn (-1)))), (t5, .inl (cI, 4, .inl (cn 0))), (t6, .inl (cI, 4, .inl (cn 0))), (t7, .inl (cI, 4, .inl (cn 110)))] := hD
                      refine lt_ci (y := ((0 : Int32) ||| ((1 : Int32) <<< (v1 &&& 31)))) hw ?_
                      refine va_put (D := (dC, dI)) (ci := 10) (v := .int ((0 : Int32) ||| ((1 : Int32) <<< (v1 &&& 31)))) (ty := .int) (C := RX6) (T := TX6) (N := 9) hx hb hts hiX6 tyX6 tyX6_ok nmX6 hown hK hP hD hS 2 rfl rfl 7 (by decide) (hw12) (fun _ h9 => h9) rfl (by decide +kernel) rfl rfl (Nat.le_of_ble_eq_true rfl) dX8_setTimer_154 (fun H locs hP hD hS => ?_)
                      have hP : va_P (dC, dI) vwCl [(xt, .inr (12, [.ref ah, .ref xe, .ref xf])), (ah, .inr (4, [.ref ac, .ref au, .ref ab, .ref an, .ref ak, .ref ad, .int 0, .int 0, .long 0])), (au, .inr (10, [.ref t1, .ref t2, .ref t3, .ref t4, .ref t5, .ref t6, .ref t7, .int ((0 : Int32) ||| ((1 : Int32) <<< (v1 &&& 31))), .int 0])), (t1, .inl (cI, 4, .inl (upd (cn 0) (v1).toNatClampNeg v2))), (t2, .inl (cI, 4, .inl (upd (cn 10) (v1).toNatClampNeg v3))), (t3, .inl (cI, 4, .inl (upd (cn 10) (v1).toNatClampNeg v4))), (t4, .inl (cI, 4, .inl (cn (-1)))), (t5, .inl (cI, 4, .inl (cn 0))), (t6, .inl (cI, 4, .inl (cn 0))), (t7, .inl (cI, 4, .inl (cn 110)))] H := hP
                      have hD : va_D A [(xt, .inr (12, [.ref ah, .ref xe, .ref xf])), (ah, .inr (4, [.ref ac, .ref au, .ref ab, .ref an, .ref ak, .ref ad, .int 0, .int 0, .long 0])), (au, .inr (10, [.ref t1, .ref t2, .ref t3, .ref t4, .ref t5, .ref t6, .ref t7, .int ((0 : Int32) ||| ((1 : Int32) <<< (v1 &&& 31))), .int 0])), (t1, .inl (cI, 4, .inl (upd (cn 0) (v1).toNatClampNeg v2))), (t2, .inl (cI, 4, .inl (upd (cn 10) (v1).toNatClampNeg v3))), (t3, .inl (cI, 4, .inl (upd (cn 10) (v1).toNatClampNeg v4))), (t4, .inl (cI, 4, .inl (cn (-1)))), (t5, .inl (cI, 4, .inl (cn 0))), (t6, .inl (cI, 4, .inl (cn 0))), (t7, .inl (cI, 4, .inl (cn 110)))] := hD
                      refine lv_aload hx hb dX8_setTimer_157 (lv_at hl 1 rfl) ?_
                      refine va_get (D := (dC, dI)) (ci := 10) (v := .ref t4) (C := RX6) (T := TX6) (N := 9) hx hb hts hiX6 hown hK hP 2 rfl rfl 3 (by decide) (hw13) (fun _ h9 => h9) rfl dX8_setTimer_159 ?_
                      refine lv_iload_n hx hb dX8_setTimer_162 rfl (lv_at hl 3 rfl) ?_
                      refine lv_iconst (v := (-1)) hx hb dX8_setTimer_163 (by decide) ?_
                      refine va_iast (D := (dC, dI)) hx hb hK hP hD hS 6 0 rfl rfl (vp_in_iff.mpr ⟨i_l0 c_1, i_v4 c_6⟩) dX8_setTimer_164 (fun H locs hP hD hS => ?_)
                      have hP : va_P (dC, dI) vwCl [(xt, .inr (12, [.ref ah, .ref xe, .ref xf])), (ah, .inr (4, [.ref ac, .ref au, .ref ab, .ref an, .ref ak, .ref ad, .int 0, .int 0, .long 0])), (au, .inr (10, [.ref t1, .ref t2, .ref t3, .ref t4, .ref t5, .ref t6, .ref t7, .int ((0 : Int32) ||| ((1 : Int32) <<< (v1 &&& 31))), .int 0])), (t1, .inl (cI, 4, .inl (upd (cn 0) (v1).toNatClampNeg v2))), (t2, .inl (cI, 4, .inl (upd (cn 10) (v1).toNatClampNeg v3))), (t3, .inl (cI, 4, .inl (upd (cn 10) (v1).toNatClampNeg v4))), (t4, .inl (cI, 4, .inl (upd (cn (-1)) (v1).toNatClampNeg (-1)))), (t5, .inl (cI, 4, .inl (cn 0))), (t6, .inl (cI, 4, .inl (cn 0))), (t7, .inl (cI, 4, .inl (cn 110)))] H := hP
                      have hD : va_D A [(xt, .inr (12, [.ref ah, .ref xe, .ref xf])), (ah, .inr (4, [.ref ac, .ref au, .ref ab, .ref an, .ref ak, .ref ad, .int 0, .int 0, .long 0])), (au, .inr (10, [.ref t1, .ref t2, .ref t3, .ref t4, .ref t5, .ref t6, .ref t7, .int ((0 : Int32) ||| ((1 : Int32) <<< (v1 &&& 31))), .int 0])), (t1, .inl (cI, 4, .inl (upd (cn 0) (v1).toNatClampNeg v2))), (t2, .inl (cI, 4, .inl (upd (cn 10) (v1).toNatClampNeg v3))), (t3, .inl (cI, 4, .inl (upd (cn 10) (v1).toNatClampNeg v4))), (t4, .inl (cI, 4, .inl (upd (cn (-1)) (v1).toNatClampNeg (-1)))), (t5, .inl (cI, 4, .inl (cn 0))), (t6, .inl (cI, 4, .inl (cn 0))), (t7, .inl (cI, 4, .inl (cn 110)))] := hD
                      refine lv_iload hx hb dX8_setTimer_165 (lv_at hl 0 rfl) ?_
                      have hP9 := hP.sub (ws' := []) [] rfl
                      have hD9 := hD.sub (ws' := []) [] (by decide) rfl
                      have hK9 := hK.sub (tys' := [(cI, .int)]) [0] rfl
                      refine W.widen (k := 1) (n := 6) (Nat.le_of_ble_eq_true rfl) (Nat.le_of_ble_eq_true rfl) ?_
                      refine vx_ret ?_
                      exact W.iret (v := 10) hx hb hr (fun t ht hW => ⟨⟨10, (), rfl, ⟨rfl, (by unfold sp_X8_setTimer; rw [if_neg c_1, if_neg c_6, if_neg c_10, if_pos c_15, if_neg c_30, if_neg c_37, if_neg c_43, if_pos c_51, if_neg c_68, if_pos c_75])⟩, wOut_at ht hW hP9 hK9 hD9⟩, hS.F ht⟩) hS.2.2 dX8_setTimer_167
                    · obtain ⟨sa9, hstr9⟩ := hG.2.2.2.1 _ (List.mem_of_getElem? (i := 15) rfl)
                      exact vx_throwS (sa := sa9) hx hb hl9 hown (by decide +kernel) (by decide +kernel) hw2 hw3 hstr9 (vx_hat (fun w hw => hts w (List.mem_cons_of_mem _ (List.mem_append_left _ (List.mem_append_right _ (hw))))) xh_35 (nw_use hN)) xg_35 hG.2.2.2.2.1 hG.2.2.2.2.2.1 hS (hl.1.trans hml.symm) dX8_setTimer_78 dX8_setTimer_81 dX8_setTimer_82 dX8_setTimer_84 dX8_setTimer_87 (fun x9 hx9 => (htab x9 hx9).elim) (by decide) (by decide) (Nat.le_of_ble_eq_true rfl) (Nat.le_of_ble_eq_true rfl) hlocks (fun t hal hle hq => ⟨(), trivial, Or.inr (⟨rfl, (by unfold sp_X8_setTimer; rw [if_neg c_1, if_neg c_6, if_neg c_10, if_pos c_15, if_neg c_30, if_neg c_37, if_neg c_43, if_pos c_51, if_neg c_68, if_neg c_75])⟩), ⟨Nat.le_trans hS.1 hle, fun q h1 h2 => (hq q (Nat.lt_of_lt_of_le h1 hS.1)).trans (hS.2.1 q h1 h2)⟩⟩) hS.2.2 (Nat.le_of_ble_eq_true rfl) (Nat.le_of_ble_eq_true rfl)
                · obtain ⟨sa9, hstr9⟩ := hG.2.2.2.1 _ (List.mem_of_getElem? (i := 14) rfl)
                  exact vx_throwS (sa := sa9) hx hb hl9 hown (by decide +kernel) (by decide +kernel) hw2 hw3 hstr9 (vx_hat (fun w hw => hts w (List.mem_cons_of_mem _ (List.mem_append_left _ (List.mem_append_right _ (hw))))) xh_35 (nw_use hN)) xg_35 hG.2.2.2.2.1 hG.2.2.2.2.2.1 hS (hl.1.trans hml.symm) dX8_setTimer_54 dX8_setTimer_57 dX8_setTimer_58 dX8_setTimer_60 dX8_setTimer_63 (fun x9 hx9 => (htab x9 hx9).elim) (by decide) (by decide) (Nat.le_of_ble_eq_true rfl) (Nat.le_of_ble_eq_true rfl) hlocks (fun t hal hle hq => ⟨(), trivial, Or.inr (⟨rfl, (by unfold sp_X8_setTimer; rw [if_neg c_1, if_neg c_6, if_neg c_10, if_pos c_15, if_neg c_30, if_neg c_37, if_neg c_43, if_neg c_51])⟩), ⟨Nat.le_trans hS.1 hle, fun q h1 h2 => (hq q (Nat.lt_of_lt_of_le h1 hS.1)).trans (hS.2.1 q h1 h2)⟩⟩) hS.2.2 (Nat.le_of_ble_eq_true rfl) (Nat.le_of_ble_eq_true rfl)
        · obtain ⟨sa9, hstr9⟩ := hG.2.2.2.1 _ (List.mem_of_getElem? (i := 13) rfl)
          exact vx_throwS (sa := sa9) hx hb hl9 hown (by decide +kernel) (by decide +kernel) hw0 hw1 hstr9 (vx_hat (fun w hw => hts w (List.mem_cons_of_mem _ (List.mem_append_left _ (List.mem_append_left _ (List.mem_append_right _ (hw)))))) xh_26 (nw_use hN)) xg_26 hG.2.2.2.2.1 hG.2.2.2.2.2.1 hS (hl.1.trans hml.symm) dX8_setTimer_18 dX8_setTimer_21 dX8_setTimer_22 dX8_setTimer_24 dX8_setTimer_27 (fun x9 hx9 => (htab x9 hx9).elim) (by decide) (by decide) (Nat.le_of_ble_eq_true rfl) (Nat.le_of_ble_eq_true rfl) hlocks (fun t hal hle hq => ⟨(), trivial, Or.inl ⟨rfl, (by unfold sp_X8_setTimer; rw [if_neg c_1, if_neg c_6, if_neg c_10, if_neg c_15])⟩, ⟨Nat.le_trans hS.1 hle, fun q h1 h2 => (hq q (Nat.lt_of_lt_of_le h1 hS.1)).trans (hS.2.1 q h1 h2)⟩⟩) hS.2.2 (Nat.le_of_ble_eq_true rfl) (Nat.le_of_ble_eq_true rfl)

def sp_X8_link (v1 : Int32) (v2 : Int32) : Int32 := (if v1 < 0 then 1 else (if v1 < 4 then (if v2 < (-1) then 2 else (if v2 < v1 then 0 else 2)) else 1))
set_option maxHeartbeats 4000000 in
set_option maxRecDepth 100000 in
theorem c_X8_link (l : Launch) (hl9 : l.stackTraces = false) (dC : Nat → ClassId) (dI : Nat → Nat → Nat) (g : Nat × Nat × Nat) (xt : Nat) (xe : Nat) (xf : Nat) (ah : Nat) (ac : Nat) (au : Nat) (t1 : Nat) (t2 : Nat) (t3 : Nat) (t4 : Nat) (t5 : Nat) (t6 : Nat) (t7 : Nat) (ab : Nat) (an : Nat) (ak : Nat) (ad : Nat) (cI : ClassId) (v1 : Int32) (v2 : Int32) (sz : Nat) : vx_Met l yX8_link wsX8_link ({ frames := 6, cells := 1, slots := 6, locals := 100 } : Room) (va_Pc [.ref xt, .int v1, .int v2] (wIn dC dI g [(xt, .inr (12, [.ref ah, .ref xe, .ref xf])), (ah, .inr (4, [.ref ac, .ref au, .ref ab, .ref an, .ref ak, .ref ad, .int 0, .int 0, .long 0])), (au, .inr (10, [.ref t1, .ref t2, .ref t3, .ref t4, .ref t5, .ref t6, .ref t7, .int 0, .int 0])), (t1, .inl (cI, 4, .inl (cn 0))), (t2, .inl (cI, 4, .inl (cn 10))), (t3, .inl (cI, 4, .inl (cn 10))), (t4, .inl (cI, 4, .inl (cn (-1)))), (t5, .inl (cI, 4, .inl (cn 0))), (t6, .inl (cI, 4, .inl (cn 0))), (t7, .inl (cI, 4, .inl (cn 110)))] [(cI, .int)] sz)) (va_Qi (fun (r : Int32) (u : Unit) => r = (-1) ∧ sp_X8_link v1 v2 = 0) (fun (u : Unit) (t : State) => wOut dC dI [] [(cI, .int)] (va_A [(xt, .inr (12, [.ref ah, .ref xe, .ref xf])), (ah, .inr (4, [.ref ac, .ref au, .ref ab, .ref an, .ref ak, .ref ad, .int 0, .int 0, .long 0])), (au, .inr (10, [.ref t1, .ref t2, .ref t3, .ref t4, .ref t5, .ref t6, .ref t7, .int 0, .int 0])), (t1, .inl (cI, 4, .inl (cn 0))), (t2, .inl (cI, 4, .inl (cn 10))), (t3, .inl (cI, 4, .inl (cn 10))), (t4, .inl (cI, 4, .inl (cn (-1)))), (t5, .inl (cI, 4, .inl (cn 0))), (t6, .inl (cI, 4, .inl (cn 0))), (t7, .inl (cI, 4, .inl (cn 110)))] sz) t) (va_A [(xt, .inr (12, [.ref ah, .ref xe, .ref xf])), (ah, .inr (4, [.ref ac, .ref au, .ref ab, .ref an, .ref ak, .ref ad, .int 0, .int 0, .long 0])), (au, .inr (10, [.ref t1, .ref t2, .ref t3, .ref t4, .ref t5, .ref t6, .ref t7, .int 0, .int 0])), (t1, .inl (cI, 4, .inl (cn 0))), (t2, .inl (cI, 4, .inl (cn 10))), (t3, .inl (cI, 4, .inl (cn 10))), (t4, .inl (cI, 4, .inl (cn (-1)))), (t5, .inl (cI, 4, .inl (cn 0))), (t6, .inl (cI, 4, .inl (cn 0))), (t7, .inl (cI, 4, .inl (cn 110)))] sz)) (vx_X (fun (_ : Unit) => True) (fun (E : String) (_ : Unit) (_ : State) => (E = "java/lang/IndexOutOfBoundsException" ∧ sp_X8_link v1 v2 = 1) ∨ (E = "java/lang/IllegalArgumentException" ∧ sp_X8_link v1 v2 = 2)) (va_A [(xt, .inr (12, [.ref ah, .ref xe, .ref xf])), (ah, .inr (4, [.ref ac, .ref au, .ref ab, .ref an, .ref ak, .ref ad, .int 0, .int 0, .long 0])), (au, .inr (10, [.ref t1, .ref t2, .ref t3, .ref t4, .ref t5, .ref t6, .ref t7, .int 0, .int 0])), (t1, .inl (cI, 4, .inl (cn 0))), (t2, .inl (cI, 4, .inl (cn 10))), (t3, .inl (cI, 4, .inl (cn 10))), (t4, .inl (cI, 4, .inl (cn (-1)))), (t5, .inl (cI, 4, .inl (cn 0))), (t6, .inl (cI, 4, .inl (cn 0))), (t7, .inl (cI, 4, .inl (cn 110)))] sz)) 1 6 (va_A [(xt, .inr (12, [.ref ah, .ref xe, .ref xf])), (ah, .inr (4, [.ref ac, .ref au, .ref ab, .ref an, .ref ak, .ref ad, .int 0, .int 0, .long 0])), (au, .inr (10, [.ref t1, .ref t2, .ref t3, .ref t4, .ref t5, .ref t6, .ref t7, .int 0, .int 0])), (t1, .inl (cI, 4, .inl (cn 0))), (t2, .inl (cI, 4, .inl (cn 10))), (t3, .inl (cI, 4, .inl (cn 10))), (t4, .inl (cI, 4, .inl (cn (-1)))), (t5, .inl (cI, 4, .inl (cn 0))), (t6, .inl (cI, 4, .inl (cn 0))), (t7, .inl (cI, 4, .inl (cn 110)))] sz) := by
  refine vx_ofW (cc := cX8_link) (maxL := 4) (ret := (some .int)) (by decide) rfl ?_
  intro p e s m args below meth c s₁ B hml htab hv
  obtain ⟨rfl, hsz, hP, hK, hD0, hG⟩ := hv
  have hx := B.exec
  have hb := B.bytes
  have hr := B.returns
  have hts := atoms_spec (ws := wsX8_link) B.pre
  have hown : s.vm.findClass RX8 = some m.cls := findClass_of_methodNamed B.named
  have hlocks := B.notSynchronized
  subst hsz
  have hD := hD0.self (sz := s.heap.size)
  generalize hAe : va_A [(xt, .inr (12, [.ref ah, .ref xe, .ref xf])), (ah, .inr (4, [.ref ac, .ref au, .ref ab, .ref an, .ref ak, .ref ad, .int 0, .int 0, .long 0])), (au, .inr (10, [.ref t1, .ref t2, .ref t3, .ref t4, .ref t5, .ref t6, .ref t7, .int 0, .int 0])), (t1, .inl (cI, 4, .inl (cn 0))), (t2, .inl (cI, 4, .inl (cn 10))), (t3, .inl (cI, 4, .inl (cn 10))), (t4, .inl (cI, 4, .inl (cn (-1)))), (t5, .inl (cI, 4, .inl (cn 0))), (t6, .inl (cI, 4, .inl (cn 0))), (t7, .inl (cI, 4, .inl (cn 110)))] s.heap.size = A at hD hG ⊢
  have hN := hG.1
  have hA : ∀ q : Nat, s.heap.size ≤ q → A q := fun q h => by rw [← hAe]; exact Or.inr h
  have hS : va_S A s.heap s.heap [] := va_S.rf
  have hP : va_P (dC, dI) vwCl [(xt, .inr (12, [.ref ah, .ref xe, .ref xf])), (ah, .inr (4, [.ref ac, .ref au, .ref ab, .ref an, .ref ak, .ref ad, .int 0, .int 0, .long 0])), (au, .inr (10, [.ref t1, .ref t2, .ref t3, .ref t4, .ref t5, .ref t6, .ref t7, .int 0, .int 0])), (t1, .inl (cI, 4, .inl (cn 0))), (t2, .inl (cI, 4, .inl (cn 10))), (t3, .inl (cI, 4, .inl (cn 10))), (t4, .inl (cI, 4, .inl (cn (-1)))), (t5, .inl (cI, 4, .inl (cn 0))), (t6, .inl (cI, 4, .inl (cn 0))), (t7, .inl (cI, 4, .inl (cn 110)))] s.heap := hP
  have hw0 : (Cond.classLink RX8 22 "java/lang/IndexOutOfBoundsException").before _ s = true := hts _ (List.mem_cons_of_mem _ (List.mem_append_left _ (List.mem_append_left _ (List.mem_append_left _ (List.mem_append_left _ (List.mem_append_left _ (List.mem_append_left _ (List.mem_of_getElem? (i := 0) rfl))))))))
  have hw1 : (Cond.initialized "java/lang/IndexOutOfBoundsException").before _ s = true := hts _ (List.mem_cons_of_mem _ (List.mem_append_left _ (List.mem_append_left _ (List.mem_append_left _ (List.mem_append_left _ (List.mem_append_left _ (List.mem_append_left _ (List.mem_of_getElem? (i := 1) rfl))))))))
  have hw2 : (Cond.classLink RX8 31 "java/lang/IllegalArgumentException").before _ s = true := hts _ (List.mem_cons_of_mem _ (List.mem_append_left _ (List.mem_append_left _ (List.mem_append_left _ (List.mem_append_left _ (List.mem_append_left _ (List.mem_append_left _ (List.mem_of_getElem? (i := 2) rfl))))))))
  have hw3 : (Cond.initialized "java/lang/IllegalArgumentException").before _ s = true := hts _ (List.mem_cons_of_mem _ (List.mem_append_left _ (List.mem_append_left _ (List.mem_append_left _ (List.mem_append_left _ (List.mem_append_left _ (List.mem_append_left _ (List.mem_of_getElem? (i := 3) rfl))))))))
  have hw4 : (Cond.fieldLink RX8 10 "Tickstation" "chip" "LTickstation$Chip;").before _ s = true := hts _ (List.mem_cons_of_mem _ (List.mem_append_left _ (List.mem_append_left _ (List.mem_append_left _ (List.mem_append_left _ (List.mem_append_left _ (List.mem_append_left _ (List.mem_of_getElem? (i := 4) rfl))))))))
  have hiX8 : ∀ w ∈ u_ws RX8 TX8 3, w ∈ wsX8_link := fun _ h => List.mem_cons_of_mem _ (List.mem_append_left _ (List.mem_append_left _ (List.mem_append_left _ (List.mem_append_left _ (List.mem_append_left _ (List.mem_append_right _ (h)))))))
  have hw6 : (Cond.fieldLink RX8 63 "Tickstation$Chip" "timers" "LTickstation$Timers;").before _ s = true := hts _ (List.mem_cons_of_mem _ (List.mem_append_left _ (List.mem_append_left _ (List.mem_append_left _ (List.mem_append_left _ (List.mem_append_left _ (List.mem_append_left _ (List.mem_of_getElem? (i := 5) rfl))))))))
  have hiX0 : ∀ w ∈ u_ws RX0 TX0 9, w ∈ wsX8_link := fun _ h => List.mem_cons_of_mem _ (List.mem_append_left _ (List.mem_append_left _ (List.mem_append_left _ (List.mem_append_left _ (List.mem_append_right _ (h))))))
  have hw8 : (Cond.fieldLink RX8 81 "Tickstation$Timers" "linkedTo" "[I").before _ s = true := hts _ (List.mem_cons_of_mem _ (List.mem_append_left _ (List.mem_append_left _ (List.mem_append_left _ (List.mem_append_left _ (List.mem_append_left _ (List.mem_append_left _ (List.mem_of_getElem? (i := 6) rfl))))))))
  have hiX6 : ∀ w ∈ u_ws RX6 TX6 9, w ∈ wsX8_link := fun _ h => List.mem_cons_of_mem _ (List.mem_append_left _ (List.mem_append_left _ (List.mem_append_left _ (List.mem_append_right _ (h)))))
  have hl := lv_entry ([.ref xt, .int v1, .int v2]) (n := 4) (Nat.le_of_ble_eq_true rfl)
  rw [lg_entry_eq]
  generalize (lg_sl ([.ref xt, .int v1, .int v2]) ++ List.replicate (4 - (lg_sl ([.ref xt, .int v1, .int v2])).length) Slot.unset).toArray = ls at hl ⊢
  have hl : lv_has ls 4 [(0, .ref xt), (1, .int v1), (2, .int v2)] := hl
  refine lv_iload_n hx hb dX8_link_0 rfl (lv_at hl 1 rfl) ?_
  refine lv_if_lt (tgt := 9) hx hb dX8_link_1 (by decide) (fun c_1 => ?_) (fun c_1 => ?_)
  · obtain ⟨sa9, hstr9⟩ := hG.2.2.2.1 _ (List.mem_of_getElem? (i := 16) rfl)
    exact vx_throwS (sa := sa9) hx hb hl9 hown (by decide +kernel) (by decide +kernel) hw0 hw1 hstr9 (vx_hat (fun w hw => hts w (List.mem_cons_of_mem _ (List.mem_append_left _ (List.mem_append_left _ (List.mem_append_right _ (hw)))))) xh_26 (nw_use hN)) xg_26 hG.2.2.2.2.1 hG.2.2.2.2.2.1 hS (hl.1.trans hml.symm) dX8_link_9 dX8_link_12 dX8_link_13 dX8_link_15 dX8_link_18 (fun x9 hx9 => (htab x9 hx9).elim) (by decide) (by decide) (Nat.le_of_ble_eq_true rfl) (Nat.le_of_ble_eq_true rfl) hlocks (fun t hal hle hq => ⟨(), trivial, Or.inl ⟨rfl, (by unfold sp_X8_link; rw [if_pos c_1])⟩, ⟨Nat.le_trans hS.1 hle, fun q h1 h2 => (hq q (Nat.lt_of_lt_of_le h1 hS.1)).trans (hS.2.1 q h1 h2)⟩⟩) hS.2.2 (Nat.le_of_ble_eq_true rfl) (Nat.le_of_ble_eq_true rfl)
  · refine lv_iload_n hx hb dX8_link_4 rfl (lv_at hl 1 rfl) ?_
    refine lv_iconst (v := 4) hx hb dX8_link_5 (by decide) ?_
    refine lv_icmp_lt (tgt := 19) hx hb dX8_link_6 (by decide) (fun c_6 => ?_) (fun c_6 => ?_)
    · refine lv_iload_n hx hb dX8_link_19 rfl (lv_at hl 2 rfl) ?_
      refine lv_iconst (v := (-1)) hx hb dX8_link_20 (by decide) ?_
      refine lv_icmp_lt (tgt := 29) hx hb dX8_link_21 (by decide) (fun c_21 => ?_) (fun c_21 => ?_)
      · obtain ⟨sa9, hstr9⟩ := hG.2.2.2.1 _ (List.mem_of_getElem? (i := 17) rfl)
        exact vx_throwS (sa := sa9) hx hb hl9 hown (by decide +kernel) (by decide +kernel) hw2 hw3 hstr9 (vx_hat (fun w hw => hts w (List.mem_cons_of_mem _ (List.mem_append_left _ (List.mem_append_right _ (hw))))) xh_35 (nw_use hN)) xg_35 hG.2.2.2.2.1 hG.2.2.2.2.2.1 hS (hl.1.trans hml.symm) dX8_link_29 dX8_link_32 dX8_link_33 dX8_link_35 dX8_link_38 (fun x9 hx9 => (htab x9 hx9).elim) (by decide) (by decide) (Nat.le_of_ble_eq_true rfl) (Nat.le_of_ble_eq_true rfl) hlocks (fun t hal hle hq => ⟨(), trivial, Or.inr (⟨rfl, (by unfold sp_X8_link; rw [if_neg c_1, if_pos c_6, if_pos c_21])⟩), ⟨Nat.le_trans hS.1 hle, fun q h1 h2 => (hq q (Nat.lt_of_lt_of_le h1 hS.1)).trans (hS.2.1 q h1 h2)⟩⟩) hS.2.2 (Nat.le_of_ble_eq_true rfl) (Nat.le_of_ble_eq_true rfl)
      · refine lv_iload_n hx hb dX8_link_24 rfl (lv_at hl 2 rfl) ?_
        refine lv_iload_n hx hb dX8_link_25 rfl (lv_at hl 1 rfl) ?_
        refine lv_icmp_lt (tgt := 39) hx hb dX8_link_26 (by decide) (fun c_26 => ?_) (fun c_26 => ?_)
        · refine lv_aload_n hx hb dX8_link_39 rfl (lv_at hl 0 rfl) ?_
          refine va_get (D := (dC, dI)) (ci := 12) (v := .ref ah) (C := RX8) (T := TX8) (N := 3) hx hb hts hiX8 hown hK hP 0 rfl rfl 0 (by decide) (hw4) (fun _ h9 => h9) rfl dX8_link_40 ?_
          refine va_get (D := (dC, dI)) (ci := 4) (v := .ref au) (C := RX0) (T := TX0) (N := 9) hx hb hts hiX0 hown hK hP 1 rfl rfl 1 (by decide) (hw6) (fun _ h9 => h9) rfl dX8_link_43 ?_
          refine va_get (D := (dC, dI)) (ci := 10) (v := .ref t4) (C := RX6) (T := TX6) (N := 9) hx hb hts hiX6 hown hK hP 2 rfl rfl 3 (by decide) (hw8) (fun _ h9 => h9) rfl dX8_link_46 ?_
          refine lv_iload_n hx hb dX8_link_49 rfl (lv_at hl 1 rfl) ?_
          refine va_iald (D := (dC, dI)) hx hb hK hP 6 0 rfl rfl (vp_in_iff.mpr ⟨i_l0 c_1, i_u4 c_6⟩) dX8_link_50 ?_
          refine lt_ci (y := (-1)) rfl ?_
          refine lv_istore_n (lv' := [(3, .int (-1)), (0, .ref xt), (1, .int v1), (2, .int v2)]) hx hb dX8_link_51 rfl hl (by decide) rfl (fun ls hl => ?_)
          refine lv_aload_n hx hb dX8_link_52 rfl (lv_at hl 1 rfl) ?_
          refine va_get (D := (dC, dI)) (ci := 12) (v := .ref ah) (C := RX8) (T := TX8) (N := 3) hx hb hts hiX8 hown hK hP 0 rfl rfl 0 (by decide) (hw4) (fun _ h9 => h9) rfl dX8_link_53 ?_
          refine va_get (D := (dC, dI)) (ci := 4) (v := .ref au) (C := RX0) (T := TX0) (N := 9) hx hb hts hiX0 hown hK hP 1 rfl rfl 1 (by decide) (hw6) (fun _ h9 => h9) rfl dX8_link_56 ?_
          refine va_get (D := (dC, dI)) (ci := 10) (v := .ref t4) (C := RX6) (T := TX6) (N := 9) hx hb hts hiX6 hown hK hP 2 rfl rfl 3 (by decide) (hw8) (fun _ h9 => h9) rfl dX8_link_59 ?_
          refine lv_iload_n hx hb dX8_link_62 rfl (lv_at hl 2 rfl) ?_
          refine lv_iload_n hx hb dX8_link_63 rfl (lv_at hl 3 rfl) ?_
          refine va_iast (D := (dC, dI)) hx hb hK hP hD hS 6 0 rfl rfl (vp_in_iff.mpr ⟨i_l0 c_1, i_u4 c_6⟩) dX8_link_64 (fun H locs hP hD hS => ?_)
          have hP : va_P (dC, dI) vwCl [(xt, .inr (12, [.ref ah, .ref xe, .ref xf])), (ah, .inr (4, [.ref ac, .ref au, .ref ab, .ref an, .ref ak, .ref ad, .int 0, .int 0, .long 0])), (au, .inr (10, [.ref t1, .ref t2, .ref t3, .ref t4, .ref t5, .ref t6, .ref t7, .int 0, .int 0])), (t1, .inl (cI, 4, .inl (cn 0))), (t2, .inl (cI, 4, .inl (cn 10))), (t3, .inl (cI, 4, .inl (cn 10))), (t4, .inl (cI, 4, .inl (upd (cn (-1)) (v1).toNatClampNeg v2))), (t5, .inl (cI, 4, .inl (cn 0))), (t6, .inl (cI, 4, .inl (cn 0))), (t7, .inl (cI, 4, .inl (cn 110)))] H := hP
          have hD : va_D A [(xt, .inr (12, [.ref ah, .ref xe, .ref xf])), (ah, .inr (4, [.ref ac, .ref au, .ref ab, .ref an, .ref ak, .ref ad, .int 0, .int 0, .long 0])), (au, .inr (10, [.ref t1, .ref t2, .ref t3, .ref t4, .ref t5, .ref t6, .ref t7, .int 0, .int 0])), (t1, .inl (cI, 4, .inl (cn 0))), (t2, .inl (cI, 4, .inl (cn 10))), (t3, .inl (cI, 4, .inl (cn 10))), (t4, .inl (cI, 4, .inl (upd (cn (-1)) (v1).toNatClampNeg v2))), (t5, .inl (cI, 4, .inl (cn 0))), (t6, .inl (cI, 4, .inl (cn 0))), (t7, .inl (cI, 4, .inl (cn 110)))] := hD
          refine lv_iload_n hx hb dX8_link_65 rfl (lv_at hl 0 rfl) ?_
          have hP9 := hP.sub (ws' := []) [] rfl
          have hD9 := hD.sub (ws' := []) [] (by decide) rfl
          have hK9 := hK.sub (tys' := [(cI, .int)]) [0] rfl
          refine W.widen (k := 1) (n := 6) (Nat.le_of_ble_eq_true rfl) (Nat.le_of_ble_eq_true rfl) ?_
          refine vx_ret ?_
          exact W.iret (v := (-1)) hx hb hr (fun t ht hW => ⟨⟨(-1), (), rfl, ⟨rfl, (by unfold sp_X8_link; rw [if_neg c_1, if_pos c_6, if_neg c_21, if_pos c_26])⟩, wOut_at ht hW hP9 hK9 hD9⟩, hS.F ht⟩) hS.2.2 dX8_link_66
        · obtain ⟨sa9, hstr9⟩ := hG.2.2.2.1 _ (List.mem_of_getElem? (i := 17) rfl)
          exact vx_throwS (sa := sa9) hx hb hl9 hown (by decide +kernel) (by decide +kernel) hw2 hw3 hstr9 (vx_hat (fun w hw => hts w (List.mem_cons_of_mem _ (List.mem_append_left _ (List.mem_append_right _ (hw))))) xh_35 (nw_use hN)) xg_35 hG.2.2.2.2.1 hG.2.2.2.2.2.1 hS (hl.1.trans hml.symm) dX8_link_29 dX8_link_32 dX8_link_33 dX8_link_35 dX8_link_38 (fun x9 hx9 => (htab x9 hx9).elim) (by decide) (by decide) (Nat.le_of_ble_eq_true rfl) (Nat.le_of_ble_eq_true rfl) hlocks (fun t hal hle hq => ⟨(), trivial, Or.inr (⟨rfl, (by unfold sp_X8_link; rw [if_neg c_1, if_pos c_6, if_neg c_21, if_neg c_26])⟩), ⟨Nat.le_trans hS.1 hle, fun q h1 h2 => (hq q (Nat.lt_of_lt_of_le h1 hS.1)).trans (hS.2.1 q h1 h2)⟩⟩) hS.2.2 (Nat.le_of_ble_eq_true rfl) (Nat.le_of_ble_eq_true rfl)
    · obtain ⟨sa9, hstr9⟩ := hG.2.2.2.1 _ (List.mem_of_getElem? (i := 16) rfl)
      exact vx_throwS (sa := sa9) hx hb hl9 hown (by decide +kernel) (by decide +kernel) hw0 hw1 hstr9 (vx_hat (fun w hw => hts w (List.mem_cons_of_mem _ (List.mem_append_left _ (List.mem_append_left _ (List.mem_append_right _ (hw)))))) xh_26 (nw_use hN)) xg_26 hG.2.2.2.2.1 hG.2.2.2.2.2.1 hS (hl.1.trans hml.symm) dX8_link_9 dX8_link_12 dX8_link_13 dX8_link_15 dX8_link_18 (fun x9 hx9 => (htab x9 hx9).elim) (by decide) (by decide) (Nat.le_of_ble_eq_true rfl) (Nat.le_of_ble_eq_true rfl) hlocks (fun t hal hle hq => ⟨(), trivial, Or.inl ⟨rfl, (by unfold sp_X8_link; rw [if_neg c_1, if_neg c_6])⟩, ⟨Nat.le_trans hS.1 hle, fun q h1 h2 => (hq q (Nat.lt_of_lt_of_le h1 hS.1)).trans (hS.2.1 q h1 h2)⟩⟩) hS.2.2 (Nat.le_of_ble_eq_true rfl) (Nat.le_of_ble_eq_true rfl)

def sp_X8_start (v1 : Int32) : Int32 := (if v1 < 0 then 1 else (if v1 < 4 then 0 else 1))
set_option maxHeartbeats 4000000 in
set_option maxRecDepth 100000 in
theorem c_X8_start (l : Launch) (hl9 : l.stackTraces = false) (dC : Nat → ClassId) (dI : Nat → Nat → Nat) (g : Nat × Nat × Nat) (xt : Nat) (xe : Nat) (xf : Nat) (ah : Nat) (ac : Nat) (au : Nat) (t1 : Nat) (t2 : Nat) (t3 : Nat) (t4 : Nat) (t5 : Nat) (t6 : Nat) (t7 : Nat) (ab : Nat) (an : Nat) (ak : Nat) (ad : Nat) (cI : ClassId) (v1 : Int32) (v2 : Int32) (sz : Nat) : vx_Met l yX8_start wsX8_start ({ frames := 6, cells := 1, slots := 6, locals := 100 } : Room) (va_Pc [.ref xt, .int v1, .int v2] (wIn dC dI g [(xt, .inr (12, [.ref ah, .ref xe, .ref xf])), (ah, .inr (4, [.ref ac, .ref au, .ref ab, .ref an, .ref ak, .ref ad, .int 0, .int 0, .long 0])), (au, .inr (10, [.ref t1, .ref t2, .ref t3, .ref t4, .ref t5, .ref t6, .ref t7, .int 0, .int 0])), (t1, .inl (cI, 4, .inl (cn 0))), (t2, .inl (cI, 4, .inl (cn 10))), (t3, .inl (cI, 4, .inl (cn 10))), (t4, .inl (cI, 4, .inl (cn (-1)))), (t5, .inl (cI, 4, .inl (cn 0))), (t6, .inl (cI, 4, .inl (cn 0))), (t7, .inl (cI, 4, .inl (cn 110)))] [(cI, .int)] sz)) (va_Qi (fun (r : Int32) (u : Unit) => r = 0 ∧ sp_X8_start v1 = 0) (fun (u : Unit) (t : State) => wOut dC dI [] [(cI, .int)] (va_A [(xt, .inr (12, [.ref ah, .ref xe, .ref xf])), (ah, .inr (4, [.ref ac, .ref au, .ref ab, .ref an, .ref ak, .ref ad, .int 0, .int 0, .long 0])), (au, .inr (10, [.ref t1, .ref t2, .ref t3, .ref t4, .ref t5, .ref t6, .ref t7, .int 0, .int 0])), (t1, .inl (cI, 4, .inl (cn 0))), (t2, .inl (cI, 4, .inl (cn 10))), (t3, .inl (cI, 4, .inl (cn 10))), (t4, .inl (cI, 4, .inl (cn (-1)))), (t5, .inl (cI, 4, .inl (cn 0))), (t6, .inl (cI, 4, .inl (cn 0))), (t7, .inl (cI, 4, .inl (cn 110)))] sz) t) (va_A [(xt, .inr (12, [.ref ah, .ref xe, .ref xf])), (ah, .inr (4, [.ref ac, .ref au, .ref ab, .ref an, .ref ak, .ref ad, .int 0, .int 0, .long 0])), (au, .inr (10, [.ref t1, .ref t2, .ref t3, .ref t4, .ref t5, .ref t6, .ref t7, .int 0, .int 0])), (t1, .inl (cI, 4, .inl (cn 0))), (t2, .inl (cI, 4, .inl (cn 10))), (t3, .inl (cI, 4, .inl (cn 10))), (t4, .inl (cI, 4, .inl (cn (-1)))), (t5, .inl (cI, 4, .inl (cn 0))), (t6, .inl (cI, 4, .inl (cn 0))), (t7, .inl (cI, 4, .inl (cn 110)))] sz)) (vx_X (fun (_ : Unit) => True) (fun (E : String) (_ : Unit) (_ : State) => (E = "java/lang/IndexOutOfBoundsException" ∧ sp_X8_start v1 = 1)) (va_A [(xt, .inr (12, [.ref ah, .ref xe, .ref xf])), (ah, .inr (4, [.ref ac, .ref au, .ref ab, .ref an, .ref ak, .ref ad, .int 0, .int 0, .long 0])), (au, .inr (10, [.ref t1, .ref t2, .ref t3, .ref t4, .ref t5, .ref t6, .ref t7, .int 0, .int 0])), (t1, .inl (cI, 4, .inl (cn 0))), (t2, .inl (cI, 4, .inl (cn 10))), (t3, .inl (cI, 4, .inl (cn 10))), (t4, .inl (cI, 4, .inl (cn (-1)))), (t5, .inl (cI, 4, .inl (cn 0))), (t6, .inl (cI, 4, .inl (cn 0))), (t7, .inl (cI, 4, .inl (cn 110)))] sz)) 1 6 (va_A [(xt, .inr (12, [.ref ah, .ref xe, .ref xf])), (ah, .inr (4, [.ref ac, .ref au, .ref ab, .ref an, .ref ak, .ref ad, .int 0, .int 0, .long 0])), (au, .inr (10, [.ref t1, .ref t2, .ref t3, .ref t4, .ref t5, .ref t6, .ref t7, .int 0, .int 0])), (t1, .inl (cI, 4, .inl (cn 0))), (t2, .inl (cI, 4, .inl (cn 10))), (t3, .inl (cI, 4, .inl (cn 10))), (t4, .inl (cI, 4, .inl (cn (-1)))), (t5, .inl (cI, 4, .inl (cn 0))), (t6, .inl (cI, 4, .inl (cn 0))), (t7, .inl (cI, 4, .inl (cn 110)))] sz) := by
  refine vx_ofW (cc := cX8_start) (maxL := 4) (ret := (some .boolean)) (by decide) rfl ?_
  intro p e s m args below meth c s₁ B hml htab hv
  obtain ⟨rfl, hsz, hP, hK, hD0, hG⟩ := hv
  have hx := B.exec
  have hb := B.bytes
  have hr := B.returns
  have hts := atoms_spec (ws := wsX8_start) B.pre
  have hown : s.vm.findClass RX8 = some m.cls := findClass_of_methodNamed B.named
  have hlocks := B.notSynchronized
  subst hsz
  have hD := hD0.self (sz := s.heap.size)
  generalize hAe : va_A [(xt, .inr (12, [.ref ah, .ref xe, .ref xf])), (ah, .inr (4, [.ref ac, .ref au, .ref ab, .ref an, .ref ak, .ref ad, .int 0, .int 0, .long 0])), (au, .inr (10, [.ref t1, .ref t2, .ref t3, .ref t4, .ref t5, .ref t6, .ref t7, .int 0, .int 0])), (t1, .inl (cI, 4, .inl (cn 0))), (t2, .inl (cI, 4, .inl (cn 10))), (t3, .inl (cI, 4, .inl (cn 10))), (t4, .inl (cI, 4, .inl (cn (-1)))), (t5, .inl (cI, 4, .inl (cn 0))), (t6, .inl (cI, 4, .inl (cn 0))), (t7, .inl (cI, 4, .inl (cn 110)))] s.heap.size = A at hD hG ⊢
  have hN := hG.1
  have hA : ∀ q : Nat, s.heap.size ≤ q → A q := fun q h => by rw [← hAe]; exact Or.inr h
  have hS : va_S A s.heap s.heap [] := va_S.rf
  have hP : va_P (dC, dI) vwCl [(xt, .inr (12, [.ref ah, .ref xe, .ref xf])), (ah, .inr (4, [.ref ac, .ref au, .ref ab, .ref an, .ref ak, .ref ad, .int 0, .int 0, .long 0])), (au, .inr (10, [.ref t1, .ref t2, .ref t3, .ref t4, .ref t5, .ref t6, .ref t7, .int 0, .int 0])), (t1, .inl (cI, 4, .inl (cn 0))), (t2, .inl (cI, 4, .inl (cn 10))), (t3, .inl (cI, 4, .inl (cn 10))), (t4, .inl (cI, 4, .inl (cn (-1)))), (t5, .inl (cI, 4, .inl (cn 0))), (t6, .inl (cI, 4, .inl (cn 0))), (t7, .inl (cI, 4, .inl (cn 110)))] s.heap := hP
  have hw0 : (Cond.classLink RX8 22 "java/lang/IndexOutOfBoundsException").before _ s = true := hts _ (List.mem_cons_of_mem _ (List.mem_append_left _ (List.mem_append_left _ (List.mem_append_left _ (List.mem_append_left _ (List.mem_of_getElem? (i := 0) rfl))))))
  have hw1 : (Cond.initialized "java/lang/IndexOutOfBoundsException").before _ s = true := hts _ (List.mem_cons_of_mem _ (List.mem_append_left _ (List.mem_append_left _ (List.mem_append_left _ (List.mem_append_left _ (List.mem_of_getElem? (i := 1) rfl))))))
  have hw2 : (Cond.fieldLink RX8 10 "Tickstation" "chip" "LTickstation$Chip;").before _ s = true := hts _ (List.mem_cons_of_mem _ (List.mem_append_left _ (List.mem_append_left _ (List.mem_append_left _ (List.mem_append_left _ (List.mem_of_getElem? (i := 2) rfl))))))
  have hiX8 : ∀ w ∈ u_ws RX8 TX8 3, w ∈ wsX8_start := fun _ h => List.mem_cons_of_mem _ (List.mem_append_left _ (List.mem_append_left _ (List.mem_append_left _ (List.mem_append_right _ (h)))))
  have hw4 : (Cond.fieldLink RX8 63 "Tickstation$Chip" "timers" "LTickstation$Timers;").before _ s = true := hts _ (List.mem_cons_of_mem _ (List.mem_append_left _ (List.mem_append_left _ (List.mem_append_left _ (List.mem_append_left _ (List.mem_of_getElem? (i := 3) rfl))))))
  have hiX0 : ∀ w ∈ u_ws RX0 TX0 9, w ∈ wsX8_start := fun _ h => List.mem_cons_of_mem _ (List.mem_append_left _ (List.mem_append_left _ (List.mem_append_right _ (h))))
  have hw6 : (Cond.fieldLink RX8 98 "Tickstation$Timers" "running" "I").before _ s = true := hts _ (List.mem_cons_of_mem _ (List.mem_append_left _ (List.mem_append_left _ (List.mem_append_left _ (List.mem_append_left _ (List.mem_of_getElem? (i := 4) rfl))))))
  have hiX6 : ∀ w ∈ u_ws RX6 TX6 9, w ∈ wsX8_start := fun _ h => List.mem_cons_of_mem _ (List.mem_append_left _ (List.mem_append_right _ (h)))
  have hl := lv_entry ([.ref xt, .int v1, .int v2]) (n := 4) (Nat.le_of_ble_eq_true rfl)
  rw [lg_entry_eq]
  generalize (lg_sl ([.ref xt, .int v1, .int v2]) ++ List.replicate (4 - (lg_sl ([.ref xt, .int v1, .int v2])).length) Slot.unset).toArray = ls at hl ⊢
  have hl : lv_has ls 4 [(0, .ref xt), (1, .int v1), (2, .int v2)] := hl
  refine lv_iload_n hx hb dX8_start_0 rfl (lv_at hl 1 rfl) ?_
  refine lv_if_lt (tgt := 9) hx hb dX8_start_1 (by decide) (fun c_1 => ?_) (fun c_1 => ?_)
  · obtain ⟨sa9, hstr9⟩ := hG.2.2.2.1 _ (List.mem_of_getElem? (i := 16) rfl)
    exact vx_throwS (sa := sa9) hx hb hl9 hown (by decide +kernel) (by decide +kernel) hw0 hw1 hstr9 (vx_hat (fun w hw => hts w (List.mem_cons_of_mem _ (List.mem_append_right _ (hw)))) xh_26 (nw_use hN)) xg_26 hG.2.2.2.2.1 hG.2.2.2.2.2.1 hS (hl.1.trans hml.symm) dX8_start_9 dX8_start_12 dX8_start_13 dX8_start_15 dX8_start_18 (fun x9 hx9 => (htab x9 hx9).elim) (by decide) (by decide) (Nat.le_of_ble_eq_true rfl) (Nat.le_of_ble_eq_true rfl) hlocks (fun t hal hle hq => ⟨(), trivial, ⟨rfl, (by unfold sp_X8_start; rw [if_pos c_1])⟩, ⟨Nat.le_trans hS.1 hle, fun q h1 h2 => (hq q (Nat.lt_of_lt_of_le h1 hS.1)).trans (hS.2.1 q h1 h2)⟩⟩) hS.2.2 (Nat.le_of_ble_eq_true rfl) (Nat.le_of_ble_eq_true rfl)
  · refine lv_iload_n hx hb dX8_start_4 rfl (lv_at hl 1 rfl) ?_
    refine lv_iconst (v := 4) hx hb dX8_start_5 (by decide) ?_
    refine lv_icmp_lt (tgt := 19) hx hb dX8_start_6 (by decide) (fun c_6 => ?_) (fun c_6 => ?_)
    · refine lv_aload_n hx hb dX8_start_19 rfl (lv_at hl 0 rfl) ?_
      refine va_get (D := (dC, dI)) (ci := 12) (v := .ref ah) (C := RX8) (T := TX8) (N := 3) hx hb hts hiX8 hown hK hP 0 rfl rfl 0 (by decide) (hw2) (fun _ h9 => h9) rfl dX8_start_20 ?_
      refine va_get (D := (dC, dI)) (ci := 4) (v := .ref au) (C := RX0) (T := TX0) (N := 9) hx hb hts hiX0 hown hK hP 1 rfl rfl 1 (by decide) (hw4) (fun _ h9 => h9) rfl dX8_start_23 ?_
      refine va_get (D := (dC, dI)) (ci := 10) (v := .int 0) (C := RX6) (T := TX6) (N := 9) hx hb hts hiX6 hown hK hP 2 rfl rfl 8 (by decide) (hw6) (fun _ h9 => h9) rfl dX8_start_26 ?_
      refine lv_iload_n hx hb dX8_start_29 rfl (lv_at hl 1 rfl) ?_
      have hPc := hP.sub (ws' := []) [] rfl
      have hDc := hD.sub (ws' := []) [] (by decide) rfl
      have hKc := hK.sub (tys' := []) [] rfl
      have hFc := va_free (wc := []) hD hS hA [] rfl
      refine va_calli (va_runS (As := [.int 0, .int v1]) (rest := []) ⟨hx, hb, hml, hown, hts⟩ (c_X8_hasBit_0 l dC dI g 0 v1 s.heap.size (zsh _)) (va_cwS 2 hts gX8_start_X8_hasBit rfl rfl rfl (by decide +kernel) ⟨Nat.le_of_ble_eq_true rfl, Nat.le_of_ble_eq_true rfl⟩) ⟨wIn_blind, wIn_at hPc hKc hDc hG hS hFc⟩ rfl rfl hl.1 rfl (lv_room (Nat.le_of_ble_eq_true rfl)) dX8_start_30 ⟨Nat.le_of_ble_eq_true rfl, Nat.le_of_ble_eq_true rfl⟩) hS (fun q _ h => hFc q h) hFc (fun r_1 u t H1 locs ht hvm hw hB hz1 hk1 hS => ?_)
      obtain ⟨hP1, hK1, hD1⟩ := hB
      rw [ht] at hP1
      obtain ⟨hP, hD⟩ := va_join (wr := [(xt, .inr (12, [.ref ah, .ref xe, .ref xf])), (ah, .inr (4, [.ref ac, .ref au, .ref ab, .ref an, .ref ak, .ref ad, .int 0, .int 0, .long 0])), (au, .inr (10, [.ref t1, .ref t2, .ref t3, .ref t4, .ref t5, .ref t6, .ref t7, .int 0, .int 0])), (t1, .inl (cI, 4, .inl (cn 0))), (t2, .inl (cI, 4, .inl (cn 10))), (t3, .inl (cI, 4, .inl (cn 10))), (t4, .inl (cI, 4, .inl (cn (-1)))), (t5, .inl (cI, 4, .inl (cn 0))), (t6, .inl (cI, 4, .inl (cn 0))), (t7, .inl (cI, 4, .inl (cn 110)))]) (w1 := []) hP hD [] [0, 1, 2, 3, 4, 5, 6, 7, 8, 9] rfl rfl (by decide) (by decide) hk1 hFc hP1 hD1
      generalize H1 = H at hP hS ⊢
      have hP : va_P (dC, dI) vwCl [(xt, .inr (12, [.ref ah, .ref xe, .ref xf])), (ah, .inr (4, [.ref ac, .ref au, .ref ab, .ref an, .ref ak, .ref ad, .int 0, .int 0, .long 0])), (au, .inr (10, [.ref t1, .ref t2, .ref t3, .ref t4, .ref t5, .ref t6, .ref t7, .int 0, .int 0])), (t1, .inl (cI, 4, .inl (cn 0))), (t2, .inl (cI, 4, .inl (cn 10))), (t3, .inl (cI, 4, .inl (cn 10))), (t4, .inl (cI, 4, .inl (cn (-1)))), (t5, .inl (cI, 4, .inl (cn 0))), (t6, .inl (cI, 4, .inl (cn 0))), (t7, .inl (cI, 4, .inl (cn 110)))] H := hP
      have hD : va_D A [(xt, .inr (12, [.ref ah, .ref xe, .ref xf])), (ah, .inr (4, [.ref ac, .ref au, .ref ab, .ref an, .ref ak, .ref ad, .int 0, .int 0, .long 0])), (au, .inr (10, [.ref t1, .ref t2, .ref t3, .ref t4, .ref t5, .ref t6, .ref t7, .int 0, .int 0])), (t1, .inl (cI, 4, .inl (cn 0))), (t2, .inl (cI, 4, .inl (cn 10))), (t3, .inl (cI, 4, .inl (cn 10))), (t4, .inl (cI, 4, .inl (cn (-1)))), (t5, .inl (cI, 4, .inl (cn 0))), (t6, .inl (cI, 4, .inl (cn 0))), (t7, .inl (cI, 4, .inl (cn 110)))] := hD
      refine lt_ci (y := 0) hw ?_
      refine lv_istore_n (lv' := [(3, .int 0), (0, .ref xt), (1, .int v1), (2, .int v2)]) hx hb dX8_start_33 rfl hl (by decide) rfl (fun ls hl => ?_)
      refine lv_aload_n hx hb dX8_start_34 rfl (lv_at hl 1 rfl) ?_
      refine va_get (D := (dC, dI)) (ci := 12) (v := .ref ah) (C := RX8) (T := TX8) (N := 3) hx hb hts hiX8 hown hK hP 0 rfl rfl 0 (by decide) (hw2) (fun _ h9 => h9) rfl dX8_start_35 ?_
      refine va_get (D := (dC, dI)) (ci := 4) (v := .ref au) (C := RX0) (T := TX0) (N := 9) hx hb hts hiX0 hown hK hP 1 rfl rfl 1 (by decide) (hw4) (fun _ h9 => h9) rfl dX8_start_38 ?_
      refine lv_aload_n hx hb dX8_start_41 rfl (lv_at hl 1 rfl) ?_
      refine va_get (D := (dC, dI)) (ci := 12) (v := .ref ah) (C := RX8) (T := TX8) (N := 3) hx hb hts hiX8 hown hK hP 0 rfl rfl 0 (by decide) (hw2) (fun _ h9 => h9) rfl dX8_start_42 ?_
      refine va_get (D := (dC, dI)) (ci := 4) (v := .ref au) (C := RX0) (T := TX0) (N := 9) hx hb hts hiX0 hown hK hP 1 rfl rfl 1 (by decide) (hw4) (fun _ h9 => h9) rfl dX8_start_45 ?_
      refine va_get (D := (dC, dI)) (ci := 10) (v := .int 0) (C := RX6) (T := TX6) (N := 9) hx hb hts hiX6 hown hK hP 2 rfl rfl 8 (by decide) (hw6) (fun _ h9 => h9) rfl dX8_start_48 ?_
      refine lv_iload_n hx hb dX8_start_51 rfl (lv_at hl 2 rfl) ?_
      refine lv_iload_n hx hb dX8_start_52 rfl (lv_at hl 3 rfl) ?_
      have hPc := hP.sub (ws' := []) [] rfl
      have hDc := hD.sub (ws' := []) [] (by decide) rfl
      have hKc := hK.sub (tys' := []) [] rfl
      have hFc := va_free (wc := []) hD hS hA [] rfl
      refine va_calli (va_runS (As := [.int 0, .int v1, .int v2]) (rest := [.ref au]) ⟨hx, hb, hml, hown, hts⟩ (c_X8_withBit_any l dC dI g 0 v1 v2 H.size) (va_cwS 3 hts gX8_start_X8_withBit rfl rfl rfl (by decide +kernel) ⟨Nat.le_of_ble_eq_true rfl, Nat.le_of_ble_eq_true rfl⟩) ⟨wIn_blind, wIn_at hPc hKc hDc hG hS hFc⟩ rfl rfl hl.1 rfl (lv_room (Nat.le_of_ble_eq_true rfl)) dX8_start_53 ⟨Nat.le_of_ble_eq_true rfl, Nat.le_of_ble_eq_true rfl⟩) hS (fun q _ h => hFc q h) hFc (fun r_2 u t H1 locs ht hvm hw hB hz1 hk1 hS => ?_)
      obtain ⟨hP1, hK1, hD1⟩ := hB
      rw [ht] at hP1
      obtain ⟨hP, hD⟩ := va_join (wr := [(xt, .inr (12, [.ref ah, .ref xe, .ref xf])), (ah, .inr (4, [.ref ac, .ref au, .ref ab, .ref an, .ref ak, .ref ad, .int 0, .int 0, .long 0])), (au, .inr (10, [.ref t1, .ref t2, .ref t3, .ref t4, .ref t5, .ref t6, .ref t7, .int 0, .int 0])), (t1, .inl (cI, 4, .inl (cn 0))), (t2, .inl (cI, 4, .inl (cn 10))), (t3, .inl (cI, 4, .inl (cn 10))), (t4, .inl (cI, 4, .inl (cn (-1)))), (t5, .inl (cI, 4, .inl (cn 0))), (t6, .inl (cI, 4, .inl (cn 0))), (t7, .inl (cI, 4, .inl (cn 110)))]) (w1 := []) hP hD [] [0, 1, 2, 3, 4, 5, 6, 7, 8, 9] rfl rfl (by decide) (by decide) hk1 hFc hP1 hD1
      generalize H1 = H at hP hS ⊢
      have hP : va_P (dC, dI) vwCl [(xt, .inr (12, [.ref ah, .ref xe, .ref xf])), (ah, .inr (4, [.ref ac, .ref au, .ref ab, .ref an, .ref ak, .ref ad, .int 0, .int 0, .long 0])), (au, .inr (10, [.ref t1, .ref t2, .ref t3, .ref t4, .ref t5, .ref t6, .ref t7, .int 0, .int 0])), (t1, .inl (cI, 4, .inl (cn 0))), (t2, .inl (cI, 4, .inl (cn 10))), (t3, .inl (cI, 4, .inl (cn 10))), (t4, .inl (cI, 4, .inl (cn (-1)))), (t5, .inl (cI, 4, .inl (cn 0))), (t6, .inl (cI, 4, .inl (cn 0))), (t7, .inl (cI, 4, .inl (cn 110)))] H := hP
      have hD : va_D A [(xt, .inr (12, [.ref ah, .ref xe, .ref xf])), (ah, .inr (4, [.ref ac, .ref au, .ref ab, .ref an, .ref ak, .ref ad, .int 0, .int 0, .long 0])), (au, .inr (10, [.ref t1, .ref t2, .ref t3, .ref t4, .ref t5, .ref t6, .ref t7, .int 0, .int 0])), (t1, .inl (cI, 4, .inl (cn 0))), (t2, .inl (cI, 4, .inl (cn 10))), (t3, .inl (cI, 4, .inl (cn 10))), (t4, .inl (cI, 4, .inl (cn (-1)))), (t5, .inl (cI, 4, .inl (cn 0))), (t6, .inl (cI, 4, .inl (cn 0))), (t7, .inl (cI, 4, .inl (cn 110)))] := hD
      have hw_3 : True := hw
      refine va_put (D := (dC, dI)) (ci := 10) (v := .int r_2) (ty := .int) (C := RX6) (T := TX6) (N := 9) hx hb hts hiX6 tyX6 tyX6_ok nmX6 hown hK hP hD hS 2 rfl rfl 8 (by decide) (hw6) (fun _ h9 => h9) rfl (by decide +kernel) rfl rfl (Nat.le_of_ble_eq_true rfl) dX8_start_56 (fun H locs hP hD hS => ?_)
      have hP : va_P (dC, dI) vwCl [(xt, .inr (12, [.ref ah, .ref xe, .ref xf])), (ah, .inr (4, [.ref ac, .ref au, .ref ab, .ref an, .ref ak, .ref ad, .int 0, .int 0, .long 0])), (au, .inr (10, [.ref t1, .ref t2, .ref t3, .ref t4, .ref t5, .ref t6, .ref t7, .int 0, .int r_2])), (t1, .inl (cI, 4, .inl (cn 0))), (t2, .inl (cI, 4, .inl (cn 10))), (t3, .inl (cI, 4, .inl (cn 10))), (t4, .inl (cI, 4, .inl (cn (-1)))), (t5, .inl (cI, 4, .inl (cn 0))), (t6, .inl (cI, 4, .inl (cn 0))), (t7, .inl (cI, 4, .inl (cn 110)))] H := hP
      have hD : va_D A [(xt, .inr (12, [.ref ah, .ref xe, .ref xf])), (ah, .inr (4, [.ref ac, .ref au, .ref ab, .ref an, .ref ak, .ref ad, .int 0, .int 0, .long 0])), (au, .inr (10, [.ref t1, .ref t2, .ref t3, .ref t4, .ref t5, .ref t6, .ref t7, .int 0, .int r_2])), (t1, .inl (cI, 4, .inl (cn 0))), (t2, .inl (cI, 4, .inl (cn 10))), (t3, .inl (cI, 4, .inl (cn 10))), (t4, .inl (cI, 4, .inl (cn (-1)))), (t5, .inl (cI, 4, .inl (cn 0))), (t6, .inl (cI, 4, .inl (cn 0))), (t7, .inl (cI, 4, .inl (cn 110)))] := hD
      refine lv_iload_n hx hb dX8_start_59 rfl (lv_at hl 0 rfl) ?_
      have hP9 := hP.sub (ws' := []) [] rfl
      have hD9 := hD.sub (ws' := []) [] (by decide) rfl
      have hK9 := hK.sub (tys' := [(cI, .int)]) [0] rfl
      refine W.widen (k := 1) (n := 6) (Nat.le_of_ble_eq_true rfl) (Nat.le_of_ble_eq_true rfl) ?_
      refine vx_ret ?_
      exact W.zret (v := 0) hx hb hr (by first | rfl | decide) (fun t ht hW => ⟨⟨0, (), rfl, ⟨rfl, (by unfold sp_X8_start; rw [if_neg c_1, if_pos c_6])⟩, wOut_at ht hW hP9 hK9 hD9⟩, hS.F ht⟩) hS.2.2 dX8_start_60
    · obtain ⟨sa9, hstr9⟩ := hG.2.2.2.1 _ (List.mem_of_getElem? (i := 16) rfl)
      exact vx_throwS (sa := sa9) hx hb hl9 hown (by decide +kernel) (by decide +kernel) hw0 hw1 hstr9 (vx_hat (fun w hw => hts w (List.mem_cons_of_mem _ (List.mem_append_right _ (hw)))) xh_26 (nw_use hN)) xg_26 hG.2.2.2.2.1 hG.2.2.2.2.2.1 hS (hl.1.trans hml.symm) dX8_start_9 dX8_start_12 dX8_start_13 dX8_start_15 dX8_start_18 (fun x9 hx9 => (htab x9 hx9).elim) (by decide) (by decide) (Nat.le_of_ble_eq_true rfl) (Nat.le_of_ble_eq_true rfl) hlocks (fun t hal hle hq => ⟨(), trivial, ⟨rfl, (by unfold sp_X8_start; rw [if_neg c_1, if_neg c_6])⟩, ⟨Nat.le_trans hS.1 hle, fun q h1 h2 => (hq q (Nat.lt_of_lt_of_le h1 hS.1)).trans (hS.2.1 q h1 h2)⟩⟩) hS.2.2 (Nat.le_of_ble_eq_true rfl) (Nat.le_of_ble_eq_true rfl)

def sp_X8_setLine (v1 : Int32) (v2 : Int32) : Int32 := (if v1 < 0 then 1 else (if v1 < 8 then (if v2 < 0 then 2 else (if v2 ≤ 7 then 0 else 2)) else 1))
set_option maxHeartbeats 4000000 in
set_option maxRecDepth 100000 in
theorem c_X8_setLine (l : Launch) (hl9 : l.stackTraces = false) (dC : Nat → ClassId) (dI : Nat → Nat → Nat) (g : Nat × Nat × Nat) (xt : Nat) (xe : Nat) (xf : Nat) (ah : Nat) (ac : Nat) (au : Nat) (ab : Nat) (an : Nat) (n1 : Nat) (n2 : Nat) (n3 : Nat) (n4 : Nat) (n5 : Nat) (ak : Nat) (ad : Nat) (cI : ClassId) (v1 : Int32) (v2 : Int32) (v3 : Int32) (sz : Nat) : vx_Met l yX8_setLine wsX8_setLine ({ frames := 6, cells := 1, slots := 6, locals := 100 } : Room) (va_Pc [.ref xt, .int v1, .int v2, .int v3] (wIn dC dI g [(xt, .inr (12, [.ref ah, .ref xe, .ref xf])), (ah, .inr (4, [.ref ac, .ref au, .ref ab, .ref an, .ref ak, .ref ad, .int 0, .int 0, .long 0])), (an, .inr (6, [.ref n1, .ref n2, .ref n3, .ref n4, .ref n5, .int 0, .int 0])), (n1, .inl (cI, 8, .inl (cn 7))), (n2, .inl (cI, 8, .inl (cn 1))), (n3, .inl (cI, 8, .inl (cn 110))), (n4, .inl (cI, 8, .inl (cn 0))), (n5, .inl (cI, 8, .inl (cn 0)))] [(cI, .int)] sz)) (va_Qi (fun (r : Int32) (u : Unit) => r = 7 ∧ sp_X8_setLine v1 v2 = 0) (fun (u : Unit) (t : State) => wOut dC dI [] [(cI, .int)] (va_A [(xt, .inr (12, [.ref ah, .ref xe, .ref xf])), (ah, .inr (4, [.ref ac, .ref au, .ref ab, .ref an, .ref ak, .ref ad, .int 0, .int 0, .long 0])), (an, .inr (6, [.ref n1, .ref n2, .ref n3, .ref n4, .ref n5, .int 0, .int 0])), (n1, .inl (cI, 8, .inl (cn 7))), (n2, .inl (cI, 8, .inl (cn 1))), (n3, .inl (cI, 8, .inl (cn 110))), (n4, .inl (cI, 8, .inl (cn 0))), (n5, .inl (cI, 8, .inl (cn 0)))] sz) t) (va_A [(xt, .inr (12, [.ref ah, .ref xe, .ref xf])), (ah, .inr (4, [.ref ac, .ref au, .ref ab, .ref an, .ref ak, .ref ad, .int 0, .int 0, .long 0])), (an, .inr (6, [.ref n1, .ref n2, .ref n3, .ref n4, .ref n5, .int 0, .int 0])), (n1, .inl (cI, 8, .inl (cn 7))), (n2, .inl (cI, 8, .inl (cn 1))), (n3, .inl (cI, 8, .inl (cn 110))), (n4, .inl (cI, 8, .inl (cn 0))), (n5, .inl (cI, 8, .inl (cn 0)))] sz)) (vx_X (fun (_ : Unit) => True) (fun (E : String) (_ : Unit) (_ : State) => (E = "java/lang/IndexOutOfBoundsException" ∧ sp_X8_setLine v1 v2 = 1) ∨ (E = "java/lang/IllegalArgumentException" ∧ sp_X8_setLine v1 v2 = 2)) (va_A [(xt, .inr (12, [.ref ah, .ref xe, .ref xf])), (ah, .inr (4, [.ref ac, .ref au, .ref ab, .ref an, .ref ak, .ref ad, .int 0, .int 0, .long 0])), (an, .inr (6, [.ref n1, .ref n2, .ref n3, .ref n4, .ref n5, .int 0, .int 0])), (n1, .inl (cI, 8, .inl (cn 7))), (n2, .inl (cI, 8, .inl (cn 1))), (n3, .inl (cI, 8, .inl (cn 110))), (n4, .inl (cI, 8, .inl (cn 0))), (n5, .inl (cI, 8, .inl (cn 0)))] sz)) 1 6 (va_A [(xt, .inr (12, [.ref ah, .ref xe, .ref xf])), (ah, .inr (4, [.ref ac, .ref au, .ref ab, .ref an, .ref ak, .ref ad, .int 0, .int 0, .long 0])), (an, .inr (6, [.ref n1, .ref n2, .ref n3, .ref n4, .ref n5, .int 0, .int 0])), (n1, .inl (cI, 8, .inl (cn 7))), (n2, .inl (cI, 8, .inl (cn 1))), (n3, .inl (cI, 8, .inl (cn 110))), (n4, .inl (cI, 8, .inl (cn 0))), (n5, .inl (cI, 8, .inl (cn 0)))] sz) := by
  refine vx_ofW (cc := cX8_setLine) (maxL := 6) (ret := (some .int)) (by decide) rfl ?_
  intro p e s m args below meth c s₁ B hml htab hv
  obtain ⟨rfl, hsz, hP, hK, hD0, hG⟩ := hv
  have hx := B.exec
  have hb := B.bytes
  have hr := B.returns
  have hts := atoms_spec (ws := wsX8_setLine) B.pre
  have hown : s.vm.findClass RX8 = some m.cls := findClass_of_methodNamed B.named
  have hlocks := B.notSynchronized
  subst hsz
  have hD := hD0.self (sz := s.heap.size)
  generalize hAe : va_A [(xt, .inr (12, [.ref ah, .ref xe, .ref xf])), (ah, .inr (4, [.ref ac, .ref au, .ref ab, .ref an, .ref ak, .ref ad, .int 0, .int 0, .long 0])), (an, .inr (6, [.ref n1, .ref n2, .ref n3, .ref n4, .ref n5, .int 0, .int 0])), (n1, .inl (cI, 8, .inl (cn 7))), (n2, .inl (cI, 8, .inl (cn 1))), (n3, .inl (cI, 8, .inl (cn 110))), (n4, .inl (cI, 8, .inl (cn 0))), (n5, .inl (cI, 8, .inl (cn 0)))] s.heap.size = A at hD hG ⊢
  have hN := hG.1
  have hA : ∀ q : Nat, s.heap.size ≤ q → A q := fun q h => by rw [← hAe]; exact Or.inr h
  have hS : va_S A s.heap s.heap [] := va_S.rf
  have hP : va_P (dC, dI) vwCl [(xt, .inr (12, [.ref ah, .ref xe, .ref xf])), (ah, .inr (4, [.ref ac, .ref au, .ref ab, .ref an, .ref ak, .ref ad, .int 0, .int 0, .long 0])), (an, .inr (6, [.ref n1, .ref n2, .ref n3, .ref n4, .ref n5, .int 0, .int 0])), (n1, .inl (cI, 8, .inl (cn 7))), (n2, .inl (cI, 8, .inl (cn 1))), (n3, .inl (cI, 8, .inl (cn 110))), (n4, .inl (cI, 8, .inl (cn 0))), (n5, .inl (cI, 8, .inl (cn 0)))] s.heap := hP
  have hw0 : (Cond.classLink RX8 22 "java/lang/IndexOutOfBoundsException").before _ s = true := hts _ (List.mem_cons_of_mem _ (List.mem_append_left _ (List.mem_append_left _ (List.mem_append_left _ (List.mem_append_left _ (List.mem_append_left _ (List.mem_append_left _ (List.mem_of_getElem? (i := 0) rfl))))))))
  have hw1 : (Cond.initialized "java/lang/IndexOutOfBoundsException").before _ s = true := hts _ (List.mem_cons_of_mem _ (List.mem_append_left _ (List.mem_append_left _ (List.mem_append_left _ (List.mem_append_left _ (List.mem_append_left _ (List.mem_append_left _ (List.mem_of_getElem? (i := 1) rfl))))))))
  have hw2 : (Cond.classLink RX8 31 "java/lang/IllegalArgumentException").before _ s = true := hts _ (List.mem_cons_of_mem _ (List.mem_append_left _ (List.mem_append_left _ (List.mem_append_left _ (List.mem_append_left _ (List.mem_append_left _ (List.mem_append_left _ (List.mem_of_getElem? (i := 2) rfl))))))))
  have hw3 : (Cond.initialized "java/lang/IllegalArgumentException").before _ s = true := hts _ (List.mem_cons_of_mem _ (List.mem_append_left _ (List.mem_append_left _ (List.mem_append_left _ (List.mem_append_left _ (List.mem_append_left _ (List.mem_append_left _ (List.mem_of_getElem? (i := 3) rfl))))))))
  have hw4 : (Cond.fieldLink RX8 10 "Tickstation" "chip" "LTickstation$Chip;").before _ s = true := hts _ (List.mem_cons_of_mem _ (List.mem_append_left _ (List.mem_append_left _ (List.mem_append_left _ (List.mem_append_left _ (List.mem_append_left _ (List.mem_append_left _ (List.mem_of_getElem? (i := 4) rfl))))))))
  have hiX8 : ∀ w ∈ u_ws RX8 TX8 3, w ∈ wsX8_setLine := fun _ h => List.mem_cons_of_mem _ (List.mem_append_left _ (List.mem_append_left _ (List.mem_append_left _ (List.mem_append_left _ (List.mem_append_left _ (List.mem_append_right _ (h)))))))
  have hw6 : (Cond.fieldLink RX8 109 "Tickstation$Chip" "lines" "LTickstation$Lines;").before _ s = true := hts _ (List.mem_cons_of_mem _ (List.mem_append_left _ (List.mem_append_left _ (List.mem_append_left _ (List.mem_append_left _ (List.mem_append_left _ (List.mem_append_left _ (List.mem_of_getElem? (i := 5) rfl))))))))
  have hiX0 : ∀ w ∈ u_ws RX0 TX0 9, w ∈ wsX8_setLine := fun _ h => List.mem_cons_of_mem _ (List.mem_append_left _ (List.mem_append_left _ (List.mem_append_left _ (List.mem_append_left _ (List.mem_append_right _ (h))))))
  have hw8 : (Cond.fieldLink RX8 113 "Tickstation$Lines" "rank" "[I").before _ s = true := hts _ (List.mem_cons_of_mem _ (List.mem_append_left _ (List.mem_append_left _ (List.mem_append_left _ (List.mem_append_left _ (List.mem_append_left _ (List.mem_append_left _ (List.mem_of_getElem? (i := 6) rfl))))))))
  have hiX2 : ∀ w ∈ u_ws RX2 TX2 7, w ∈ wsX8_setLine := fun _ h => List.mem_cons_of_mem _ (List.mem_append_left _ (List.mem_append_left _ (List.mem_append_left _ (List.mem_append_right _ (h)))))
  have hw10 : (Cond.fieldLink RX8 118 "Tickstation$Lines" "enabled" "I").before _ s = true := hts _ (List.mem_cons_of_mem _ (List.mem_append_left _ (List.mem_append_left _ (List.mem_append_left _ (List.mem_append_left _ (List.mem_append_left _ (List.mem_append_left _ (List.mem_of_getElem? (i := 7) rfl))))))))
  have hl := lv_entry ([.ref xt, .int v1, .int v2, .int v3]) (n := 6) (Nat.le_of_ble_eq_true rfl)
  rw [lg_entry_eq]
  generalize (lg_sl ([.ref xt, .int v1, .int v2, .int v3]) ++ List.replicate (6 - (lg_sl ([.ref xt, .int v1, .int v2, .int v3])).length) Slot.unset).toArray = ls at hl ⊢
  have hl : lv_has ls 6 [(0, .ref xt), (1, .int v1), (2, .int v2), (3, .int v3)] := hl
  refine lv_iload_n hx hb dX8_setLine_0 rfl (lv_at hl 1 rfl) ?_
  refine lv_if_lt (tgt := 10) hx hb dX8_setLine_1 (by decide) (fun c_1 => ?_) (fun c_1 => ?_)
  · obtain ⟨sa9, hstr9⟩ := hG.2.2.2.1 _ (List.mem_of_getElem? (i := 0) rfl)
    exact vx_throwS (sa := sa9) hx hb hl9 hown (by decide +kernel) (by decide +kernel) hw0 hw1 hstr9 (vx_hat (fun w hw => hts w (List.mem_cons_of_mem _ (List.mem_append_left _ (List.mem_append_left _ (List.mem_append_right _ (hw)))))) xh_26 (nw_use hN)) xg_26 hG.2.2.2.2.1 hG.2.2.2.2.2.1 hS (hl.1.trans hml.symm) dX8_setLine_10 dX8_setLine_13 dX8_setLine_14 dX8_setLine_16 dX8_setLine_19 (fun x9 hx9 => (htab x9 hx9).elim) (by decide) (by decide) (Nat.le_of_ble_eq_true rfl) (Nat.le_of_ble_eq_true rfl) hlocks (fun t hal hle hq => ⟨(), trivial, Or.inl ⟨rfl, (by unfold sp_X8_setLine; rw [if_pos c_1])⟩, ⟨Nat.le_trans hS.1 hle, fun q h1 h2 => (hq q (Nat.lt_of_lt_of_le h1 hS.1)).trans (hS.2.1 q h1 h2)⟩⟩) hS.2.2 (Nat.le_of_ble_eq_true rfl) (Nat.le_of_ble_eq_true rfl)
  · refine lv_iload_n hx hb dX8_setLine_4 rfl (lv_at hl 1 rfl) ?_
    refine lv_bipush (v := 8) hx hb dX8_setLine_5 (by decide) ?_
    refine lv_icmp_lt (tgt := 20) hx hb dX8_setLine_7 (by decide) (fun c_7 => ?_) (fun c_7 => ?_)
    · refine lv_iload_n hx hb dX8_setLine_20 rfl (lv_at hl 2 rfl) ?_
      refine lv_if_lt (tgt := 30) hx hb dX8_setLine_21 (by decide) (fun c_21 => ?_) (fun c_21 => ?_)
      · obtain ⟨sa9, hstr9⟩ := hG.2.2.2.1 _ (List.mem_of_getElem? (i := 1) rfl)
        exact vx_throwS (sa := sa9) hx hb hl9 hown (by decide +kernel) (by decide +kernel) hw2 hw3 hstr9 (vx_hat (fun w hw => hts w (List.mem_cons_of_mem _ (List.mem_append_left _ (List.mem_append_right _ (hw))))) xh_35 (nw_use hN)) xg_35 hG.2.2.2.2.1 hG.2.2.2.2.2.1 hS (hl.1.trans hml.symm) dX8_setLine_30 dX8_setLine_33 dX8_setLine_34 dX8_setLine_36 dX8_setLine_39 (fun x9 hx9 => (htab x9 hx9).elim) (by decide) (by decide) (Nat.le_of_ble_eq_true rfl) (Nat.le_of_ble_eq_true rfl) hlocks (fun t hal hle hq => ⟨(), trivial, Or.inr (⟨rfl, (by unfold sp_X8_setLine; rw [if_neg c_1, if_pos c_7, if_pos c_21])⟩), ⟨Nat.le_trans hS.1 hle, fun q h1 h2 => (hq q (Nat.lt_of_lt_of_le h1 hS.1)).trans (hS.2.1 q h1 h2)⟩⟩) hS.2.2 (Nat.le_of_ble_eq_true rfl) (Nat.le_of_ble_eq_true rfl)
      · refine lv_iload_n hx hb dX8_setLine_24 rfl (lv_at hl 2 rfl) ?_
        refine lv_bipush (v := 7) hx hb dX8_setLine_25 (by decide) ?_
        refine lv_icmp_le (tgt := 40) hx hb dX8_setLine_27 (by decide) (fun c_27 => ?_) (fun c_27 => ?_)
        · refine lv_aload_n hx hb dX8_setLine_40 rfl (lv_at hl 0 rfl) ?_
          refine va_get (D := (dC, dI)) (ci := 12) (v := .ref ah) (C := RX8) (T := TX8) (N := 3) hx hb hts hiX8 hown hK hP 0 rfl rfl 0 (by decide) (hw4) (fun _ h9 => h9) rfl dX8_setLine_41 ?_
          refine va_get (D := (dC, dI)) (ci := 4) (v := .ref an) (C := RX0) (T := TX0) (N := 9) hx hb hts hiX0 hown hK hP 1 rfl rfl 3 (by decide) (hw6) (fun _ h9 => h9) rfl dX8_setLine_44 ?_
          refine lv_astore (lv' := [(4, .ref an), (0, .ref xt), (1, .int v1), (2, .int v2), (3, .int v3)]) hx hb dX8_setLine_47 hl (by decide) rfl (fun ls hl => ?_)
          refine lv_aload hx hb dX8_setLine_49 (lv_at hl 0 rfl) ?_
          refine va_get (D := (dC, dI)) (ci := 6) (v := .ref n1) (C := RX2) (T := TX2) (N := 7) hx hb hts hiX2 hown hK hP 2 rfl rfl 0 (by decide) (hw8) (fun _ h9 => h9) rfl dX8_setLine_51 ?_
          refine lv_iload_n hx hb dX8_setLine_54 rfl (lv_at hl 2 rfl) ?_
          refine va_iald (D := (dC, dI)) hx hb hK hP 3 0 rfl rfl (vp_in_iff.mpr ⟨i_l0 c_1, i_u8 c_7⟩) dX8_setLine_55 ?_
          refine lt_ci (y := 7) rfl ?_
          refine lv_istore (lv' := [(5, .int 7), (4, .ref an), (0, .ref xt), (1, .int v1), (2, .int v2), (3, .int v3)]) hx hb dX8_setLine_56 hl (by decide) rfl (fun ls hl => ?_)
          refine lv_aload hx hb dX8_setLine_58 (lv_at hl 1 rfl) ?_
          refine va_get (D := (dC, dI)) (ci := 6) (v := .ref n1) (C := RX2) (T := TX2) (N := 7) hx hb hts hiX2 hown hK hP 2 rfl rfl 0 (by decide) (hw8) (fun _ h9 => h9) rfl dX8_setLine_60 ?_
          refine lv_iload_n hx hb dX8_setLine_63 rfl (lv_at hl 3 rfl) ?_
          refine lv_iload_n hx hb dX8_setLine_64 rfl (lv_at hl 4 rfl) ?_
          refine va_iast (D := (dC, dI)) hx hb hK hP hD hS 3 0 rfl rfl (vp_in_iff.mpr ⟨i_l0 c_1, i_u8 c_7⟩) dX8_setLine_65 (fun H locs hP hD hS => ?_)
          have hP : va_P (dC, dI) vwCl [(xt, .inr (12, [.ref ah, .ref xe, .ref xf])), (ah, .inr (4, [.ref ac, .ref au, .ref ab, .ref an, .ref ak, .ref ad, .int 0, .int 0, .long 0])), (an, .inr (6, [.ref n1, .ref n2, .ref n3, .ref n4, .ref n5, .int 0, .int 0])), (n1, .inl (cI, 8, .inl (upd (cn 7) (v1).toNatClampNeg v2))), (n2, .inl (cI, 8, .inl (cn 1))), (n3, .inl (cI, 8, .inl (cn 110))), (n4, .inl (cI, 8, .inl (cn 0))), (n5, .inl (cI, 8, .inl (cn 0)))] H := hP
          have hD : va_D A [(xt, .inr (12, [.ref ah, .ref xe, .ref xf])), (ah, .inr (4, [.ref ac, .ref au, .ref ab, .ref an, .ref ak, .ref ad, .int 0, .int 0, .long 0])), (an, .inr (6, [.ref n1, .ref n2, .ref n3, .ref n4, .ref n5, .int 0, .int 0])), (n1, .inl (cI, 8, .inl (upd (cn 7) (v1).toNatClampNeg v2))), (n2, .inl (cI, 8, .inl (cn 1))), (n3, .inl (cI, 8, .inl (cn 110))), (n4, .inl (cI, 8, .inl (cn 0))), (n5, .inl (cI, 8, .inl (cn 0)))] := hD
          refine lv_aload hx hb dX8_setLine_66 (lv_at hl 1 rfl) ?_
          refine lv_aload hx hb dX8_setLine_68 (lv_at hl 1 rfl) ?_
          refine va_get (D := (dC, dI)) (ci := 6) (v := .int 0) (C := RX2) (T := TX2) (N := 7) hx hb hts hiX2 hown hK hP 2 rfl rfl 5 (by decide) (hw10) (fun _ h9 => h9) rfl dX8_setLine_70 ?_
          refine lv_iload_n hx hb dX8_setLine_73 rfl (lv_at hl 3 rfl) ?_
          refine lv_iload_n hx hb dX8_setLine_74 rfl (lv_at hl 5 rfl) ?_
          have hPc := hP.sub (ws' := []) [] rfl
          have hDc := hD.sub (ws' := []) [] (by decide) rfl
          have hKc := hK.sub (tys' := []) [] rfl
          have hFc := va_free (wc := []) hD hS hA [] rfl
          refine va_calli (va_runS (As := [.int 0, .int v1, .int v3]) (rest := [.ref an]) ⟨hx, hb, hml, hown, hts⟩ (c_X8_withBit_any l dC dI g 0 v1 v3 H.size) (va_cwS 3 hts gX8_setLine_X8_withBit rfl rfl rfl (by decide +kernel) ⟨Nat.le_of_ble_eq_true rfl, Nat.le_of_ble_eq_true rfl⟩) ⟨wIn_blind, wIn_at hPc hKc hDc hG hS hFc⟩ rfl rfl hl.1 rfl (lv_room (Nat.le_of_ble_eq_true rfl)) dX8_setLine_75 ⟨Nat.le_of_ble_eq_true rfl, Nat.le_of_ble_eq_true rfl⟩) hS (fun q _ h => hFc q h) hFc (fun r_1 u t H1 locs ht hvm hw hB hz1 hk1 hS => ?_)
          obtain ⟨hP1, hK1, hD1⟩ := hB
          rw [ht] at hP1
          obtain ⟨hP, hD⟩ := va_join (wr := [(xt, .inr (12, [.ref ah, .ref xe, .ref xf])), (ah, .inr (4, [.ref ac, .ref au, .ref ab, .ref an, .ref ak, .ref ad, .int 0, .int 0, .long 0])), (an, .inr (6, [.ref n1, .ref n2, .ref n3, .ref n4, .ref n5, .int 0, .int 0])), (n1, .inl (cI, 8, .inl (upd (cn 7) (v1).toNatClampNeg v2))), (n2, .inl (cI, 8, .inl (cn 1))), (n3, .inl (cI, 8, .inl (cn 110))), (n4, .inl (cI, 8, .inl (cn 0))), (n5, .inl (cI, 8, .inl (cn 0)))]) (w1 := []) hP hD [] [0, 1, 2, 3, 4, 5, 6, 7] rfl rfl (by decide) (by decide) hk1 hFc hP1 hD1
          generalize H1 = H at hP hS ⊢
          have hP : va_P (dC, dI) vwCl [(xt, .inr (12, [.ref ah, .ref xe, .ref xf])), (ah, .inr (4, [.ref ac, .ref au, .ref ab, .ref an, .ref ak, .ref ad, .int 0, .int 0, .long 0])), (an, .inr (6, [.ref n1, .ref n2, .ref n3, .ref n4, .ref n5, .int 0, .int 0])), (n1, .inl (cI, 8, .inl (upd (cn 7) (v1).toNatClampNeg v2))), (n2, .inl (cI, 8, .inl (cn 1))), (n3, .inl (cI, 8, .inl (cn 110))), (n4, .inl (cI, 8, .inl (cn 0))), (n5, .inl (cI, 8, .inl (cn 0)))] H := hP
          have hD : va_D A [(xt, .inr (12, [.ref ah, .ref xe, .ref xf])), (ah, .inr (4, [.ref ac, .ref au, .ref ab, .ref an, .ref ak, .ref ad, .int 0, .int 0, .long 0])), (an, .inr (6, [.ref n1, .ref n2, .ref n3, .ref n4, .ref n5, .int 0, .int 0])), (n1, .inl (cI, 8, .inl (upd (cn 7) (v1).toNatClampNeg v2))), (n2, .inl (cI, 8, .inl (cn 1))), (n3, .inl (cI, 8, .inl (cn 110))), (n4, .inl (cI, 8, .inl (cn 0))), (n5, .inl (cI, 8, .inl (cn 0)))] := hD
          have hw_2 : True := hw
          refine va_put (D := (dC, dI)) (ci := 6) (v := .int r_1) (ty := .int) (C := RX2) (T := TX2) (N := 7) hx hb hts hiX2 tyX2 tyX2_ok nmX2 hown hK hP hD hS 2 rfl rfl 5 (by decide) (hw10) (fun _ h9 => h9) rfl (by decide +kernel) rfl rfl (Nat.le_of_ble_eq_true rfl) dX8_setLine_78 (fun H locs hP hD hS => ?_)
          have hP : va_P (dC, dI) vwCl [(xt, .inr (12, [.ref ah, .ref xe, .ref xf])), (ah, .inr (4, [.ref ac, .ref au, .ref ab, .ref an, .ref ak, .ref ad, .int 0, .int 0, .long 0])), (an, .inr (6, [.ref n1, .ref n2, .ref n3, .ref n4, .ref n5, .int r_1, .int 0])), (n1, .inl (cI, 8, .inl (upd (cn 7) (v1).toNatClampNeg v2))), (n2, .inl (cI, 8, .inl (cn 1))), (n3, .inl (cI, 8, .inl (cn 110))), (n4, .inl (cI, 8, .inl (cn 0))), (n5, .inl (cI, 8, .inl (cn 0)))] H := hP
          have hD : va_D A [(xt, .inr (12, [.ref ah, .ref xe, .ref xf])), (ah, .inr (4, [.ref ac, .ref au, .ref ab, .ref an, .ref ak, .ref ad, .int 0, .int 0, .long 0])), (an, .inr (6, [.ref n1, .ref n2, .ref n3, .ref n4, .ref n5, .int r_1, .int 0])), (n1, .inl (cI, 8, .inl (upd (cn 7) (v1).toNatClampNeg v2))), (n2, .inl (cI, 8, .inl (cn 1))), (n3, .inl (cI, 8, .inl (cn 110))), (n4, .inl (cI, 8, .inl (cn 0))), (n5, .inl (cI, 8, .inl (cn 0)))] := hD
          refine lv_iload hx hb dX8_setLine_81 (lv_at hl 0 rfl) ?_
          have hP9 := hP.sub (ws' := []) [] rfl
          have hD9 := hD.sub (ws' := []) [] (by decide) rfl
          have hK9 := hK.sub (tys' := [(cI, .int)]) [0] rfl
          refine W.widen (k := 1) (n := 6) (Nat.le_of_ble_eq_true rfl) (Nat.le_of_ble_eq_true rfl) ?_
          refine vx_ret ?_
          exact W.iret (v := 7) hx hb hr (fun t ht hW => ⟨⟨7, (), rfl, ⟨rfl, (by unfold sp_X8_setLine; rw [if_neg c_1, if_pos c_7, if_neg c_21, if_pos c_27])⟩, wOut_at ht hW hP9 hK9 hD9⟩, hS.F ht⟩) hS.2.2 dX8_setLine_83
        · obtain ⟨sa9, hstr9⟩ := hG.2.2.2.1 _ (List.mem_of_getElem? (i := 1) rfl)
          exact vx_throwS (sa := sa9) hx hb hl9 hown (by decide +kernel) (by decide +kernel) hw2 hw3 hstr9 (vx_hat (fun w hw => hts w (List.mem_cons_of_mem _ (List.mem_append_left _ (List.mem_append_right _ (hw))))) xh_35 (nw_use hN)) xg_35 hG.2.2.2.2.1 hG.2.2.2.2.2.1 hS (hl.1.trans hml.symm) dX8_setLine_30 dX8_setLine_33 dX8_setLine_34 dX8_setLine_36 dX8_setLine_39 (fun x9 hx9 => (htab x9 hx9).elim) (by decide) (by decide) (Nat.le_of_ble_eq_true rfl) (Nat.le_of_ble_eq_true rfl) hlocks (fun t hal hle hq => ⟨(), trivial, Or.inr (⟨rfl, (by unfold sp_X8_setLine; rw [if_neg c_1, if_pos c_7, if_neg c_21, if_neg c_27])⟩), ⟨Nat.le_trans hS.1 hle, fun q h1 h2 => (hq q (Nat.lt_of_lt_of_le h1 hS.1)).trans (hS.2.1 q h1 h2)⟩⟩) hS.2.2 (Nat.le_of_ble_eq_true rfl) (Nat.le_of_ble_eq_true rfl)
    · obtain ⟨sa9, hstr9⟩ := hG.2.2.2.1 _ (List.mem_of_getElem? (i := 0) rfl)
      exact vx_throwS (sa := sa9) hx hb hl9 hown (by decide +kernel) (by decide +kernel) hw0 hw1 hstr9 (vx_hat (fun w hw => hts w (List.mem_cons_of_mem _ (List.mem_append_left _ (List.mem_append_left _ (List.mem_append_right _ (hw)))))) xh_26 (nw_use hN)) xg_26 hG.2.2.2.2.1 hG.2.2.2.2.2.1 hS (hl.1.trans hml.symm) dX8_setLine_10 dX8_setLine_13 dX8_setLine_14 dX8_setLine_16 dX8_setLine_19 (fun x9 hx9 => (htab x9 hx9).elim) (by decide) (by decide) (Nat.le_of_ble_eq_true rfl) (Nat.le_of_ble_eq_true rfl) hlocks (fun t hal hle hq => ⟨(), trivial, Or.inl ⟨rfl, (by unfold sp_X8_setLine; rw [if_neg c_1, if_neg c_7])⟩, ⟨Nat.le_trans hS.1 hle, fun q h1 h2 => (hq q (Nat.lt_of_lt_of_le h1 hS.1)).trans (hS.2.1 q h1 h2)⟩⟩) hS.2.2 (Nat.le_of_ble_eq_true rfl) (Nat.le_of_ble_eq_true rfl)

def sp_X8_setSleep (v1 : Int32) : Int32 := (if v1 < 0 then 1 else (if v1 ≤ 2 then (if ¬ v1 = 0 then 0 else 0) else 1))
set_option maxHeartbeats 4000000 in
set_option maxRecDepth 100000 in
theorem c_X8_setSleep (l : Launch) (hl9 : l.stackTraces = false) (dC : Nat → ClassId) (dI : Nat → Nat → Nat) (g : Nat × Nat × Nat) (xt : Nat) (xe : Nat) (xf : Nat) (ah : Nat) (ac : Nat) (au : Nat) (ab : Nat) (an : Nat) (ar : Nat) (ak : Nat) (ad : Nat) (cI : ClassId) (v1 : Int32) (sz : Nat) : vx_Met l yX8_setSleep wsX8_setSleep ({ frames := 6, cells := 1, slots := 6, locals := 100 } : Room) (va_Pc [.ref xt, .int v1] (wIn dC dI g [(xt, .inr (12, [.ref ah, .ref xe, .ref xf])), (ah, .inr (4, [.ref ac, .ref au, .ref ab, .ref an, .ref ak, .ref ad, .int 0, .int 0, .long 0])), (ak, .inr (8, [.ref ar, .int 105, .int 0, .int (-1), .int 0, .int 0, .int 0]))] [(cI, .int)] sz)) (va_Qi (fun (r : Int32) (u : Unit) => r = 0 ∧ sp_X8_setSleep v1 = 0) (fun (u : Unit) (t : State) => wOut dC dI [] [(cI, .int)] (va_A [(xt, .inr (12, [.ref ah, .ref xe, .ref xf])), (ah, .inr (4, [.ref ac, .ref au, .ref ab, .ref an, .ref ak, .ref ad, .int 0, .int 0, .long 0])), (ak, .inr (8, [.ref ar, .int 105, .int 0, .int (-1), .int 0, .int 0, .int 0]))] sz) t) (va_A [(xt, .inr (12, [.ref ah, .ref xe, .ref xf])), (ah, .inr (4, [.ref ac, .ref au, .ref ab, .ref an, .ref ak, .ref ad, .int 0, .int 0, .long 0])), (ak, .inr (8, [.ref ar, .int 105, .int 0, .int (-1), .int 0, .int 0, .int 0]))] sz)) (vx_X (fun (_ : Unit) => True) (fun (E : String) (_ : Unit) (_ : State) => (E = "java/lang/IllegalArgumentException" ∧ sp_X8_setSleep v1 = 1)) (va_A [(xt, .inr (12, [.ref ah, .ref xe, .ref xf])), (ah, .inr (4, [.ref ac, .ref au, .ref ab, .ref an, .ref ak, .ref ad, .int 0, .int 0, .long 0])), (ak, .inr (8, [.ref ar, .int 105, .int 0, .int (-1), .int 0, .int 0, .int 0]))] sz)) 1 6 (va_A [(xt, .inr (12, [.ref ah, .ref xe, .ref xf])), (ah, .inr (4, [.ref ac, .ref au, .ref ab, .ref an, .ref ak, .ref ad, .int 0, .int 0, .long 0])), (ak, .inr (8, [.ref ar, .int 105, .int 0, .int (-1), .int 0, .int 0, .int 0]))] sz) := by
  refine vx_ofW (cc := cX8_setSleep) (maxL := 4) (ret := (some .int)) (by decide) rfl ?_
  intro p e s m args below meth c s₁ B hml htab hv
  obtain ⟨rfl, hsz, hP, hK, hD0, hG⟩ := hv
  have hx := B.exec
  have hb := B.bytes
  have hr := B.returns
  have hts := atoms_spec (ws := wsX8_setSleep) B.pre
  have hown : s.vm.findClass RX8 = some m.cls := findClass_of_methodNamed B.named
  have hlocks := B.notSynchronized
  subst hsz
  have hD := hD0.self (sz := s.heap.size)
  generalize hAe : va_A [(xt, .inr (12, [.ref ah, .ref xe, .ref xf])), (ah, .inr (4, [.ref ac, .ref au, .ref ab, .ref an, .ref ak, .ref ad, .int 0, .int 0, .long 0])), (ak, .inr (8, [.ref ar, .int 105, .int 0, .int (-1), .int 0, .int 0, .int 0]))] s.heap.size = A at hD hG ⊢
  have hN := hG.1
  have hA : ∀ q : Nat, s.heap.size ≤ q → A q := fun q h => by rw [← hAe]; exact Or.inr h
  have hS : va_S A s.heap s.heap [] := va_S.rf
  have hP : va_P (dC, dI) vwCl [(xt, .inr (12, [.ref ah, .ref xe, .ref xf])), (ah, .inr (4, [.ref ac, .ref au, .ref ab, .ref an, .ref ak, .ref ad, .int 0, .int 0, .long 0])), (ak, .inr (8, [.ref ar, .int 105, .int 0, .int (-1), .int 0, .int 0, .int 0]))] s.heap := hP
  have hw0 : (Cond.classLink RX8 31 "java/lang/IllegalArgumentException").before _ s = true := hts _ (List.mem_cons_of_mem _ (List.mem_append_left _ (List.mem_append_left _ (List.mem_append_left _ (List.mem_append_left _ (List.mem_of_getElem? (i := 0) rfl))))))
  have hw1 : (Cond.initialized "java/lang/IllegalArgumentException").before _ s = true := hts _ (List.mem_cons_of_mem _ (List.mem_append_left _ (List.mem_append_left _ (List.mem_append_left _ (List.mem_append_left _ (List.mem_of_getElem? (i := 1) rfl))))))
  have hw2 : (Cond.fieldLink RX8 10 "Tickstation" "chip" "LTickstation$Chip;").before _ s = true := hts _ (List.mem_cons_of_mem _ (List.mem_append_left _ (List.mem_append_left _ (List.mem_append_left _ (List.mem_append_left _ (List.mem_of_getElem? (i := 2) rfl))))))
  have hiX8 : ∀ w ∈ u_ws RX8 TX8 3, w ∈ wsX8_setSleep := fun _ h => List.mem_cons_of_mem _ (List.mem_append_left _ (List.mem_append_left _ (List.mem_append_left _ (List.mem_append_right _ (h)))))
  have hw4 : (Cond.fieldLink RX8 138 "Tickstation$Chip" "processor" "LTickstation$Processor;").before _ s = true := hts _ (List.mem_cons_of_mem _ (List.mem_append_left _ (List.mem_append_left _ (List.mem_append_left _ (List.mem_append_left _ (List.mem_of_getElem? (i := 3) rfl))))))
  have hiX0 : ∀ w ∈ u_ws RX0 TX0 9, w ∈ wsX8_setSleep := fun _ h => List.mem_cons_of_mem _ (List.mem_append_left _ (List.mem_append_left _ (List.mem_append_right _ (h))))
  have hw6 : (Cond.fieldLink RX8 142 "Tickstation$Processor" "sleepDepth" "I").before _ s = true := hts _ (List.mem_cons_of_mem _ (List.mem_append_left _ (List.mem_append_left _ (List.mem_append_left _ (List.mem_append_left _ (List.mem_of_getElem? (i := 4) rfl))))))
  have hiX4 : ∀ w ∈ u_ws RX4 TX4 7, w ∈ wsX8_setSleep := fun _ h => List.mem_cons_of_mem _ (List.mem_append_left _ (List.mem_append_right _ (h)))
  have hw8 : (Cond.fieldLink RX8 147 "Tickstation$Processor" "state" "C").before _ s = true := hts _ (List.mem_cons_of_mem _ (List.mem_append_left _ (List.mem_append_left _ (List.mem_append_left _ (List.mem_append_left _ (List.mem_of_getElem? (i := 5) rfl))))))
  have hl := lv_entry ([.ref xt, .int v1]) (n := 4) (Nat.le_of_ble_eq_true rfl)
  rw [lg_entry_eq]
  generalize (lg_sl ([.ref xt, .int v1]) ++ List.replicate (4 - (lg_sl ([.ref xt, .int v1])).length) Slot.unset).toArray = ls at hl ⊢
  have hl : lv_has ls 4 [(0, .ref xt), (1, .int v1)] := hl
  refine lv_iload_n hx hb dX8_setSleep_0 rfl (lv_at hl 1 rfl) ?_
  refine lv_if_lt (tgt := 9) hx hb dX8_setSleep_1 (by decide) (fun c_1 => ?_) (fun c_1 => ?_)
  · obtain ⟨sa9, hstr9⟩ := hG.2.2.2.1 _ (List.mem_of_getElem? (i := 4) rfl)
    exact vx_throwS (sa := sa9) hx hb hl9 hown (by decide +kernel) (by decide +kernel) hw0 hw1 hstr9 (vx_hat (fun w hw => hts w (List.mem_cons_of_mem _ (List.mem_append_right _ (hw)))) xh_35 (nw_use hN)) xg_35 hG.2.2.2.2.1 hG.2.2.2.2.2.1 hS (hl.1.trans hml.symm) dX8_setSleep_9 dX8_setSleep_12 dX8_setSleep_13 dX8_setSleep_15 dX8_setSleep_18 (fun x9 hx9 => (htab x9 hx9).elim) (by decide) (by decide) (Nat.le_of_ble_eq_true rfl) (Nat.le_of_ble_eq_true rfl) hlocks (fun t hal hle hq => ⟨(), trivial, ⟨rfl, (by unfold sp_X8_setSleep; rw [if_pos c_1])⟩, ⟨Nat.le_trans hS.1 hle, fun q h1 h2 => (hq q (Nat.lt_of_lt_of_le h1 hS.1)).trans (hS.2.1 q h1 h2)⟩⟩) hS.2.2 (Nat.le_of_ble_eq_true rfl) (Nat.le_of_ble_eq_true rfl)
  · refine lv_iload_n hx hb dX8_setSleep_4 rfl (lv_at hl 1 rfl) ?_
    refine lv_iconst (v := 2) hx hb dX8_setSleep_5 (by decide) ?_
    refine lv_icmp_le (tgt := 19) hx hb dX8_setSleep_6 (by decide) (fun c_6 => ?_) (fun c_6 => ?_)
    · refine lv_aload_n hx hb dX8_setSleep_19 rfl (lv_at hl 0 rfl) ?_
      refine va_get (D := (dC, dI)) (ci := 12) (v := .ref ah) (C := RX8) (T := TX8) (N := 3) hx hb hts hiX8 hown hK hP 0 rfl rfl 0 (by decide) (hw2) (fun _ h9 => h9) rfl dX8_setSleep_20 ?_
      refine va_get (D := (dC, dI)) (ci := 4) (v := .ref ak) (C := RX0) (T := TX0) (N := 9) hx hb hts hiX0 hown hK hP 1 rfl rfl 4 (by decide) (hw4) (fun _ h9 => h9) rfl dX8_setSleep_23 ?_
      refine lv_astore_n (lv' := [(2, .ref ak), (0, .ref xt), (1, .int v1)]) hx hb dX8_setSleep_26 rfl hl (by decide) rfl (fun ls hl => ?_)
      refine lv_aload_n hx hb dX8_setSleep_27 rfl (lv_at hl 0 rfl) ?_
      refine va_get (D := (dC, dI)) (ci := 8) (v := .int 0) (C := RX4) (T := TX4) (N := 7) hx hb hts hiX4 hown hK hP 2 rfl rfl 4 (by decide) (hw6) (fun _ h9 => h9) rfl dX8_setSleep_28 ?_
      refine lv_istore_n (lv' := [(3, .int 0), (2, .ref ak), (0, .ref xt), (1, .int v1)]) hx hb dX8_setSleep_31 rfl hl (by decide) rfl (fun ls hl => ?_)
      refine lv_aload_n hx hb dX8_setSleep_32 rfl (lv_at hl 1 rfl) ?_
      refine lv_iload_n hx hb dX8_setSleep_33 rfl (lv_at hl 3 rfl) ?_
      refine va_put (D := (dC, dI)) (ci := 8) (v := .int v1) (ty := .int) (C := RX4) (T := TX4) (N := 7) hx hb hts hiX4 tyX4 tyX4_ok nmX4 hown hK hP hD hS 2 rfl rfl 4 (by decide) (hw6) (fun _ h9 => h9) rfl (by decide +kernel) rfl rfl (Nat.le_of_ble_eq_true rfl) dX8_setSleep_34 (fun H locs hP hD hS => ?_)
      have hP : va_P (dC, dI) vwCl [(xt, .inr (12, [.ref ah, .ref xe, .ref xf])), (ah, .inr (4, [.ref ac, .ref au, .ref ab, .ref an, .ref ak, .ref ad, .int 0, .int 0, .long 0])), (ak, .inr (8, [.ref ar, .int 105, .int 0, .int (-1), .int v1, .int 0, .int 0]))] H := hP
      have hD : va_D A [(xt, .inr (12, [.ref ah, .ref xe, .ref xf])), (ah, .inr (4, [.ref ac, .ref au, .ref ab, .ref an, .ref ak, .ref ad, .int 0, .int 0, .long 0])), (ak, .inr (8, [.ref ar, .int 105, .int 0, .int (-1), .int v1, .int 0, .int 0]))] := hD
      refine lv_iload_n hx hb dX8_setSleep_37 rfl (lv_at hl 3 rfl) ?_
      refine lv_if_ne (tgt := 56) hx hb dX8_setSleep_38 (by decide) (fun c_38 => ?_) (fun c_38 => ?_)
      · refine lv_iload_n hx hb dX8_setSleep_56 rfl (lv_at hl 0 rfl) ?_
        have hP9 := hP.sub (ws' := []) [] rfl
        have hD9 := hD.sub (ws' := []) [] (by decide) rfl
        have hK9 := hK.sub (tys' := [(cI, .int)]) [0] rfl
        refine W.widen (k := 1) (n := 6) (Nat.le_of_ble_eq_true rfl) (Nat.le_of_ble_eq_true rfl) ?_
        refine vx_ret ?_
        exact W.iret (v := 0) hx hb hr (fun t ht hW => ⟨⟨0, (), rfl, ⟨rfl, (by unfold sp_X8_setSleep; rw [if_neg c_1, if_pos c_6, if_pos c_38])⟩, wOut_at ht hW hP9 hK9 hD9⟩, hS.F ht⟩) hS.2.2 dX8_setSleep_57
      · refine lv_aload_n hx hb dX8_setSleep_41 rfl (lv_at hl 1 rfl) ?_
        refine va_get (D := (dC, dI)) (ci := 8) (v := .int 105) (C := RX4) (T := TX4) (N := 7) hx hb hts hiX4 hown hK hP 2 rfl rfl 1 (by decide) (hw8) (fun _ h9 => h9) rfl dX8_setSleep_42 ?_
        refine lv_bipush (v := 122) hx hb dX8_setSleep_45 (by decide) ?_
        refine lv_icmp_ne (tgt := 56) hx hb dX8_setSleep_47 (by decide) (fun _ => ?_) (fun c => absurd c (by decide))
        refine lv_iload_n hx hb dX8_setSleep_56 rfl (lv_at hl 0 rfl) ?_
        have hP9 := hP.sub (ws' := []) [] rfl
        have hD9 := hD.sub (ws' := []) [] (by decide) rfl
        have hK9 := hK.sub (tys' := [(cI, .int)]) [0] rfl
        refine W.widen (k := 1) (n := 6) (Nat.le_of_ble_eq_true rfl) (Nat.le_of_ble_eq_true rfl) ?_
        refine vx_ret ?_
        exact W.iret (v := 0) hx hb hr (fun t ht hW => ⟨⟨0, (), rfl, ⟨rfl, (by unfold sp_X8_setSleep; rw [if_neg c_1, if_pos c_6, if_neg (not_not_intro c_38)])⟩, wOut_at ht hW hP9 hK9 hD9⟩, hS.F ht⟩) hS.2.2 dX8_setSleep_57
    · obtain ⟨sa9, hstr9⟩ := hG.2.2.2.1 _ (List.mem_of_getElem? (i := 4) rfl)
      exact vx_throwS (sa := sa9) hx hb hl9 hown (by decide +kernel) (by decide +kernel) hw0 hw1 hstr9 (vx_hat (fun w hw => hts w (List.mem_cons_of_mem _ (List.mem_append_right _ (hw)))) xh_35 (nw_use hN)) xg_35 hG.2.2.2.2.1 hG.2.2.2.2.2.1 hS (hl.1.trans hml.symm) dX8_setSleep_9 dX8_setSleep_12 dX8_setSleep_13 dX8_setSleep_15 dX8_setSleep_18 (fun x9 hx9 => (htab x9 hx9).elim) (by decide) (by decide) (Nat.le_of_ble_eq_true rfl) (Nat.le_of_ble_eq_true rfl) hlocks (fun t hal hle hq => ⟨(), trivial, ⟨rfl, (by unfold sp_X8_setSleep; rw [if_neg c_1, if_neg c_6])⟩, ⟨Nat.le_trans hS.1 hle, fun q h1 h2 => (hq q (Nat.lt_of_lt_of_le h1 hS.1)).trans (hS.2.1 q h1 h2)⟩⟩) hS.2.2 (Nat.le_of_ble_eq_true rfl) (Nat.le_of_ble_eq_true rfl)

def sp_X8_setWatchdog (v1 : Int32) (v2 : Int32) (v3 : Int32) : Int32 := (if v1 < (-1) then 1 else (if v1 < 4 then (if v2 < 0 then 2 else (if 99 < v2 then 2 else (if v3 ≤ v2 then 2 else (if v3 ≤ 200 then 0 else 2)))) else 1))
set_option maxHeartbeats 4000000 in
set_option maxRecDepth 100000 in
theorem c_X8_setWatchdog (l : Launch) (hl9 : l.stackTraces = false) (dC : Nat → ClassId) (dI : Nat → Nat → Nat) (g : Nat × Nat × Nat) (xt : Nat) (xe : Nat) (xf : Nat) (ah : Nat) (ac : Nat) (au : Nat) (ab : Nat) (an : Nat) (ak : Nat) (ad : Nat) (cI : ClassId) (v1 : Int32) (v2 : Int32) (v3 : Int32) (sz : Nat) : vx_Met l yX8_setWatchdog wsX8_setWatchdog ({ frames := 6, cells := 1, slots := 6, locals := 100 } : Room) (va_Pc [.ref xt, .int v1, .int v2, .int v3] (wIn dC dI g [(xt, .inr (12, [.ref ah, .ref xe, .ref xf])), (ah, .inr (4, [.ref ac, .ref au, .ref ab, .ref an, .ref ak, .ref ad, .int 0, .int 0, .long 0])), (ad, .inr (11, [.int (-1), .int 0, .int 0, .int 0, .int 0, .int 0]))] [(cI, .int)] sz)) (va_Qi (fun (r : Int32) (u : Unit) => r = 0 ∧ sp_X8_setWatchdog v1 v2 v3 = 0) (fun (u : Unit) (t : State) => wOut dC dI [] [(cI, .int)] (va_A [(xt, .inr (12, [.ref ah, .ref xe, .ref xf])), (ah, .inr (4, [.ref ac, .ref au, .ref ab, .ref an, .ref ak, .ref ad, .int 0, .int 0, .long 0])), (ad, .inr (11, [.int (-1), .int 0, .int 0, .int 0, .int 0, .int 0]))] sz) t) (va_A [(xt, .inr (12, [.ref ah, .ref xe, .ref xf])), (ah, .inr (4, [.ref ac, .ref au, .ref ab, .ref an, .ref ak, .ref ad, .int 0, .int 0, .long 0])), (ad, .inr (11, [.int (-1), .int 0, .int 0, .int 0, .int 0, .int 0]))] sz)) (vx_X (fun (_ : Unit) => True) (fun (E : String) (_ : Unit) (_ : State) => (E = "java/lang/IndexOutOfBoundsException" ∧ sp_X8_setWatchdog v1 v2 v3 = 1) ∨ (E = "java/lang/IllegalArgumentException" ∧ sp_X8_setWatchdog v1 v2 v3 = 2)) (va_A [(xt, .inr (12, [.ref ah, .ref xe, .ref xf])), (ah, .inr (4, [.ref ac, .ref au, .ref ab, .ref an, .ref ak, .ref ad, .int 0, .int 0, .long 0])), (ad, .inr (11, [.int (-1), .int 0, .int 0, .int 0, .int 0, .int 0]))] sz)) 1 6 (va_A [(xt, .inr (12, [.ref ah, .ref xe, .ref xf])), (ah, .inr (4, [.ref ac, .ref au, .ref ab, .ref an, .ref ak, .ref ad, .int 0, .int 0, .long 0])), (ad, .inr (11, [.int (-1), .int 0, .int 0, .int 0, .int 0, .int 0]))] sz) := by
  refine vx_ofW (cc := cX8_setWatchdog) (maxL := 6) (ret := (some .boolean)) (by decide) rfl ?_
  intro p e s m args below meth c s₁ B hml htab hv
  obtain ⟨rfl, hsz, hP, hK, hD0, hG⟩ := hv
  have hx := B.exec
  have hb := B.bytes
  have hr := B.returns
  have hts := atoms_spec (ws := wsX8_setWatchdog) B.pre
  have hown : s.vm.findClass RX8 = some m.cls := findClass_of_methodNamed B.named
  have hlocks := B.notSynchronized
  subst hsz
  have hD := hD0.self (sz := s.heap.size)
  generalize hAe : va_A [(xt, .inr (12, [.ref ah, .ref xe, .ref xf])), (ah, .inr (4, [.ref ac, .ref au, .ref ab, .ref an, .ref ak, .ref ad, .int 0, .int 0, .long 0])), (ad, .inr (11, [.int (-1), .int 0, .int 0, .int 0, .int 0, .int 0]))] s.heap.size = A at hD hG ⊢
  have hN := hG.1
  have hA : ∀ q : Nat, s.heap.size ≤ q → A q := fun q h => by rw [← hAe]; exact Or.inr h
  have hS : va_S A s.heap s.heap [] := va_S.rf
  have hP : va_P (dC, dI) vwCl [(xt, .inr (12, [.ref ah, .ref xe, .ref xf])), (ah, .inr (4, [.ref ac, .ref au, .ref ab, .ref an, .ref ak, .ref ad, .int 0, .int 0, .long 0])), (ad, .inr (11, [.int (-1), .int 0, .int 0, .int 0, .int 0, .int 0]))] s.heap := hP
  have hw0 : (Cond.classLink RX8 22 "java/lang/IndexOutOfBoundsException").before _ s = true := hts _ (List.mem_cons_of_mem _ (List.mem_append_left _ (List.mem_append_left _ (List.mem_append_left _ (List.mem_append_left _ (List.mem_append_left _ (List.mem_of_getElem? (i := 0) rfl)))))))
  have hw1 : (Cond.initialized "java/lang/IndexOutOfBoundsException").before _ s = true := hts _ (List.mem_cons_of_mem _ (List.mem_append_left _ (List.mem_append_left _ (List.mem_append_left _ (List.mem_append_left _ (List.mem_append_left _ (List.mem_of_getElem? (i := 1) rfl)))))))
  have hw2 : (Cond.classLink RX8 31 "java/lang/IllegalArgumentException").before _ s = true := hts _ (List.mem_cons_of_mem _ (List.mem_append_left _ (List.mem_append_left _ (List.mem_append_left _ (List.mem_append_left _ (List.mem_append_left _ (List.mem_of_getElem? (i := 2) rfl)))))))
  have hw3 : (Cond.initialized "java/lang/IllegalArgumentException").before _ s = true := hts _ (List.mem_cons_of_mem _ (List.mem_append_left _ (List.mem_append_left _ (List.mem_append_left _ (List.mem_append_left _ (List.mem_append_left _ (List.mem_of_getElem? (i := 3) rfl)))))))
  have hw4 : (Cond.fieldLink RX8 10 "Tickstation" "chip" "LTickstation$Chip;").before _ s = true := hts _ (List.mem_cons_of_mem _ (List.mem_append_left _ (List.mem_append_left _ (List.mem_append_left _ (List.mem_append_left _ (List.mem_append_left _ (List.mem_of_getElem? (i := 4) rfl)))))))
  have hiX8 : ∀ w ∈ u_ws RX8 TX8 3, w ∈ wsX8_setWatchdog := fun _ h => List.mem_cons_of_mem _ (List.mem_append_left _ (List.mem_append_left _ (List.mem_append_left _ (List.mem_append_left _ (List.mem_append_right _ (h))))))
  have hw6 : (Cond.fieldLink RX8 151 "Tickstation$Chip" "watchdog" "LTickstation$Watchdog;").before _ s = true := hts _ (List.mem_cons_of_mem _ (List.mem_append_left _ (List.mem_append_left _ (List.mem_append_left _ (List.mem_append_left _ (List.mem_append_left _ (List.mem_of_getElem? (i := 5) rfl)))))))
  have hiX0 : ∀ w ∈ u_ws RX0 TX0 9, w ∈ wsX8_setWatchdog := fun _ h => List.mem_cons_of_mem _ (List.mem_append_left _ (List.mem_append_left _ (List.mem_append_left _ (List.mem_append_right _ (h)))))
  have hw8 : (Cond.fieldLink RX8 155 "Tickstation$Watchdog" "clock" "I").before _ s = true := hts _ (List.mem_cons_of_mem _ (List.mem_append_left _ (List.mem_append_left _ (List.mem_append_left _ (List.mem_append_left _ (List.mem_append_left _ (List.mem_of_getElem? (i := 6) rfl)))))))
  have hiX7 : ∀ w ∈ u_ws RX7 TX7 6, w ∈ wsX8_setWatchdog := fun _ h => List.mem_cons_of_mem _ (List.mem_append_left _ (List.mem_append_left _ (List.mem_append_right _ (h))))
  have hw10 : (Cond.fieldLink RX8 159 "Tickstation$Watchdog" "low" "I").before _ s = true := hts _ (List.mem_cons_of_mem _ (List.mem_append_left _ (List.mem_append_left _ (List.mem_append_left _ (List.mem_append_left _ (List.mem_append_left _ (List.mem_of_getElem? (i := 7) rfl)))))))
  have hw11 : (Cond.fieldLink RX8 162 "Tickstation$Watchdog" "high" "I").before _ s = true := hts _ (List.mem_cons_of_mem _ (List.mem_append_left _ (List.mem_append_left _ (List.mem_append_left _ (List.mem_append_left _ (List.mem_append_left _ (List.mem_of_getElem? (i := 8) rfl)))))))
  have hw12 : (Cond.fieldLink RX8 165 "Tickstation$Watchdog" "count" "I").before _ s = true := hts _ (List.mem_cons_of_mem _ (List.mem_append_left _ (List.mem_append_left _ (List.mem_append_left _ (List.mem_append_left _ (List.mem_append_left _ (List.mem_of_getElem? (i := 9) rfl)))))))
  have hl := lv_entry ([.ref xt, .int v1, .int v2, .int v3]) (n := 6) (Nat.le_of_ble_eq_true rfl)
  rw [lg_entry_eq]
  generalize (lg_sl ([.ref xt, .int v1, .int v2, .int v3]) ++ List.replicate (6 - (lg_sl ([.ref xt, .int v1, .int v2, .int v3])).length) Slot.unset).toArray = ls at hl ⊢
  have hl : lv_has ls 6 [(0, .ref xt), (1, .int v1), (2, .int v2), (3, .int v3)] := hl
  refine lv_iload_n hx hb dX8_setWatchdog_0 rfl (lv_at hl 1 rfl) ?_
  refine lv_iconst (v := (-1)) hx hb dX8_setWatchdog_1 (by decide) ?_
  refine lv_icmp_lt (tgt := 10) hx hb dX8_setWatchdog_2 (by decide) (fun c_2 => ?_) (fun c_2 => ?_)
  · obtain ⟨sa9, hstr9⟩ := hG.2.2.2.1 _ (List.mem_of_getElem? (i := 8) rfl)
    exact vx_throwS (sa := sa9) hx hb hl9 hown (by decide +kernel) (by decide +kernel) hw0 hw1 hstr9 (vx_hat (fun w hw => hts w (List.mem_cons_of_mem _ (List.mem_append_left _ (List.mem_append_right _ (hw))))) xh_26 (nw_use hN)) xg_26 hG.2.2.2.2.1 hG.2.2.2.2.2.1 hS (hl.1.trans hml.symm) dX8_setWatchdog_10 dX8_setWatchdog_13 dX8_setWatchdog_14 dX8_setWatchdog_16 dX8_setWatchdog_19 (fun x9 hx9 => (htab x9 hx9).elim) (by decide) (by decide) (Nat.le_of_ble_eq_true rfl) (Nat.le_of_ble_eq_true rfl) hlocks (fun t hal hle hq => ⟨(), trivial, Or.inl ⟨rfl, (by unfold sp_X8_setWatchdog; rw [if_pos c_2])⟩, ⟨Nat.le_trans hS.1 hle, fun q h1 h2 => (hq q (Nat.lt_of_lt_of_le h1 hS.1)).trans (hS.2.1 q h1 h2)⟩⟩) hS.2.2 (Nat.le_of_ble_eq_true rfl) (Nat.le_of_ble_eq_true rfl)
  · refine lv_iload_n hx hb dX8_setWatchdog_5 rfl (lv_at hl 1 rfl) ?_
    refine lv_iconst (v := 4) hx hb dX8_setWatchdog_6 (by decide) ?_
    refine lv_icmp_lt (tgt := 20) hx hb dX8_setWatchdog_7 (by decide) (fun c_7 => ?_) (fun c_7 => ?_)
    · refine lv_iload_n hx hb dX8_setWatchdog_20 rfl (lv_at hl 2 rfl) ?_
      refine lv_if_lt (tgt := 42) hx hb dX8_setWatchdog_21 (by decide) (fun c_21 => ?_) (fun c_21 => ?_)
      · obtain ⟨sa9, hstr9⟩ := hG.2.2.2.1 _ (List.mem_of_getElem? (i := 14) rfl)
        exact vx_throwS (sa := sa9) hx hb hl9 hown (by decide +kernel) (by decide +kernel) hw2 hw3 hstr9 (vx_hat (fun w hw => hts w (List.mem_cons_of_mem _ (List.mem_append_right _ (hw)))) xh_35 (nw_use hN)) xg_35 hG.2.2.2.2.1 hG.2.2.2.2.2.1 hS (hl.1.trans hml.symm) dX8_setWatchdog_42 dX8_setWatchdog_45 dX8_setWatchdog_46 dX8_setWatchdog_48 dX8_setWatchdog_51 (fun x9 hx9 => (htab x9 hx9).elim) (by decide) (by decide) (Nat.le_of_ble_eq_true rfl) (Nat.le_of_ble_eq_true rfl) hlocks (fun t hal hle hq => ⟨(), trivial, Or.inr (⟨rfl, (by unfold sp_X8_setWatchdog; rw [if_neg c_2, if_pos c_7, if_pos c_21])⟩), ⟨Nat.le_trans hS.1 hle, fun q h1 h2 => (hq q (Nat.lt_of_lt_of_le h1 hS.1)).trans (hS.2.1 q h1 h2)⟩⟩) hS.2.2 (Nat.le_of_ble_eq_true rfl) (Nat.le_of_ble_eq_true rfl)
      · refine lv_iload_n hx hb dX8_setWatchdog_24 rfl (lv_at hl 2 rfl) ?_
        refine lv_bipush (v := 99) hx hb dX8_setWatchdog_25 (by decide) ?_
        refine lv_icmp_gt (tgt := 42) hx hb dX8_setWatchdog_27 (by decide) (fun c_27 => ?_) (fun c_27 => ?_)
        · obtain ⟨sa9, hstr9⟩ := hG.2.2.2.1 _ (List.mem_of_getElem? (i := 14) rfl)
          exact vx_throwS (sa := sa9) hx hb hl9 hown (by decide +kernel) (by decide +kernel) hw2 hw3 hstr9 (vx_hat (fun w hw => hts w (List.mem_cons_of_mem _ (List.mem_append_right _ (hw)))) xh_35 (nw_use hN)) xg_35 hG.2.2.2.2.1 hG.2.2.2.2.2.1 hS (hl.1.trans hml.symm) dX8_setWatchdog_42 dX8_setWatchdog_45 dX8_setWatchdog_46 dX8_setWatchdog_48 dX8_setWatchdog_51 (fun x9 hx9 => (htab x9 hx9).elim) (by decide) (by decide) (Nat.le_of_ble_eq_true rfl) (Nat.le_of_ble_eq_true rfl) hlocks (fun t hal hle hq => ⟨(), trivial, Or.inr (⟨rfl, (by unfold sp_X8_setWatchdog; rw [if_neg c_2, if_pos c_7, if_neg c_21, if_pos c_27])⟩), ⟨Nat.le_trans hS.1 hle, fun q h1 h2 => (hq q (Nat.lt_of_lt_of_le h1 hS.1)).trans (hS.2.1 q h1 h2)⟩⟩) hS.2.2 (Nat.le_of_ble_eq_true rfl) (Nat.le_of_ble_eq_true rfl)
        · refine lv_iload_n hx hb dX8_setWatchdog_30 rfl (lv_at hl 3 rfl) ?_
          refine lv_iload_n hx hb dX8_setWatchdog_31 rfl (lv_at hl 2 rfl) ?_
          refine lv_icmp_le (tgt := 42) hx hb dX8_setWatchdog_32 (by decide) (fun c_32 => ?_) (fun c_32 => ?_)
          · obtain ⟨sa9, hstr9⟩ := hG.2.2.2.1 _ (List.mem_of_getElem? (i := 14) rfl)
            exact vx_throwS (sa := sa9) hx hb hl9 hown (by decide +kernel) (by decide +kernel) hw2 hw3 hstr9 (vx_hat (fun w hw => hts w (List.mem_cons_of_mem _ (List.mem_append_right _ (hw)))) xh_35 (nw_use hN)) xg_35 hG.2.2.2.2.1 hG.2.2.2.2.2.1 hS (hl.1.trans hml.symm) dX8_setWatchdog_42 dX8_setWatchdog_45 dX8_setWatchdog_46 dX8_setWatchdog_48 dX8_setWatchdog_51 (fun x9 hx9 => (htab x9 hx9).elim) (by decide) (by decide) (Nat.le_of_ble_eq_true rfl) (Nat.le_of_ble_eq_true rfl) hlocks (fun t hal hle hq => ⟨(), trivial, Or.inr (⟨rfl, (by unfold sp_X8_setWatchdog; rw [if_neg c_2, if_pos c_7, if_neg c_21, if_neg c_27, if_pos c_32])⟩), ⟨Nat.le_trans hS.1 hle, fun q h1 h2 => (hq q (Nat.lt_of_lt_of_le h1 hS.1)).trans (hS.2.1 q h1 h2)⟩⟩) hS.2.2 (Nat.le_of_ble_eq_true rfl) (Nat.le_of_ble_eq_true rfl)
          · refine lv_iload_n hx hb dX8_setWatchdog_35 rfl (lv_at hl 3 rfl) ?_
            refine lv_sipush (v := 200) hx hb dX8_setWatchdog_36 (by decide) ?_
            refine lv_icmp_le (tgt := 52) hx hb dX8_setWatchdog_39 (by decide) (fun c_39 => ?_) (fun c_39 => ?_)
            · refine lv_aload_n hx hb dX8_setWatchdog_52 rfl (lv_at hl 0 rfl) ?_
              refine va_get (D := (dC, dI)) (ci := 12) (v := .ref ah) (C := RX8) (T := TX8) (N := 3) hx hb hts hiX8 hown hK hP 0 rfl rfl 0 (by decide) (hw4) (fun _ h9 => h9) rfl dX8_setWatchdog_53 ?_
              refine va_get (D := (dC, dI)) (ci := 4) (v := .ref ad) (C := RX0) (T := TX0) (N := 9) hx hb hts hiX0 hown hK hP 1 rfl rfl 5 (by decide) (hw6) (fun _ h9 => h9) rfl dX8_setWatchdog_56 ?_
              refine lv_astore (lv' := [(4, .ref ad), (0, .ref xt), (1, .int v1), (2, .int v2), (3, .int v3)]) hx hb dX8_setWatchdog_59 hl (by decide) rfl (fun ls hl => ?_)
              refine lv_aload hx hb dX8_setWatchdog_61 (lv_at hl 0 rfl) ?_
              refine va_get (D := (dC, dI)) (ci := 11) (v := .int (-1)) (C := RX7) (T := TX7) (N := 6) hx hb hts hiX7 hown hK hP 2 rfl rfl 0 (by decide) (hw8) (fun _ h9 => h9) rfl dX8_setWatchdog_63 ?_
              refine lv_iconst (v := (-1)) hx hb dX8_setWatchdog_66 (by decide) ?_
              refine lv_icmp_eq (tgt := 74) hx hb dX8_setWatchdog_67 (by decide) (fun _ => ?_) (fun c => absurd (by decide) c)
              refine lv_iconst (v := 0) hx hb dX8_setWatchdog_74 (by decide) ?_
              refine lv_istore (lv' := [(5, .int 0), (4, .ref ad), (0, .ref xt), (1, .int v1), (2, .int v2), (3, .int v3)]) hx hb dX8_setWatchdog_75 hl (by decide) rfl (fun ls hl => ?_)
              refine lv_aload hx hb dX8_setWatchdog_77 (lv_at hl 1 rfl) ?_
              refine lv_iload_n hx hb dX8_setWatchdog_79 rfl (lv_at hl 3 rfl) ?_
              refine va_put (D := (dC, dI)) (ci := 11) (v := .int v1) (ty := .int) (C := RX7) (T := TX7) (N := 6) hx hb hts hiX7 tyX7 tyX7_ok nmX7 hown hK hP hD hS 2 rfl rfl 0 (by decide) (hw8) (fun _ h9 => h9) rfl (by decide +kernel) rfl rfl (Nat.le_of_ble_eq_true rfl) dX8_setWatchdog_80 (fun H locs hP hD hS => ?_)
              have hP : va_P (dC, dI) vwCl [(xt, .inr (12, [.ref ah, .ref xe, .ref xf])), (ah, .inr (4, [.ref ac, .ref au, .ref ab, .ref an, .ref ak, .ref ad, .int 0, .int 0, .long 0])), (ad, .inr (11, [.int v1, .int 0, .int 0, .int 0, .int 0, .int 0]))] H := hP
              have hD : va_D A [(xt, .inr (12, [.ref ah, .ref xe, .ref xf])), (ah, .inr (4, [.ref ac, .ref au, .ref ab, .ref an, .ref ak, .ref ad, .int 0, .int 0, .long 0])), (ad, .inr (11, [.int v1, .int 0, .int 0, .int 0, .int 0, .int 0]))] := hD
              refine lv_aload hx hb dX8_setWatchdog_83 (lv_at hl 1 rfl) ?_
              refine lv_iload_n hx hb dX8_setWatchdog_85 rfl (lv_at hl 4 rfl) ?_
              refine va_put (D := (dC, dI)) (ci := 11) (v := .int v2) (ty := .int) (C := RX7) (T := TX7) (N := 6) hx hb hts hiX7 tyX7 tyX7_ok nmX7 hown hK hP hD hS 2 rfl rfl 1 (by decide) (hw10) (fun _ h9 => h9) rfl (by decide +kernel) rfl rfl (Nat.le_of_ble_eq_true rfl) dX8_setWatchdog_86 (fun H locs hP hD hS => ?_)
              have hP : va_P (dC, dI) vwCl [(xt, .inr (12, [.ref ah, .ref xe, .ref xf])), (ah, .inr (4, [.ref ac, .ref au, .ref ab, .ref an, .ref ak, .ref ad, .int 0, .int 0, .long 0])), (ad, .inr (11, [.int v1, .int v2, .int 0, .int 0, .int 0, .int 0]))] H := hP
              have hD : va_D A [(xt, .inr (12, [.ref ah, .ref xe, .ref xf])), (ah, .inr (4, [.ref ac, .ref au, .ref ab, .ref an, .ref ak, .ref ad, .int 0, .int 0, .long 0])), (ad, .inr (11, [.int v1, .int v2, .int 0, .int 0, .int 0, .int 0]))] := hD
              refine lv_aload hx hb dX8_setWatchdog_89 (lv_at hl 1 rfl) ?_
              refine lv_iload_n hx hb dX8_setWatchdog_91 rfl (lv_at hl 5 rfl) ?_
              refine va_put (D := (dC, dI)) (ci := 11) (v := .int v3) (ty := .int) (C := RX7) (T := TX7) (N := 6) hx hb hts hiX7 tyX7 tyX7_ok nmX7 hown hK hP hD hS 2 rfl rfl 2 (by decide) (hw11) (fun _ h9 => h9) rfl (by decide +kernel) rfl rfl (Nat.le_of_ble_eq_true rfl) dX8_setWatchdog_92 (fun H locs hP hD hS => ?_)
              have hP : va_P (dC, dI) vwCl [(xt, .inr (12, [.ref ah, .ref xe, .ref xf])), (ah, .inr (4, [.ref ac, .ref au, .ref ab, .ref an, .ref ak, .ref ad, .int 0, .int 0, .long 0])), (ad, .inr (11, [.int v1, .int v2, .int v3, .int 0, .int 0, .int 0]))] H := hP
              have hD : va_D A [(xt, .inr (12, [.ref ah, .ref xe, .ref xf])), (ah, .inr (4, [.ref ac, .ref au, .ref ab, .ref an, .ref ak, .ref ad, .int 0, .int 0, .long 0])), (ad, .inr (11, [.int v1, .int v2, .int v3, .int 0, .int 0, .int 0]))] := hD
              refine lv_aload hx hb dX8_setWatchdog_95 (lv_at hl 1 rfl) ?_
              refine lv_iconst (v := 0) hx hb dX8_setWatchdog_97 (by decide) ?_
              refine va_put (D := (dC, dI)) (ci := 11) (v := .int 0) (ty := .int) (C := RX7) (T := TX7) (N := 6) hx hb hts hiX7 tyX7 tyX7_ok nmX7 hown hK hP hD hS 2 rfl rfl 3 (by decide) (hw12) (fun _ h9 => h9) rfl (by decide +kernel) rfl rfl (Nat.le_of_ble_eq_true rfl) dX8_setWatchdog_98 (fun H locs hP hD hS => ?_)
              have hP : va_P (dC, dI) vwCl [(xt, .inr (12, [.ref ah, .ref xe, .ref xf])), (ah, .inr (4, [.ref ac, .ref au, .ref ab, .ref an, .ref ak, .ref ad, .int 0, .int 0, .long 0])), (ad, .inr (11, [.int v1, .int v2, .int v3, .int 0, .int 0, .int 0]))] H := hP
              have hD : va_D A [(xt, .inr (12, [.ref ah, .ref xe, .ref xf])), (ah, .inr (4, [.ref ac, .ref au, .ref ab, .ref an, .ref ak, .ref ad, .int 0, .int 0, .long 0])), (ad, .inr (11, [.int v1, .int v2, .int v3, .int 0, .int 0, .int 0]))] := hD
              refine lv_iload hx hb dX8_setWatchdog_101 (lv_at hl 0 rfl) ?_
              have hP9 := hP.sub (ws' := []) [] rfl
              have hD9 := hD.sub (ws' := []) [] (by decide) rfl
              have hK9 := hK.sub (tys' := [(cI, .int)]) [0] rfl
              refine W.widen (k := 1) (n := 6) (Nat.le_of_ble_eq_true rfl) (Nat.le_of_ble_eq_true rfl) ?_
              refine vx_ret ?_
              exact W.zret (v := 0) hx hb hr (by first | rfl | decide) (fun t ht hW => ⟨⟨0, (), rfl, ⟨rfl, (by unfold sp_X8_setWatchdog; rw [if_neg c_2, if_pos c_7, if_neg c_21, if_neg c_27, if_neg c_32, if_pos c_39])⟩, wOut_at ht hW hP9 hK9 hD9⟩, hS.F ht⟩) hS.2.2 dX8_setWatchdog_103
            · obtain ⟨sa9, hstr9⟩ := hG.2.2.2.1 _ (List.mem_of_getElem? (i := 14) rfl)
              exact vx_throwS (sa := sa9) hx hb hl9 hown (by decide +kernel) (by decide +kernel) hw2 hw3 hstr9 (vx_hat (fun w hw => hts w (List.mem_cons_of_mem _ (List.mem_append_right _ (hw)))) xh_35 (nw_use hN)) xg_35 hG.2.2.2.2.1 hG.2.2.2.2.2.1 hS (hl.1.trans hml.symm) dX8_setWatchdog_42 dX8_setWatchdog_45 dX8_setWatchdog_46 dX8_setWatchdog_48 dX8_setWatchdog_51 (fun x9 hx9 => (htab x9 hx9).elim) (by decide) (by decide) (Nat.le_of_ble_eq_true rfl) (Nat.le_of_ble_eq_true rfl) hlocks (fun t hal hle hq => ⟨(), trivial, Or.inr (⟨rfl, (by unfold sp_X8_setWatchdog; rw [if_neg c_2, if_pos c_7, if_neg c_21, if_neg c_27, if_neg c_32, if_neg c_39])⟩), ⟨Nat.le_trans hS.1 hle, fun q h1 h2 => (hq q (Nat.lt_of_lt_of_le h1 hS.1)).trans (hS.2.1 q h1 h2)⟩⟩) hS.2.2 (Nat.le_of_ble_eq_true rfl) (Nat.le_of_ble_eq_true rfl)
    · obtain ⟨sa9, hstr9⟩ := hG.2.2.2.1 _ (List.mem_of_getElem? (i := 8) rfl)
      exact vx_throwS (sa := sa9) hx hb hl9 hown (by decide +kernel) (by decide +kernel) hw0 hw1 hstr9 (vx_hat (fun w hw => hts w (List.mem_cons_of_mem _ (List.mem_append_left _ (List.mem_append_right _ (hw))))) xh_26 (nw_use hN)) xg_26 hG.2.2.2.2.1 hG.2.2.2.2.2.1 hS (hl.1.trans hml.symm) dX8_setWatchdog_10 dX8_setWatchdog_13 dX8_setWatchdog_14 dX8_setWatchdog_16 dX8_setWatchdog_19 (fun x9 hx9 => (htab x9 hx9).elim) (by decide) (by decide) (Nat.le_of_ble_eq_true rfl) (Nat.le_of_ble_eq_true rfl) hlocks (fun t hal hle hq => ⟨(), trivial, Or.inl ⟨rfl, (by unfold sp_X8_setWatchdog; rw [if_neg c_2, if_neg c_7])⟩, ⟨Nat.le_trans hS.1 hle, fun q h1 h2 => (hq q (Nat.lt_of_lt_of_le h1 hS.1)).trans (hS.2.1 q h1 h2)⟩⟩) hS.2.2 (Nat.le_of_ble_eq_true rfl) (Nat.le_of_ble_eq_true rfl)

def sp_X8_request (v1 : Int32) : Int32 := (if v1 < 0 then 1 else (if v1 < 8 then 0 else 1))
set_option maxHeartbeats 4000000 in
set_option maxRecDepth 100000 in
theorem c_X8_request (l : Launch) (hl9 : l.stackTraces = false) (dC : Nat → ClassId) (dI : Nat → Nat → Nat) (g : Nat × Nat × Nat) (xt : Nat) (xe : Nat) (xf : Nat) (ah : Nat) (ac : Nat) (au : Nat) (ab : Nat) (an : Nat) (n1 : Nat) (n2 : Nat) (n3 : Nat) (n4 : Nat) (n5 : Nat) (ak : Nat) (ad : Nat) (cI : ClassId) (v1 : Int32) (sz : Nat) : vx_Met l yX8_request wsX8_request ({ frames := 6, cells := 1, slots := 6, locals := 100 } : Room) (va_Pc [.ref xt, .int v1] (wIn dC dI g [(xt, .inr (12, [.ref ah, .ref xe, .ref xf])), (ah, .inr (4, [.ref ac, .ref au, .ref ab, .ref an, .ref ak, .ref ad, .int 0, .int 0, .long 0])), (an, .inr (6, [.ref n1, .ref n2, .ref n3, .ref n4, .ref n5, .int 0, .int 0])), (n1, .inl (cI, 8, .inl (cn 7))), (n2, .inl (cI, 8, .inl (cn 1))), (n3, .inl (cI, 8, .inl (cn 110))), (n4, .inl (cI, 8, .inl (cn 0))), (n5, .inl (cI, 8, .inl (cn 0)))] [(cI, .int)] sz)) (va_Qi (fun (r : Int32) (u : Unit) => r = 1 ∧ sp_X8_request v1 = 0) (fun (u : Unit) (t : State) => wOut dC dI [] [(cI, .int)] (va_A [(xt, .inr (12, [.ref ah, .ref xe, .ref xf])), (ah, .inr (4, [.ref ac, .ref au, .ref ab, .ref an, .ref ak, .ref ad, .int 0, .int 0, .long 0])), (an, .inr (6, [.ref n1, .ref n2, .ref n3, .ref n4, .ref n5, .int 0, .int 0])), (n1, .inl (cI, 8, .inl (cn 7))), (n2, .inl (cI, 8, .inl (cn 1))), (n3, .inl (cI, 8, .inl (cn 110))), (n4, .inl (cI, 8, .inl (cn 0))), (n5, .inl (cI, 8, .inl (cn 0)))] sz) t) (va_A [(xt, .inr (12, [.ref ah, .ref xe, .ref xf])), (ah, .inr (4, [.ref ac, .ref au, .ref ab, .ref an, .ref ak, .ref ad, .int 0, .int 0, .long 0])), (an, .inr (6, [.ref n1, .ref n2, .ref n3, .ref n4, .ref n5, .int 0, .int 0])), (n1, .inl (cI, 8, .inl (cn 7))), (n2, .inl (cI, 8, .inl (cn 1))), (n3, .inl (cI, 8, .inl (cn 110))), (n4, .inl (cI, 8, .inl (cn 0))), (n5, .inl (cI, 8, .inl (cn 0)))] sz)) (vx_X (fun (_ : Unit) => True) (fun (E : String) (_ : Unit) (_ : State) => (E = "java/lang/IndexOutOfBoundsException" ∧ sp_X8_request v1 = 1)) (va_A [(xt, .inr (12, [.ref ah, .ref xe, .ref xf])), (ah, .inr (4, [.ref ac, .ref au, .ref ab, .ref an, .ref ak, .ref ad, .int 0, .int 0, .long 0])), (an, .inr (6, [.ref n1, .ref n2, .ref n3, .ref n4, .ref n5, .int 0, .int 0])), (n1, .inl (cI, 8, .inl (cn 7))), (n2, .inl (cI, 8, .inl (cn 1))), (n3, .inl (cI, 8, .inl (cn 110))), (n4, .inl (cI, 8, .inl (cn 0))), (n5, .inl (cI, 8, .inl (cn 0)))] sz)) 1 6 (va_A [(xt, .inr (12, [.ref ah, .ref xe, .ref xf])), (ah, .inr (4, [.ref ac, .ref au, .ref ab, .ref an, .ref ak, .ref ad, .int 0, .int 0, .long 0])), (an, .inr (6, [.ref n1, .ref n2, .ref n3, .ref n4, .ref n5, .int 0, .int 0])), (n1, .inl (cI, 8, .inl (cn 7))), (n2, .inl (cI, 8, .inl (cn 1))), (n3, .inl (cI, 8, .inl (cn 110))), (n4, .inl (cI, 8, .inl (cn 0))), (n5, .inl (cI, 8, .inl (cn 0)))] sz) := by
  refine vx_ofW (cc := cX8_request) (maxL := 3) (ret := (some .boolean)) (by decide) rfl ?_
  intro p e s m args below meth c s₁ B hml htab hv
  obtain ⟨rfl, hsz, hP, hK, hD0, hG⟩ := hv
  have hx := B.exec
  have hb := B.bytes
  have hr := B.returns
  have hts := atoms_spec (ws := wsX8_request) B.pre
  have hown : s.vm.findClass RX8 = some m.cls := findClass_of_methodNamed B.named
  have hlocks := B.notSynchronized
  subst hsz
  have hD := hD0.self (sz := s.heap.size)
  generalize hAe : va_A [(xt, .inr (12, [.ref ah, .ref xe, .ref xf])), (ah, .inr (4, [.ref ac, .ref au, .ref ab, .ref an, .ref ak, .ref ad, .int 0, .int 0, .long 0])), (an, .inr (6, [.ref n1, .ref n2, .ref n3, .ref n4, .ref n5, .int 0, .int 0])), (n1, .inl (cI, 8, .inl (cn 7))), (n2, .inl (cI, 8, .inl (cn 1))), (n3, .inl (cI, 8, .inl (cn 110))), (n4, .inl (cI, 8, .inl (cn 0))), (n5, .inl (cI, 8, .inl (cn 0)))] s.heap.size = A at hD hG ⊢
  have hN := hG.1
  have hA : ∀ q : Nat, s.heap.size ≤ q → A q := fun q h => by rw [← hAe]; exact Or.inr h
  have hS : va_S A s.heap s.heap [] := va_S.rf
  have hP : va_P (dC, dI) vwCl [(xt, .inr (12, [.ref ah, .ref xe, .ref xf])), (ah, .inr (4, [.ref ac, .ref au, .ref ab, .ref an, .ref ak, .ref ad, .int 0, .int 0, .long 0])), (an, .inr (6, [.ref n1, .ref n2, .ref n3, .ref n4, .ref n5, .int 0, .int 0])), (n1, .inl (cI, 8, .inl (cn 7))), (n2, .inl (cI, 8, .inl (cn 1))), (n3, .inl (cI, 8, .inl (cn 110))), (n4, .inl (cI, 8, .inl (cn 0))), (n5, .inl (cI, 8, .inl (cn 0)))] s.heap := hP
  have hw0 : (Cond.classLink RX8 22 "java/lang/IndexOutOfBoundsException").before _ s = true := hts _ (List.mem_cons_of_mem _ (List.mem_append_left _ (List.mem_append_left _ (List.mem_append_left _ (List.mem_append_left _ (List.mem_of_getElem? (i := 0) rfl))))))
  have hw1 : (Cond.initialized "java/lang/IndexOutOfBoundsException").before _ s = true := hts _ (List.mem_cons_of_mem _ (List.mem_append_left _ (List.mem_append_left _ (List.mem_append_left _ (List.mem_append_left _ (List.mem_of_getElem? (i := 1) rfl))))))
  have hw2 : (Cond.fieldLink RX8 10 "Tickstation" "chip" "LTickstation$Chip;").before _ s = true := hts _ (List.mem_cons_of_mem _ (List.mem_append_left _ (List.mem_append_left _ (List.mem_append_left _ (List.mem_append_left _ (List.mem_of_getElem? (i := 2) rfl))))))
  have hiX8 : ∀ w ∈ u_ws RX8 TX8 3, w ∈ wsX8_request := fun _ h => List.mem_cons_of_mem _ (List.mem_append_left _ (List.mem_append_left _ (List.mem_append_left _ (List.mem_append_right _ (h)))))
  have hw4 : (Cond.fieldLink RX8 109 "Tickstation$Chip" "lines" "LTickstation$Lines;").before _ s = true := hts _ (List.mem_cons_of_mem _ (List.mem_append_left _ (List.mem_append_left _ (List.mem_append_left _ (List.mem_append_left _ (List.mem_of_getElem? (i := 3) rfl))))))
  have hiX0 : ∀ w ∈ u_ws RX0 TX0 9, w ∈ wsX8_request := fun _ h => List.mem_cons_of_mem _ (List.mem_append_left _ (List.mem_append_left _ (List.mem_append_right _ (h))))
  have hw6 : (Cond.fieldLink RX8 168 "Tickstation$Lines" "requested" "I").before _ s = true := hts _ (List.mem_cons_of_mem _ (List.mem_append_left _ (List.mem_append_left _ (List.mem_append_left _ (List.mem_append_left _ (List.mem_of_getElem? (i := 4) rfl))))))
  have hiX2 : ∀ w ∈ u_ws RX2 TX2 7, w ∈ wsX8_request := fun _ h => List.mem_cons_of_mem _ (List.mem_append_left _ (List.mem_append_right _ (h)))
  have hl := lv_entry ([.ref xt, .int v1]) (n := 3) (Nat.le_of_ble_eq_true rfl)
  rw [lg_entry_eq]
  generalize (lg_sl ([.ref xt, .int v1]) ++ List.replicate (3 - (lg_sl ([.ref xt, .int v1])).length) Slot.unset).toArray = ls at hl ⊢
  have hl : lv_has ls 3 [(0, .ref xt), (1, .int v1)] := hl
  refine lv_iload_n hx hb dX8_request_0 rfl (lv_at hl 1 rfl) ?_
  refine lv_if_lt (tgt := 10) hx hb dX8_request_1 (by decide) (fun c_1 => ?_) (fun c_1 => ?_)
  · obtain ⟨sa9, hstr9⟩ := hG.2.2.2.1 _ (List.mem_of_getElem? (i := 0) rfl)
    exact vx_throwS (sa := sa9) hx hb hl9 hown (by decide +kernel) (by decide +kernel) hw0 hw1 hstr9 (vx_hat (fun w hw => hts w (List.mem_cons_of_mem _ (List.mem_append_right _ (hw)))) xh_26 (nw_use hN)) xg_26 hG.2.2.2.2.1 hG.2.2.2.2.2.1 hS (hl.1.trans hml.symm) dX8_request_10 dX8_request_13 dX8_request_14 dX8_request_16 dX8_request_19 (fun x9 hx9 => (htab x9 hx9).elim) (by decide) (by decide) (Nat.le_of_ble_eq_true rfl) (Nat.le_of_ble_eq_true rfl) hlocks (fun t hal hle hq => ⟨(), trivial, ⟨rfl, (by unfold sp_X8_request; rw [if_pos c_1])⟩, ⟨Nat.le_trans hS.1 hle, fun q h1 h2 => (hq q (Nat.lt_of_lt_of_le h1 hS.1)).trans (hS.2.1 q h1 h2)⟩⟩) hS.2.2 (Nat.le_of_ble_eq_true rfl) (Nat.le_of_ble_eq_true rfl)
  · refine lv_iload_n hx hb dX8_request_4 rfl (lv_at hl 1 rfl) ?_
    refine lv_bipush (v := 8) hx hb dX8_request_5 (by decide) ?_
    refine lv_icmp_lt (tgt := 20) hx hb dX8_request_7 (by decide) (fun c_7 => ?_) (fun c_7 => ?_)
    · refine lv_aload_n hx hb dX8_request_20 rfl (lv_at hl 0 rfl) ?_
      refine va_get (D := (dC, dI)) (ci := 12) (v := .ref ah) (C := RX8) (T := TX8) (N := 3) hx hb hts hiX8 hown hK hP 0 rfl rfl 0 (by decide) (hw2) (fun _ h9 => h9) rfl dX8_request_21 ?_
      refine va_get (D := (dC, dI)) (ci := 4) (v := .ref an) (C := RX0) (T := TX0) (N := 9) hx hb hts hiX0 hown hK hP 1 rfl rfl 3 (by decide) (hw4) (fun _ h9 => h9) rfl dX8_request_24 ?_
      refine va_get (D := (dC, dI)) (ci := 6) (v := .int 0) (C := RX2) (T := TX2) (N := 7) hx hb hts hiX2 hown hK hP 2 rfl rfl 6 (by decide) (hw6) (fun _ h9 => h9) rfl dX8_request_27 ?_
      refine lv_iload_n hx hb dX8_request_30 rfl (lv_at hl 1 rfl) ?_
      have hPc := hP.sub (ws' := []) [] rfl
      have hDc := hD.sub (ws' := []) [] (by decide) rfl
      have hKc := hK.sub (tys' := []) [] rfl
      have hFc := va_free (wc := []) hD hS hA [] rfl
      refine va_calli (va_runS (As := [.int 0, .int v1]) (rest := []) ⟨hx, hb, hml, hown, hts⟩ (c_X8_hasBit_0 l dC dI g 0 v1 s.heap.size (zsh _)) (va_cwS 2 hts gX8_request_X8_hasBit rfl rfl rfl (by decide +kernel) ⟨Nat.le_of_ble_eq_true rfl, Nat.le_of_ble_eq_true rfl⟩) ⟨wIn_blind, wIn_at hPc hKc hDc hG hS hFc⟩ rfl rfl hl.1 rfl (lv_room (Nat.le_of_ble_eq_true rfl)) dX8_request_31 ⟨Nat.le_of_ble_eq_true rfl, Nat.le_of_ble_eq_true rfl⟩) hS (fun q _ h => hFc q h) hFc (fun r_1 u t H1 locs ht hvm hw hB hz1 hk1 hS => ?_)
      obtain ⟨hP1, hK1, hD1⟩ := hB
      rw [ht] at hP1
      obtain ⟨hP, hD⟩ := va_join (wr := [(xt, .inr (12, [.ref ah, .ref xe, .ref xf])), (ah, .inr (4, [.ref ac, .ref au, .ref ab, .ref an, .ref ak, .ref ad, .int 0, .int 0, .long 0])), (an, .inr (6, [.ref n1, .ref n2, .ref n3, .ref n4, .ref n5, .int 0, .int 0])), (n1, .inl (cI, 8, .inl (cn 7))), (n2, .inl (cI, 8, .inl (cn 1))), (n3, .inl (cI, 8, .inl (cn 110))), (n4, .inl (cI, 8, .inl (cn 0))), (n5, .inl (cI, 8, .inl (cn 0)))]) (w1 := []) hP hD [] [0, 1, 2, 3, 4, 5, 6, 7] rfl rfl (by decide) (by decide) hk1 hFc hP1 hD1
      generalize H1 = H at hP hS ⊢
      have hP : va_P (dC, dI) vwCl [(xt, .inr (12, [.ref ah, .ref xe, .ref xf])), (ah, .inr (4, [.ref ac, .ref au, .ref ab, .ref an, .ref ak, .ref ad, .int 0, .int 0, .long 0])), (an, .inr (6, [.ref n1, .ref n2, .ref n3, .ref n4, .ref n5, .int 0, .int 0])), (n1, .inl (cI, 8, .inl (cn 7))), (n2, .inl (cI, 8, .inl (cn 1))), (n3, .inl (cI, 8, .inl (cn 110))), (n4, .inl (cI, 8, .inl (cn 0))), (n5, .inl (cI, 8, .inl (cn 0)))] H := hP
      have hD : va_D A [(xt, .inr (12, [.ref ah, .ref xe, .ref xf])), (ah, .inr (4, [.ref ac, .ref au, .ref ab, .ref an, .ref ak, .ref ad, .int 0, .int 0, .long 0])), (an, .inr (6, [.ref n1, .ref n2, .ref n3, .ref n4, .ref n5, .int 0, .int 0])), (n1, .inl (cI, 8, .inl (cn 7))), (n2, .inl (cI, 8, .inl (cn 1))), (n3, .inl (cI, 8, .inl (cn 110))), (n4, .inl (cI, 8, .inl (cn 0))), (n5, .inl (cI, 8, .inl (cn 0)))] := hD
      refine lt_ci (y := 0) hw ?_
      refine lv_istore_n (lv' := [(2, .int 0), (0, .ref xt), (1, .int v1)]) hx hb dX8_request_34 rfl hl (by decide) rfl (fun ls hl => ?_)
      refine lv_aload_n hx hb dX8_request_35 rfl (lv_at hl 1 rfl) ?_
      refine va_get (D := (dC, dI)) (ci := 12) (v := .ref ah) (C := RX8) (T := TX8) (N := 3) hx hb hts hiX8 hown hK hP 0 rfl rfl 0 (by decide) (hw2) (fun _ h9 => h9) rfl dX8_request_36 ?_
      refine va_get (D := (dC, dI)) (ci := 4) (v := .ref an) (C := RX0) (T := TX0) (N := 9) hx hb hts hiX0 hown hK hP 1 rfl rfl 3 (by decide) (hw4) (fun _ h9 => h9) rfl dX8_request_39 ?_
      refine lv_aload_n hx hb dX8_request_42 rfl (lv_at hl 1 rfl) ?_
      refine va_get (D := (dC, dI)) (ci := 12) (v := .ref ah) (C := RX8) (T := TX8) (N := 3) hx hb hts hiX8 hown hK hP 0 rfl rfl 0 (by decide) (hw2) (fun _ h9 => h9) rfl dX8_request_43 ?_
      refine va_get (D := (dC, dI)) (ci := 4) (v := .ref an) (C := RX0) (T := TX0) (N := 9) hx hb hts hiX0 hown hK hP 1 rfl rfl 3 (by decide) (hw4) (fun _ h9 => h9) rfl dX8_request_46 ?_
      refine va_get (D := (dC, dI)) (ci := 6) (v := .int 0) (C := RX2) (T := TX2) (N := 7) hx hb hts hiX2 hown hK hP 2 rfl rfl 6 (by decide) (hw6) (fun _ h9 => h9) rfl dX8_request_49 ?_
      refine lv_iload_n hx hb dX8_request_52 rfl (lv_at hl 2 rfl) ?_
      refine lv_iconst (v := 1) hx hb dX8_request_53 (by decide) ?_
      have hPc := hP.sub (ws' := []) [] rfl
      have hDc := hD.sub (ws' := []) [] (by decide) rfl
      have hKc := hK.sub (tys' := []) [] rfl
      have hFc := va_free (wc := []) hD hS hA [] rfl
      refine va_calli (va_runS (As := [.int 0, .int v1, .int 1]) (rest := [.ref an]) ⟨hx, hb, hml, hown, hts⟩ (c_X8_withBit_1 l dC dI g 0 v1 H.size) (va_cwS 3 hts gX8_request_X8_withBit rfl rfl rfl (by decide +kernel) ⟨Nat.le_of_ble_eq_true rfl, Nat.le_of_ble_eq_true rfl⟩) ⟨wIn_blind, wIn_at hPc hKc hDc hG hS hFc⟩ rfl rfl hl.1 rfl (lv_room (Nat.le_of_ble_eq_true rfl)) dX8_request_54 ⟨Nat.le_of_ble_eq_true rfl, Nat.le_of_ble_eq_true rfl⟩) hS (fun q _ h => hFc q h) hFc (fun r_2 u t H1 locs ht hvm hw hB hz1 hk1 hS => ?_)
      obtain ⟨hP1, hK1, hD1⟩ := hB
      rw [ht] at hP1
      obtain ⟨hP, hD⟩ := va_join (wr := [(xt, .inr (12, [.ref ah, .ref xe, .ref xf])), (ah, .inr (4, [.ref ac, .ref au, .ref ab, .ref an, .ref ak, .ref ad, .int 0, .int 0, .long 0])), (an, .inr (6, [.ref n1, .ref n2, .ref n3, .ref n4, .ref n5, .int 0, .int 0])), (n1, .inl (cI, 8, .inl (cn 7))), (n2, .inl (cI, 8, .inl (cn 1))), (n3, .inl (cI, 8, .inl (cn 110))), (n4, .inl (cI, 8, .inl (cn 0))), (n5, .inl (cI, 8, .inl (cn 0)))]) (w1 := []) hP hD [] [0, 1, 2, 3, 4, 5, 6, 7] rfl rfl (by decide) (by decide) hk1 hFc hP1 hD1
      generalize H1 = H at hP hS ⊢
      have hP : va_P (dC, dI) vwCl [(xt, .inr (12, [.ref ah, .ref xe, .ref xf])), (ah, .inr (4, [.ref ac, .ref au, .ref ab, .ref an, .ref ak, .ref ad, .int 0, .int 0, .long 0])), (an, .inr (6, [.ref n1, .ref n2, .ref n3, .ref n4, .ref n5, .int 0, .int 0])), (n1, .inl (cI, 8, .inl (cn 7))), (n2, .inl (cI, 8, .inl (cn 1))), (n3, .inl (cI, 8, .inl (cn 110))), (n4, .inl (cI, 8, .inl (cn 0))), (n5, .inl (cI, 8, .inl (cn 0)))] H := hP
      have hD : va_D A [(xt, .inr (12, [.ref ah, .ref xe, .ref xf])), (ah, .inr (4, [.ref ac, .ref au, .ref ab, .ref an, .ref ak, .ref ad, .int 0, .int 0, .long 0])), (an, .inr (6, [.ref n1, .ref n2, .ref n3, .ref n4, .ref n5, .int 0, .int 0])), (n1, .inl (cI, 8, .inl (cn 7))), (n2, .inl (cI, 8, .inl (cn 1))), (n3, .inl (cI, 8, .inl (cn 110))), (n4, .inl (cI, 8, .inl (cn 0))), (n5, .inl (cI, 8, .inl (cn 0)))] := hD
      refine lt_ci (y := ((0 : Int32) ||| ((1 : Int32) <<< (v1 &&& 31)))) hw ?_
      refine va_put (D := (dC, dI)) (ci := 6) (v := .int ((0 : Int32) ||| ((1 : Int32) <<< (v1 &&& 31)))) (ty := .int) (C := RX2) (T := TX2) (N := 7) hx hb hts hiX2 tyX2 tyX2_ok nmX2 hown hK hP hD hS 2 rfl rfl 6 (by decide) (hw6) (fun _ h9 => h9) rfl (by decide +kernel) rfl rfl (Nat.le_of_ble_eq_true rfl) dX8_request_57 (fun H locs hP hD hS => ?_)
      have hP : va_P (dC, dI) vwCl [(xt, .inr (12, [.ref ah, .ref xe, .ref xf])), (ah, .inr (4, [.ref ac, .ref au, .ref ab, .ref an, .ref ak, .ref ad, .int 0, .int 0, .long 0])), (an, .inr (6, [.ref n1, .ref n2, .ref n3, .ref n4, .ref n5, .int 0, .int ((0 : Int32) ||| ((1 : Int32) <<< (v1 &&& 31)))])), (n1, .inl (cI, 8, .inl (cn 7))), (n2, .inl (cI, 8, .inl (cn 1))), (n3, .inl (cI, 8, .inl (cn 110))), (n4, .inl (cI, 8, .inl (cn 0))), (n5, .inl (cI, 8, .inl (cn 0)))] H := hP
      have hD : va_D A [(xt, .inr (12, [.ref ah, .ref xe, .ref xf])), (ah, .inr (4, [.ref ac, .ref au, .ref ab, .ref an, .ref ak, .ref ad, .int 0, .int 0, .long 0])), (an, .inr (6, [.ref n1, .ref n2, .ref n3, .ref n4, .ref n5, .int 0, .int ((0 : Int32) ||| ((1 : Int32) <<< (v1 &&& 31)))])), (n1, .inl (cI, 8, .inl (cn 7))), (n2, .inl (cI, 8, .inl (cn 1))), (n3, .inl (cI, 8, .inl (cn 110))), (n4, .inl (cI, 8, .inl (cn 0))), (n5, .inl (cI, 8, .inl (cn 0)))] := hD
      refine lv_iload_n hx hb dX8_request_60 rfl (lv_at hl 0 rfl) ?_
      refine lv_if_ne (tgt := 68) hx hb dX8_request_61 (by decide) (fun c => (c (by decide)).elim) (fun _ => ?_)
      refine lv_iconst (v := 1) hx hb dX8_request_64 (by decide) ?_
      refine lv_goto (tgt := 69) hx hb dX8_request_65 (by decide) ?_
      have hP9 := hP.sub (ws' := []) [] rfl
      have hD9 := hD.sub (ws' := []) [] (by decide) rfl
      have hK9 := hK.sub (tys' := [(cI, .int)]) [0] rfl
      refine W.widen (k := 1) (n := 6) (Nat.le_of_ble_eq_true rfl) (Nat.le_of_ble_eq_true rfl) ?_
      refine vx_ret ?_
      exact W.zret (v := 1) hx hb hr (by first | rfl | decide) (fun t ht hW => ⟨⟨1, (), rfl, ⟨rfl, (by unfold sp_X8_request; rw [if_neg c_1, if_pos c_7])⟩, wOut_at ht hW hP9 hK9 hD9⟩, hS.F ht⟩) hS.2.2 dX8_request_69
    · obtain ⟨sa9, hstr9⟩ := hG.2.2.2.1 _ (List.mem_of_getElem? (i := 0) rfl)
      exact vx_throwS (sa := sa9) hx hb hl9 hown (by decide +kernel) (by decide +kernel) hw0 hw1 hstr9 (vx_hat (fun w hw => hts w (List.mem_cons_of_mem _ (List.mem_append_right _ (hw)))) xh_26 (nw_use hN)) xg_26 hG.2.2.2.2.1 hG.2.2.2.2.2.1 hS (hl.1.trans hml.symm) dX8_request_10 dX8_request_13 dX8_request_14 dX8_request_16 dX8_request_19 (fun x9 hx9 => (htab x9 hx9).elim) (by decide) (by decide) (Nat.le_of_ble_eq_true rfl) (Nat.le_of_ble_eq_true rfl) hlocks (fun t hal hle hq => ⟨(), trivial, ⟨rfl, (by unfold sp_X8_request; rw [if_neg c_1, if_neg c_7])⟩, ⟨Nat.le_trans hS.1 hle, fun q h1 h2 => (hq q (Nat.lt_of_lt_of_le h1 hS.1)).trans (hS.2.1 q h1 h2)⟩⟩) hS.2.2 (Nat.le_of_ble_eq_true rfl) (Nat.le_of_ble_eq_true rfl)

def sp_X8_ticks (v1 : Int32) : Int32 := (if v1 < 0 then 1 else (if v1 < 4 then 0 else 1))
set_option maxHeartbeats 4000000 in
set_option maxRecDepth 100000 in
theorem c_X8_ticks (l : Launch) (hl9 : l.stackTraces = false) (dC : Nat → ClassId) (dI : Nat → Nat → Nat) (g : Nat × Nat × Nat) (xt : Nat) (xe : Nat) (xf : Nat) (ah : Nat) (ac : Nat) (c1 : Nat) (c2 : Nat) (c3 : Nat) (c4 : Nat) (c5 : Nat) (au : Nat) (ab : Nat) (an : Nat) (ak : Nat) (ad : Nat) (cI : ClassId) (v1 : Int32) (sz : Nat) : vx_Met l yX8_ticks wsX8_ticks ({ frames := 6, cells := 1, slots := 6, locals := 100 } : Room) (va_Pc [.ref xt, .int v1] (wIn dC dI g [(xt, .inr (12, [.ref ah, .ref xe, .ref xf])), (ah, .inr (4, [.ref ac, .ref au, .ref ab, .ref an, .ref ak, .ref ad, .int 0, .int 0, .long 0])), (ac, .inr (5, [.ref c1, .ref c2, .ref c3, .ref c4, .ref c5, .int 15])), (c1, .inl (cI, 4, .inl (cn 0))), (c2, .inl (cI, 4, .inl (cn 1))), (c3, .inl (cI, 4, .inl (cn 0))), (c4, .inl (cI, 4, .inl (cn 0))), (c5, .inl (cI, 4, .inl (cn 0)))] [(cI, .int)] sz)) (va_Qi (fun (r : Int32) (u : Unit) => r = 0 ∧ sp_X8_ticks v1 = 0) (fun (u : Unit) (t : State) => wOut dC dI [] [(cI, .int)] (va_A [(xt, .inr (12, [.ref ah, .ref xe, .ref xf])), (ah, .inr (4, [.ref ac, .ref au, .ref ab, .ref an, .ref ak, .ref ad, .int 0, .int 0, .long 0])), (ac, .inr (5, [.ref c1, .ref c2, .ref c3, .ref c4, .ref c5, .int 15])), (c1, .inl (cI, 4, .inl (cn 0))), (c2, .inl (cI, 4, .inl (cn 1))), (c3, .inl (cI, 4, .inl (cn 0))), (c4, .inl (cI, 4, .inl (cn 0))), (c5, .inl (cI, 4, .inl (cn 0)))] sz) t) (va_A [(xt, .inr (12, [.ref ah, .ref xe, .ref xf])), (ah, .inr (4, [.ref ac, .ref au, .ref ab, .ref an, .ref ak, .ref ad, .int 0, .int 0, .long 0])), (ac, .inr (5, [.ref c1, .ref c2, .ref c3, .ref c4, .ref c5, .int 15])), (c1, .inl (cI, 4, .inl (cn 0))), (c2, .inl (cI, 4, .inl (cn 1))), (c3, .inl (cI, 4, .inl (cn 0))), (c4, .inl (cI, 4, .inl (cn 0))), (c5, .inl (cI, 4, .inl (cn 0)))] sz)) (vx_X (fun (_ : Unit) => True) (fun (E : String) (_ : Unit) (_ : State) => (E = "java/lang/IndexOutOfBoundsException" ∧ sp_X8_ticks v1 = 1)) (va_A [(xt, .inr (12, [.ref ah, .ref xe, .ref xf])), (ah, .inr (4, [.ref ac, .ref au, .ref ab, .ref an, .ref ak, .ref ad, .int 0, .int 0, .long 0])), (ac, .inr (5, [.ref c1, .ref c2, .ref c3, .ref c4, .ref c5, .int 15])), (c1, .inl (cI, 4, .inl (cn 0))), (c2, .inl (cI, 4, .inl (cn 1))), (c3, .inl (cI, 4, .inl (cn 0))), (c4, .inl (cI, 4, .inl (cn 0))), (c5, .inl (cI, 4, .inl (cn 0)))] sz)) 1 6 (va_A [(xt, .inr (12, [.ref ah, .ref xe, .ref xf])), (ah, .inr (4, [.ref ac, .ref au, .ref ab, .ref an, .ref ak, .ref ad, .int 0, .int 0, .long 0])), (ac, .inr (5, [.ref c1, .ref c2, .ref c3, .ref c4, .ref c5, .int 15])), (c1, .inl (cI, 4, .inl (cn 0))), (c2, .inl (cI, 4, .inl (cn 1))), (c3, .inl (cI, 4, .inl (cn 0))), (c4, .inl (cI, 4, .inl (cn 0))), (c5, .inl (cI, 4, .inl (cn 0)))] sz) := by
  refine vx_ofW (cc := cX8_ticks) (maxL := 2) (ret := (some .int)) (by decide) rfl ?_
  intro p e s m args below meth c s₁ B hml htab hv
  obtain ⟨rfl, hsz, hP, hK, hD0, hG⟩ := hv
  have hx := B.exec
  have hb := B.bytes
  have hr := B.returns
  have hts := atoms_spec (ws := wsX8_ticks) B.pre
  have hown : s.vm.findClass RX8 = some m.cls := findClass_of_methodNamed B.named
  have hlocks := B.notSynchronized
  subst hsz
  have hD := hD0.self (sz := s.heap.size)
  generalize hAe : va_A [(xt, .inr (12, [.ref ah, .ref xe, .ref xf])), (ah, .inr (4, [.ref ac, .ref au, .ref ab, .ref an, .ref ak, .ref ad, .int 0, .int 0, .long 0])), (ac, .inr (5, [.ref c1, .ref c2, .ref c3, .ref c4, .ref c5, .int 15])), (c1, .inl (cI, 4, .inl (cn 0))), (c2, .inl (cI, 4, .inl (cn 1))), (c3, .inl (cI, 4, .inl (cn 0))), (c4, .inl (cI, 4, .inl (cn 0))), (c5, .inl (cI, 4, .inl (cn 0)))] s.heap.size = A at hD hG ⊢
  have hN := hG.1
  have hA : ∀ q : Nat, s.heap.size ≤ q → A q := fun q h => by rw [← hAe]; exact Or.inr h
  have hS : va_S A s.heap s.heap [] := va_S.rf
  have hP : va_P (dC, dI) vwCl [(xt, .inr (12, [.ref ah, .ref xe, .ref xf])), (ah, .inr (4, [.ref ac, .ref au, .ref ab, .ref an, .ref ak, .ref ad, .int 0, .int 0, .long 0])), (ac, .inr (5, [.ref c1, .ref c2, .ref c3, .ref c4, .ref c5, .int 15])), (c1, .inl (cI, 4, .inl (cn 0))), (c2, .inl (cI, 4, .inl (cn 1))), (c3, .inl (cI, 4, .inl (cn 0))), (c4, .inl (cI, 4, .inl (cn 0))), (c5, .inl (cI, 4, .inl (cn 0)))] s.heap := hP
  have hw0 : (Cond.classLink RX8 22 "java/lang/IndexOutOfBoundsException").before _ s = true := hts _ (List.mem_cons_of_mem _ (List.mem_append_left _ (List.mem_append_left _ (List.mem_append_left _ (List.mem_append_left _ (List.mem_append_left _ (List.mem_of_getElem? (i := 0) rfl)))))))
  have hw1 : (Cond.initialized "java/lang/IndexOutOfBoundsException").before _ s = true := hts _ (List.mem_cons_of_mem _ (List.mem_append_left _ (List.mem_append_left _ (List.mem_append_left _ (List.mem_append_left _ (List.mem_append_left _ (List.mem_of_getElem? (i := 1) rfl)))))))
  have hw2 : (Cond.fieldLink RX8 10 "Tickstation" "chip" "LTickstation$Chip;").before _ s = true := hts _ (List.mem_cons_of_mem _ (List.mem_append_left _ (List.mem_append_left _ (List.mem_append_left _ (List.mem_append_left _ (List.mem_append_left _ (List.mem_of_getElem? (i := 2) rfl)))))))
  have hiX8 : ∀ w ∈ u_ws RX8 TX8 3, w ∈ wsX8_ticks := fun _ h => List.mem_cons_of_mem _ (List.mem_append_left _ (List.mem_append_left _ (List.mem_append_left _ (List.mem_append_left _ (List.mem_append_right _ (h))))))
  have hw4 : (Cond.fieldLink RX8 36 "Tickstation$Chip" "clocks" "LTickstation$Clocks;").before _ s = true := hts _ (List.mem_cons_of_mem _ (List.mem_append_left _ (List.mem_append_left _ (List.mem_append_left _ (List.mem_append_left _ (List.mem_append_left _ (List.mem_of_getElem? (i := 3) rfl)))))))
  have hiX0 : ∀ w ∈ u_ws RX0 TX0 9, w ∈ wsX8_ticks := fun _ h => List.mem_cons_of_mem _ (List.mem_append_left _ (List.mem_append_left _ (List.mem_append_left _ (List.mem_append_right _ (h)))))
  have hw6 : (Cond.fieldLink RX8 198 "Tickstation$Clocks" "ticks" "[I").before _ s = true := hts _ (List.mem_cons_of_mem _ (List.mem_append_left _ (List.mem_append_left _ (List.mem_append_left _ (List.mem_append_left _ (List.mem_append_left _ (List.mem_of_getElem? (i := 4) rfl)))))))
  have hiX1 : ∀ w ∈ u_ws RX1 TX1 6, w ∈ wsX8_ticks := fun _ h => List.mem_cons_of_mem _ (List.mem_append_left _ (List.mem_append_left _ (List.mem_append_right _ (h))))
  have hl := lv_entry ([.ref xt, .int v1]) (n := 2) (Nat.le_of_ble_eq_true rfl)
  rw [lg_entry_eq]
  generalize (lg_sl ([.ref xt, .int v1]) ++ List.replicate (2 - (lg_sl ([.ref xt, .int v1])).length) Slot.unset).toArray = ls at hl ⊢
  have hl : lv_has ls 2 [(0, .ref xt), (1, .int v1)] := hl
  refine lv_iload_n hx hb dX8_ticks_0 rfl (lv_at hl 1 rfl) ?_
  refine lv_if_lt (tgt := 9) hx hb dX8_ticks_1 (by decide) (fun c_1 => ?_) (fun c_1 => ?_)
  · obtain ⟨sa9, hstr9⟩ := hG.2.2.2.1 _ (List.mem_of_getElem? (i := 8) rfl)
    exact vx_throwS (sa := sa9) hx hb hl9 hown (by decide +kernel) (by decide +kernel) hw0 hw1 hstr9 (vx_hat (fun w hw => hts w (List.mem_cons_of_mem _ (List.mem_append_left _ (List.mem_append_right _ (hw))))) xh_26 (nw_use hN)) xg_26 hG.2.2.2.2.1 hG.2.2.2.2.2.1 hS (hl.1.trans hml.symm) dX8_ticks_9 dX8_ticks_12 dX8_ticks_13 dX8_ticks_15 dX8_ticks_18 (fun x9 hx9 => (htab x9 hx9).elim) (by decide) (by decide) (Nat.le_of_ble_eq_true rfl) (Nat.le_of_ble_eq_true rfl) hlocks (fun t hal hle hq => ⟨(), trivial, ⟨rfl, (by unfold sp_X8_ticks; rw [if_pos c_1])⟩, ⟨Nat.le_trans hS.1 hle, fun q h1 h2 => (hq q (Nat.lt_of_lt_of_le h1 hS.1)).trans (hS.2.1 q h1 h2)⟩⟩) hS.2.2 (Nat.le_of_ble_eq_true rfl) (Nat.le_of_ble_eq_true rfl)
  · refine lv_iload_n hx hb dX8_ticks_4 rfl (lv_at hl 1 rfl) ?_
    refine lv_iconst (v := 4) hx hb dX8_ticks_5 (by decide) ?_
    refine lv_icmp_lt (tgt := 19) hx hb dX8_ticks_6 (by decide) (fun c_6 => ?_) (fun c_6 => ?_)
    · refine lv_aload_n hx hb dX8_ticks_19 rfl (lv_at hl 0 rfl) ?_
      refine va_get (D := (dC, dI)) (ci := 12) (v := .ref ah) (C := RX8) (T := TX8) (N := 3) hx hb hts hiX8 hown hK hP 0 rfl rfl 0 (by decide) (hw2) (fun _ h9 => h9) rfl dX8_ticks_20 ?_
      refine va_get (D := (dC, dI)) (ci := 4) (v := .ref ac) (C := RX0) (T := TX0) (N := 9) hx hb hts hiX0 hown hK hP 1 rfl rfl 0 (by decide) (hw4) (fun _ h9 => h9) rfl dX8_ticks_23 ?_
      refine va_get (D := (dC, dI)) (ci := 5) (v := .ref c4) (C := RX1) (T := TX1) (N := 6) hx hb hts hiX1 hown hK hP 2 rfl rfl 3 (by decide) (hw6) (fun _ h9 => h9) rfl dX8_ticks_26 ?_
      refine lv_iload_n hx hb dX8_ticks_29 rfl (lv_at hl 1 rfl) ?_
      refine va_iald (D := (dC, dI)) hx hb hK hP 6 0 rfl rfl (vp_in_iff.mpr ⟨i_l0 c_1, i_u4 c_6⟩) dX8_ticks_30 ?_
      refine lt_ci (y := 0) rfl ?_
      have hP9 := hP.sub (ws' := []) [] rfl
      have hD9 := hD.sub (ws' := []) [] (by decide) rfl
      have hK9 := hK.sub (tys' := [(cI, .int)]) [0] rfl
      refine W.widen (k := 1) (n := 6) (Nat.le_of_ble_eq_true rfl) (Nat.le_of_ble_eq_true rfl) ?_
      refine vx_ret ?_
      exact W.iret (v := 0) hx hb hr (fun t ht hW => ⟨⟨0, (), rfl, ⟨rfl, (by unfold sp_X8_ticks; rw [if_neg c_1, if_pos c_6])⟩, wOut_at ht hW hP9 hK9 hD9⟩, hS.F ht⟩) hS.2.2 dX8_ticks_31
    · obtain ⟨sa9, hstr9⟩ := hG.2.2.2.1 _ (List.mem_of_getElem? (i := 8) rfl)
      exact vx_throwS (sa := sa9) hx hb hl9 hown (by decide +kernel) (by decide +kernel) hw0 hw1 hstr9 (vx_hat (fun w hw => hts w (List.mem_cons_of_mem _ (List.mem_append_left _ (List.mem_append_right _ (hw))))) xh_26 (nw_use hN)) xg_26 hG.2.2.2.2.1 hG.2.2.2.2.2.1 hS (hl.1.trans hml.symm) dX8_ticks_9 dX8_ticks_12 dX8_ticks_13 dX8_ticks_15 dX8_ticks_18 (fun x9 hx9 => (htab x9 hx9).elim) (by decide) (by decide) (Nat.le_of_ble_eq_true rfl) (Nat.le_of_ble_eq_true rfl) hlocks (fun t hal hle hq => ⟨(), trivial, ⟨rfl, (by unfold sp_X8_ticks; rw [if_neg c_1, if_neg c_6])⟩, ⟨Nat.le_trans hS.1 hle, fun q h1 h2 => (hq q (Nat.lt_of_lt_of_le h1 hS.1)).trans (hS.2.1 q h1 h2)⟩⟩) hS.2.2 (Nat.le_of_ble_eq_true rfl) (Nat.le_of_ble_eq_true rfl)

def sp_X8_count (v1 : Int32) : Int32 := (if v1 < 0 then 1 else (if v1 < 4 then 0 else 1))
set_option maxHeartbeats 4000000 in
set_option maxRecDepth 100000 in
theorem c_X8_count (l : Launch) (hl9 : l.stackTraces = false) (dC : Nat → ClassId) (dI : Nat → Nat → Nat) (g : Nat × Nat × Nat) (xt : Nat) (xe : Nat) (xf : Nat) (ah : Nat) (ac : Nat) (au : Nat) (t1 : Nat) (t2 : Nat) (t3 : Nat) (t4 : Nat) (t5 : Nat) (t6 : Nat) (t7 : Nat) (ab : Nat) (an : Nat) (ak : Nat) (ad : Nat) (cI : ClassId) (v1 : Int32) (sz : Nat) : vx_Met l yX8_count wsX8_count ({ frames := 6, cells := 1, slots := 6, locals := 100 } : Room) (va_Pc [.ref xt, .int v1] (wIn dC dI g [(xt, .inr (12, [.ref ah, .ref xe, .ref xf])), (ah, .inr (4, [.ref ac, .ref au, .ref ab, .ref an, .ref ak, .ref ad, .int 0, .int 0, .long 0])), (au, .inr (10, [.ref t1, .ref t2, .ref t3, .ref t4, .ref t5, .ref t6, .ref t7, .int 0, .int 0])), (t1, .inl (cI, 4, .inl (cn 0))), (t2, .inl (cI, 4, .inl (cn 10))), (t3, .inl (cI, 4, .inl (cn 10))), (t4, .inl (cI, 4, .inl (cn (-1)))), (t5, .inl (cI, 4, .inl (cn 0))), (t6, .inl (cI, 4, .inl (cn 0))), (t7, .inl (cI, 4, .inl (cn 110)))] [(cI, .int)] sz)) (va_Qi (fun (r : Int32) (u : Unit) => r = 0 ∧ sp_X8_count v1 = 0) (fun (u : Unit) (t : State) => wOut dC dI [] [(cI, .int)] (va_A [(xt, .inr (12, [.ref ah, .ref xe, .ref xf])), (ah, .inr (4, [.ref ac, .ref au, .ref ab, .ref an, .ref ak, .ref ad, .int 0, .int 0, .long 0])), (au, .inr (10, [.ref t1, .ref t2, .ref t3, .ref t4, .ref t5, .ref t6, .ref t7, .int 0, .int 0])), (t1, .inl (cI, 4, .inl (cn 0))), (t2, .inl (cI, 4, .inl (cn 10))), (t3, .inl (cI, 4, .inl (cn 10))), (t4, .inl (cI, 4, .inl (cn (-1)))), (t5, .inl (cI, 4, .inl (cn 0))), (t6, .inl (cI, 4, .inl (cn 0))), (t7, .inl (cI, 4, .inl (cn 110)))] sz) t) (va_A [(xt, .inr (12, [.ref ah, .ref xe, .ref xf])), (ah, .inr (4, [.ref ac, .ref au, .ref ab, .ref an, .ref ak, .ref ad, .int 0, .int 0, .long 0])), (au, .inr (10, [.ref t1, .ref t2, .ref t3, .ref t4, .ref t5, .ref t6, .ref t7, .int 0, .int 0])), (t1, .inl (cI, 4, .inl (cn 0))), (t2, .inl (cI, 4, .inl (cn 10))), (t3, .inl (cI, 4, .inl (cn 10))), (t4, .inl (cI, 4, .inl (cn (-1)))), (t5, .inl (cI, 4, .inl (cn 0))), (t6, .inl (cI, 4, .inl (cn 0))), (t7, .inl (cI, 4, .inl (cn 110)))] sz)) (vx_X (fun (_ : Unit) => True) (fun (E : String) (_ : Unit) (_ : State) => (E = "java/lang/IndexOutOfBoundsException" ∧ sp_X8_count v1 = 1)) (va_A [(xt, .inr (12, [.ref ah, .ref xe, .ref xf])), (ah, .inr (4, [.ref ac, .ref au, .ref ab, .ref an, .ref ak, .ref ad, .int 0, .int 0, .long 0])), (au, .inr (10, [.ref t1, .ref t2, .ref t3, .ref t4, .ref t5, .ref t6, .ref t7, .int 0, .int 0])), (t1, .inl (cI, 4, .inl (cn 0))), (t2, .inl (cI, 4, .inl (cn 10))), (t3, .inl (cI, 4, .inl (cn 10))), (t4, .inl (cI, 4, .inl (cn (-1)))), (t5, .inl (cI, 4, .inl (cn 0))), (t6, .inl (cI, 4, .inl (cn 0))), (t7, .inl (cI, 4, .inl (cn 110)))] sz)) 1 6 (va_A [(xt, .inr (12, [.ref ah, .ref xe, .ref xf])), (ah, .inr (4, [.ref ac, .ref au, .ref ab, .ref an, .ref ak, .ref ad, .int 0, .int 0, .long 0])), (au, .inr (10, [.ref t1, .ref t2, .ref t3, .ref t4, .ref t5, .ref t6, .ref t7, .int 0, .int 0])), (t1, .inl (cI, 4, .inl (cn 0))), (t2, .inl (cI, 4, .inl (cn 10))), (t3, .inl (cI, 4, .inl (cn 10))), (t4, .inl (cI, 4, .inl (cn (-1)))), (t5, .inl (cI, 4, .inl (cn 0))), (t6, .inl (cI, 4, .inl (cn 0))), (t7, .inl (cI, 4, .inl (cn 110)))] sz) := by
  refine vx_ofW (cc := cX8_count) (maxL := 2) (ret := (some .int)) (by decide) rfl ?_
  intro p e s m args below meth c s₁ B hml htab hv
  obtain ⟨rfl, hsz, hP, hK, hD0, hG⟩ := hv
  have hx := B.exec
  have hb := B.bytes
  have hr := B.returns
  have hts := atoms_spec (ws := wsX8_count) B.pre
  have hown : s.vm.findClass RX8 = some m.cls := findClass_of_methodNamed B.named
  have hlocks := B.notSynchronized
  subst hsz
  have hD := hD0.self (sz := s.heap.size)
  generalize hAe : va_A [(xt, .inr (12, [.ref ah, .ref xe, .ref xf])), (ah, .inr (4, [.ref ac, .ref au, .ref ab, .ref an, .ref ak, .ref ad, .int 0, .int 0, .long 0])), (au, .inr (10, [.ref t1, .ref t2, .ref t3, .ref t4, .ref t5, .ref t6, .ref t7, .int 0, .int 0])), (t1, .inl (cI, 4, .inl (cn 0))), (t2, .inl (cI, 4, .inl (cn 10))), (t3, .inl (cI, 4, .inl (cn 10))), (t4, .inl (cI, 4, .inl (cn (-1)))), (t5, .inl (cI, 4, .inl (cn 0))), (t6, .inl (cI, 4, .inl (cn 0))), (t7, .inl (cI, 4, .inl (cn 110)))] s.heap.size = A at hD hG ⊢
  have hN := hG.1
  have hA : ∀ q : Nat, s.heap.size ≤ q → A q := fun q h => by rw [← hAe]; exact Or.inr h
  have hS : va_S A s.heap s.heap [] := va_S.rf
  have hP : va_P (dC, dI) vwCl [(xt, .inr (12, [.ref ah, .ref xe, .ref xf])), (ah, .inr (4, [.ref ac, .ref au, .ref ab, .ref an, .ref ak, .ref ad, .int 0, .int 0, .long 0])), (au, .inr (10, [.ref t1, .ref t2, .ref t3, .ref t4, .ref t5, .ref t6, .ref t7, .int 0, .int 0])), (t1, .inl (cI, 4, .inl (cn 0))), (t2, .inl (cI, 4, .inl (cn 10))), (t3, .inl (cI, 4, .inl (cn 10))), (t4, .inl (cI, 4, .inl (cn (-1)))), (t5, .inl (cI, 4, .inl (cn 0))), (t6, .inl (cI, 4, .inl (cn 0))), (t7, .inl (cI, 4, .inl (cn 110)))] s.heap := hP
  have hw0 : (Cond.classLink RX8 22 "java/lang/IndexOutOfBoundsException").before _ s = true := hts _ (List.mem_cons_of_mem _ (List.mem_append_left _ (List.mem_append_left _ (List.mem_append_left _ (List.mem_append_left _ (List.mem_append_left _ (List.mem_of_getElem? (i := 0) rfl)))))))
  have hw1 : (Cond.initialized "java/lang/IndexOutOfBoundsException").before _ s = true := hts _ (List.mem_cons_of_mem _ (List.mem_append_left _ (List.mem_append_left _ (List.mem_append_left _ (List.mem_append_left _ (List.mem_append_left _ (List.mem_of_getElem? (i := 1) rfl)))))))
  have hw2 : (Cond.fieldLink RX8 10 "Tickstation" "chip" "LTickstation$Chip;").before _ s = true := hts _ (List.mem_cons_of_mem _ (List.mem_append_left _ (List.mem_append_left _ (List.mem_append_left _ (List.mem_append_left _ (List.mem_append_left _ (List.mem_of_getElem? (i := 2) rfl)))))))
  have hiX8 : ∀ w ∈ u_ws RX8 TX8 3, w ∈ wsX8_count := fun _ h => List.mem_cons_of_mem _ (List.mem_append_left _ (List.mem_append_left _ (List.mem_append_left _ (List.mem_append_left _ (List.mem_append_right _ (h))))))
  have hw4 : (Cond.fieldLink RX8 63 "Tickstation$Chip" "timers" "LTickstation$Timers;").before _ s = true := hts _ (List.mem_cons_of_mem _ (List.mem_append_left _ (List.mem_append_left _ (List.mem_append_left _ (List.mem_append_left _ (List.mem_append_left _ (List.mem_of_getElem? (i := 3) rfl)))))))
  have hiX0 : ∀ w ∈ u_ws RX0 TX0 9, w ∈ wsX8_count := fun _ h => List.mem_cons_of_mem _ (List.mem_append_left _ (List.mem_append_left _ (List.mem_append_left _ (List.mem_append_right _ (h)))))
  have hw6 : (Cond.fieldLink RX8 201 "Tickstation$Timers" "count" "[I").before _ s = true := hts _ (List.mem_cons_of_mem _ (List.mem_append_left _ (List.mem_append_left _ (List.mem_append_left _ (List.mem_append_left _ (List.mem_append_left _ (List.mem_of_getElem? (i := 4) rfl)))))))
  have hiX6 : ∀ w ∈ u_ws RX6 TX6 9, w ∈ wsX8_count := fun _ h => List.mem_cons_of_mem _ (List.mem_append_left _ (List.mem_append_left _ (List.mem_append_right _ (h))))
  have hl := lv_entry ([.ref xt, .int v1]) (n := 2) (Nat.le_of_ble_eq_true rfl)
  rw [lg_entry_eq]
  generalize (lg_sl ([.ref xt, .int v1]) ++ List.replicate (2 - (lg_sl ([.ref xt, .int v1])).length) Slot.unset).toArray = ls at hl ⊢
  have hl : lv_has ls 2 [(0, .ref xt), (1, .int v1)] := hl
  refine lv_iload_n hx hb dX8_count_0 rfl (lv_at hl 1 rfl) ?_
  refine lv_if_lt (tgt := 9) hx hb dX8_count_1 (by decide) (fun c_1 => ?_) (fun c_1 => ?_)
  · obtain ⟨sa9, hstr9⟩ := hG.2.2.2.1 _ (List.mem_of_getElem? (i := 16) rfl)
    exact vx_throwS (sa := sa9) hx hb hl9 hown (by decide +kernel) (by decide +kernel) hw0 hw1 hstr9 (vx_hat (fun w hw => hts w (List.mem_cons_of_mem _ (List.mem_append_left _ (List.mem_append_right _ (hw))))) xh_26 (nw_use hN)) xg_26 hG.2.2.2.2.1 hG.2.2.2.2.2.1 hS (hl.1.trans hml.symm) dX8_count_9 dX8_count_12 dX8_count_13 dX8_count_15 dX8_count_18 (fun x9 hx9 => (htab x9 hx9).elim) (by decide) (by decide) (Nat.le_of_ble_eq_true rfl) (Nat.le_of_ble_eq_true rfl) hlocks (fun t hal hle hq => ⟨(), trivial, ⟨rfl, (by unfold sp_X8_count; rw [if_pos c_1])⟩, ⟨Nat.le_trans hS.1 hle, fun q h1 h2 => (hq q (Nat.lt_of_lt_of_le h1 hS.1)).trans (hS.2.1 q h1 h2)⟩⟩) hS.2.2 (Nat.le_of_ble_eq_true rfl) (Nat.le_of_ble_eq_true rfl)
  · refine lv_iload_n hx hb dX8_count_4 rfl (lv_at hl 1 rfl) ?_
    refine lv_iconst (v := 4) hx hb dX8_count_5 (by decide) ?_
    refine lv_icmp_lt (tgt := 19) hx hb dX8_count_6 (by decide) (fun c_6 => ?_) (fun c_6 => ?_)
    · refine lv_aload_n hx hb dX8_count_19 rfl (lv_at hl 0 rfl) ?_
      refine va_get (D := (dC, dI)) (ci := 12) (v := .ref ah) (C := RX8) (T := TX8) (N := 3) hx hb hts hiX8 hown hK hP 0 rfl rfl 0 (by decide) (hw2) (fun _ h9 => h9) rfl dX8_count_20 ?_
      refine va_get (D := (dC, dI)) (ci := 4) (v := .ref au) (C := RX0) (T := TX0) (N := 9) hx hb hts hiX0 hown hK hP 1 rfl rfl 1 (by decide) (hw4) (fun _ h9 => h9) rfl dX8_count_23 ?_
      refine va_get (D := (dC, dI)) (ci := 10) (v := .ref t5) (C := RX6) (T := TX6) (N := 9) hx hb hts hiX6 hown hK hP 2 rfl rfl 4 (by decide) (hw6) (fun _ h9 => h9) rfl dX8_count_26 ?_
      refine lv_iload_n hx hb dX8_count_29 rfl (lv_at hl 1 rfl) ?_
      refine va_iald (D := (dC, dI)) hx hb hK hP 7 0 rfl rfl (vp_in_iff.mpr ⟨i_l0 c_1, i_u4 c_6⟩) dX8_count_30 ?_
      refine lt_ci (y := 0) rfl ?_
      have hP9 := hP.sub (ws' := []) [] rfl
      have hD9 := hD.sub (ws' := []) [] (by decide) rfl
      have hK9 := hK.sub (tys' := [(cI, .int)]) [0] rfl
      refine W.widen (k := 1) (n := 6) (Nat.le_of_ble_eq_true rfl) (Nat.le_of_ble_eq_true rfl) ?_
      refine vx_ret ?_
      exact W.iret (v := 0) hx hb hr (fun t ht hW => ⟨⟨0, (), rfl, ⟨rfl, (by unfold sp_X8_count; rw [if_neg c_1, if_pos c_6])⟩, wOut_at ht hW hP9 hK9 hD9⟩, hS.F ht⟩) hS.2.2 dX8_count_31
    · obtain ⟨sa9, hstr9⟩ := hG.2.2.2.1 _ (List.mem_of_getElem? (i := 16) rfl)
      exact vx_throwS (sa := sa9) hx hb hl9 hown (by decide +kernel) (by decide +kernel) hw0 hw1 hstr9 (vx_hat (fun w hw => hts w (List.mem_cons_of_mem _ (List.mem_append_left _ (List.mem_append_right _ (hw))))) xh_26 (nw_use hN)) xg_26 hG.2.2.2.2.1 hG.2.2.2.2.2.1 hS (hl.1.trans hml.symm) dX8_count_9 dX8_count_12 dX8_count_13 dX8_count_15 dX8_count_18 (fun x9 hx9 => (htab x9 hx9).elim) (by decide) (by decide) (Nat.le_of_ble_eq_true rfl) (Nat.le_of_ble_eq_true rfl) hlocks (fun t hal hle hq => ⟨(), trivial, ⟨rfl, (by unfold sp_X8_count; rw [if_neg c_1, if_neg c_6])⟩, ⟨Nat.le_trans hS.1 hle, fun q h1 h2 => (hq q (Nat.lt_of_lt_of_le h1 hS.1)).trans (hS.2.1 q h1 h2)⟩⟩) hS.2.2 (Nat.le_of_ble_eq_true rfl) (Nat.le_of_ble_eq_true rfl)

def sp_X8_isRunning (v1 : Int32) : Int32 := (if v1 < 0 then 1 else (if v1 < 4 then 0 else 1))
set_option maxHeartbeats 4000000 in
set_option maxRecDepth 100000 in
theorem c_X8_isRunning (l : Launch) (hl9 : l.stackTraces = false) (dC : Nat → ClassId) (dI : Nat → Nat → Nat) (g : Nat × Nat × Nat) (xt : Nat) (xe : Nat) (xf : Nat) (ah : Nat) (ac : Nat) (au : Nat) (t1 : Nat) (t2 : Nat) (t3 : Nat) (t4 : Nat) (t5 : Nat) (t6 : Nat) (t7 : Nat) (ab : Nat) (an : Nat) (ak : Nat) (ad : Nat) (cI : ClassId) (v1 : Int32) (sz : Nat) : vx_Met l yX8_isRunning wsX8_isRunning ({ frames := 6, cells := 1, slots := 6, locals := 100 } : Room) (va_Pc [.ref xt, .int v1] (wIn dC dI g [(xt, .inr (12, [.ref ah, .ref xe, .ref xf])), (ah, .inr (4, [.ref ac, .ref au, .ref ab, .ref an, .ref ak, .ref ad, .int 0, .int 0, .long 0])), (au, .inr (10, [.ref t1, .ref t2, .ref t3, .ref t4, .ref t5, .ref t6, .ref t7, .int 0, .int 0])), (t1, .inl (cI, 4, .inl (cn 0))), (t2, .inl (cI, 4, .inl (cn 10))), (t3, .inl (cI, 4, .inl (cn 10))), (t4, .inl (cI, 4, .inl (cn (-1)))), (t5, .inl (cI, 4, .inl (cn 0))), (t6, .inl (cI, 4, .inl (cn 0))), (t7, .inl (cI, 4, .inl (cn 110)))] [(cI, .int)] sz)) (va_Qi (fun (r : Int32) (u : Unit) => r = 0 ∧ sp_X8_isRunning v1 = 0) (fun (u : Unit) (t : State) => wOut dC dI [] [(cI, .int)] (va_A [(xt, .inr (12, [.ref ah, .ref xe, .ref xf])), (ah, .inr (4, [.ref ac, .ref au, .ref ab, .ref an, .ref ak, .ref ad, .int 0, .int 0, .long 0])), (au, .inr (10, [.ref t1, .ref t2, .ref t3, .ref t4, .ref t5, .ref t6, .ref t7, .int 0, .int 0])), (t1, .inl (cI, 4, .inl (cn 0))), (t2, .inl (cI, 4, .inl (cn 10))), (t3, .inl (cI, 4, .inl (cn 10))), (t4, .inl (cI, 4, .inl (cn (-1)))), (t5, .inl (cI, 4, .inl (cn 0))), (t6, .inl (cI, 4, .inl (cn 0))), (t7, .inl (cI, 4, .inl (cn 110)))] sz) t) (va_A [(xt, .inr (12, [.ref ah, .ref xe, .ref xf])), (ah, .inr (4, [.ref ac, .ref au, .ref ab, .ref an, .ref ak, .ref ad, .int 0, .int 0, .long 0])), (au, .inr (10, [.ref t1, .ref t2, .ref t3, .ref t4, .ref t5, .ref t6, .ref t7, .int 0, .int 0])), (t1, .inl (cI, 4, .inl (cn 0))), (t2, .inl (cI, 4, .inl (cn 10))), (t3, .inl (cI, 4, .inl (cn 10))), (t4, .inl (cI, 4, .inl (cn (-1)))), (t5, .inl (cI, 4, .inl (cn 0))), (t6, .inl (cI, 4, .inl (cn 0))), (t7, .inl (cI, 4, .inl (cn 110)))] sz)) (vx_X (fun (_ : Unit) => True) (fun (E : String) (_ : Unit) (_ : State) => (E = "java/lang/IndexOutOfBoundsException" ∧ sp_X8_isRunning v1 = 1)) (va_A [(xt, .inr (12, [.ref ah, .ref xe, .ref xf])), (ah, .inr (4, [.ref ac, .ref au, .ref ab, .ref an, .ref ak, .ref ad, .int 0, .int 0, .long 0])), (au, .inr (10, [.ref t1, .ref t2, .ref t3, .ref t4, .ref t5, .ref t6, .ref t7, .int 0, .int 0])), (t1, .inl (cI, 4, .inl (cn 0))), (t2, .inl (cI, 4, .inl (cn 10))), (t3, .inl (cI, 4, .inl (cn 10))), (t4, .inl (cI, 4, .inl (cn (-1)))), (t5, .inl (cI, 4, .inl (cn 0))), (t6, .inl (cI, 4, .inl (cn 0))), (t7, .inl (cI, 4, .inl (cn 110)))] sz)) 1 6 (va_A [(xt, .inr (12, [.ref ah, .ref xe, .ref xf])), (ah, .inr (4, [.ref ac, .ref au, .ref ab, .ref an, .ref ak, .ref ad, .int 0, .int 0, .long 0])), (au, .inr (10, [.ref t1, .ref t2, .ref t3, .ref t4, .ref t5, .ref t6, .ref t7, .int 0, .int 0])), (t1, .inl (cI, 4, .inl (cn 0))), (t2, .inl (cI, 4, .inl (cn 10))), (t3, .inl (cI, 4, .inl (cn 10))), (t4, .inl (cI, 4, .inl (cn (-1)))), (t5, .inl (cI, 4, .inl (cn 0))), (t6, .inl (cI, 4, .inl (cn 0))), (t7, .inl (cI, 4, .inl (cn 110)))] sz) := by
  refine vx_ofW (cc := cX8_isRunning) (maxL := 2) (ret := (some .boolean)) (by decide) rfl ?_
  intro p e s m args below meth c s₁ B hml htab hv
  obtain ⟨rfl, hsz, hP, hK, hD0, hG⟩ := hv
  have hx := B.exec
  have hb := B.bytes
  have hr := B.returns
  have hts := atoms_spec (ws := wsX8_isRunning) B.pre
  have hown : s.vm.findClass RX8 = some m.cls := findClass_of_methodNamed B.named
  have hlocks := B.notSynchronized
  subst hsz
  have hD := hD0.self (sz := s.heap.size)
  generalize hAe : va_A [(xt, .inr (12, [.ref ah, .ref xe, .ref xf])), (ah, .inr (4, [.ref ac, .ref au, .ref ab, .ref an, .ref ak, .ref ad, .int 0, .int 0, .long 0])), (au, .inr (10, [.ref t1, .ref t2, .ref t3, .ref t4, .ref t5, .ref t6, .ref t7, .int 0, .int 0])), (t1, .inl (cI, 4, .inl (cn 0))), (t2, .inl (cI, 4, .inl (cn 10))), (t3, .inl (cI, 4, .inl (cn 10))), (t4, .inl (cI, 4, .inl (cn (-1)))), (t5, .inl (cI, 4, .inl (cn 0))), (t6, .inl (cI, 4, .inl (cn 0))), (t7, .inl (cI, 4, .inl (cn 110)))] s.heap.size = A at hD hG ⊢
  have hN := hG.1
  have hA : ∀ q : Nat, s.heap.size ≤ q → A q := fun q h => by rw [← hAe]; exact Or.inr h
  have hS : va_S A s.heap s.heap [] := va_S.rf
  have hP : va_P (dC, dI) vwCl [(xt, .inr (12, [.ref ah, .ref xe, .ref xf])), (ah, .inr (4, [.ref ac, .ref au, .ref ab, .ref an, .ref ak, .ref ad, .int 0, .int 0, .long 0])), (au, .inr (10, [.ref t1, .ref t2, .ref t3, .ref t4, .ref t5, .ref t6, .ref t7, .int 0, .int 0])), (t1, .inl (cI, 4, .inl (cn 0))), (t2, .inl (cI, 4, .inl (cn 10))), (t3, .inl (cI, 4, .inl (cn 10))), (t4, .inl (cI, 4, .inl (cn (-1)))), (t5, .inl (cI, 4, .inl (cn 0))), (t6, .inl (cI, 4, .inl (cn 0))), (t7, .inl (cI, 4, .inl (cn 110)))] s.heap := hP
  have hw0 : (Cond.classLink RX8 22 "java/lang/IndexOutOfBoundsException").before _ s = true := hts _ (List.mem_cons_of_mem _ (List.mem_append_left _ (List.mem_append_left _ (List.mem_append_left _ (List.mem_append_left _ (List.mem_of_getElem? (i := 0) rfl))))))
  have hw1 : (Cond.initialized "java/lang/IndexOutOfBoundsException").before _ s = true := hts _ (List.mem_cons_of_mem _ (List.mem_append_left _ (List.mem_append_left _ (List.mem_append_left _ (List.mem_append_left _ (List.mem_of_getElem? (i := 1) rfl))))))
  have hw2 : (Cond.fieldLink RX8 10 "Tickstation" "chip" "LTickstation$Chip;").before _ s = true := hts _ (List.mem_cons_of_mem _ (List.mem_append_left _ (List.mem_append_left _ (List.mem_append_left _ (List.mem_append_left _ (List.mem_of_getElem? (i := 2) rfl))))))
  have hiX8 : ∀ w ∈ u_ws RX8 TX8 3, w ∈ wsX8_isRunning := fun _ h => List.mem_cons_of_mem _ (List.mem_append_left _ (List.mem_append_left _ (List.mem_append_left _ (List.mem_append_right _ (h)))))
  have hw4 : (Cond.fieldLink RX8 63 "Tickstation$Chip" "timers" "LTickstation$Timers;").before _ s = true := hts _ (List.mem_cons_of_mem _ (List.mem_append_left _ (List.mem_append_left _ (List.mem_append_left _ (List.mem_append_left _ (List.mem_of_getElem? (i := 3) rfl))))))
  have hiX0 : ∀ w ∈ u_ws RX0 TX0 9, w ∈ wsX8_isRunning := fun _ h => List.mem_cons_of_mem _ (List.mem_append_left _ (List.mem_append_left _ (List.mem_append_right _ (h))))
  have hw6 : (Cond.fieldLink RX8 98 "Tickstation$Timers" "running" "I").before _ s = true := hts _ (List.mem_cons_of_mem _ (List.mem_append_left _ (List.mem_append_left _ (List.mem_append_left _ (List.mem_append_left _ (List.mem_of_getElem? (i := 4) rfl))))))
  have hiX6 : ∀ w ∈ u_ws RX6 TX6 9, w ∈ wsX8_isRunning := fun _ h => List.mem_cons_of_mem _ (List.mem_append_left _ (List.mem_append_right _ (h)))
  have hl := lv_entry ([.ref xt, .int v1]) (n := 2) (Nat.le_of_ble_eq_true rfl)
  rw [lg_entry_eq]
  generalize (lg_sl ([.ref xt, .int v1]) ++ List.replicate (2 - (lg_sl ([.ref xt, .int v1])).length) Slot.unset).toArray = ls at hl ⊢
  have hl : lv_has ls 2 [(0, .ref xt), (1, .int v1)] := hl
  refine lv_iload_n hx hb dX8_isRunning_0 rfl (lv_at hl 1 rfl) ?_
  refine lv_if_lt (tgt := 9) hx hb dX8_isRunning_1 (by decide) (fun c_1 => ?_) (fun c_1 => ?_)
  · obtain ⟨sa9, hstr9⟩ := hG.2.2.2.1 _ (List.mem_of_getElem? (i := 16) rfl)
    exact vx_throwS (sa := sa9) hx hb hl9 hown (by decide +kernel) (by decide +kernel) hw0 hw1 hstr9 (vx_hat (fun w hw => hts w (List.mem_cons_of_mem _ (List.mem_append_right _ (hw)))) xh_26 (nw_use hN)) xg_26 hG.2.2.2.2.1 hG.2.2.2.2.2.1 hS (hl.1.trans hml.symm) dX8_isRunning_9 dX8_isRunning_12 dX8_isRunning_13 dX8_isRunning_15 dX8_isRunning_18 (fun x9 hx9 => (htab x9 hx9).elim) (by decide) (by decide) (Nat.le_of_ble_eq_true rfl) (Nat.le_of_ble_eq_true rfl) hlocks (fun t hal hle hq => ⟨(), trivial, ⟨rfl, (by unfold sp_X8_isRunning; rw [if_pos c_1])⟩, ⟨Nat.le_trans hS.1 hle, fun q h1 h2 => (hq q (Nat.lt_of_lt_of_le h1 hS.1)).trans (hS.2.1 q h1 h2)⟩⟩) hS.2.2 (Nat.le_of_ble_eq_true rfl) (Nat.le_of_ble_eq_true rfl)
  · refine lv_iload_n hx hb dX8_isRunning_4 rfl (lv_at hl 1 rfl) ?_
    refine lv_iconst (v := 4) hx hb dX8_isRunning_5 (by decide) ?_
    refine lv_icmp_lt (tgt := 19) hx hb dX8_isRunning_6 (by decide) (fun c_6 => ?_) (fun c_6 => ?_)
    · refine lv_aload_n hx hb dX8_isRunning_19 rfl (lv_at hl 0 rfl) ?_
      refine va_get (D := (dC, dI)) (ci := 12) (v := .ref ah) (C := RX8) (T := TX8) (N := 3) hx hb hts hiX8 hown hK hP 0 rfl rfl 0 (by decide) (hw2) (fun _ h9 => h9) rfl dX8_isRunning_20 ?_
      refine va_get (D := (dC, dI)) (ci := 4) (v := .ref au) (C := RX0) (T := TX0) (N := 9) hx hb hts hiX0 hown hK hP 1 rfl rfl 1 (by decide) (hw4) (fun _ h9 => h9) rfl dX8_isRunning_23 ?_
      refine va_get (D := (dC, dI)) (ci := 10) (v := .int 0) (C := RX6) (T := TX6) (N := 9) hx hb hts hiX6 hown hK hP 2 rfl rfl 8 (by decide) (hw6) (fun _ h9 => h9) rfl dX8_isRunning_26 ?_
      refine lv_iload_n hx hb dX8_isRunning_29 rfl (lv_at hl 1 rfl) ?_
      have hPc := hP.sub (ws' := []) [] rfl
      have hDc := hD.sub (ws' := []) [] (by decide) rfl
      have hKc := hK.sub (tys' := []) [] rfl
      have hFc := va_free (wc := []) hD hS hA [] rfl
      refine va_calli (va_runS (As := [.int 0, .int v1]) (rest := []) ⟨hx, hb, hml, hown, hts⟩ (c_X8_hasBit_0 l dC dI g 0 v1 s.heap.size (zsh _)) (va_cwS 2 hts gX8_isRunning_X8_hasBit rfl rfl rfl (by decide +kernel) ⟨Nat.le_of_ble_eq_true rfl, Nat.le_of_ble_eq_true rfl⟩) ⟨wIn_blind, wIn_at hPc hKc hDc hG hS hFc⟩ rfl rfl hl.1 rfl (lv_room (Nat.le_of_ble_eq_true rfl)) dX8_isRunning_30 ⟨Nat.le_of_ble_eq_true rfl, Nat.le_of_ble_eq_true rfl⟩) hS (fun q _ h => hFc q h) hFc (fun r_1 u t H1 locs ht hvm hw hB hz1 hk1 hS => ?_)
      obtain ⟨hP1, hK1, hD1⟩ := hB
      rw [ht] at hP1
      obtain ⟨hP, hD⟩ := va_join (wr := [(xt, .inr (12, [.ref ah, .ref xe, .ref xf])), (ah, .inr (4, [.ref ac, .ref au, .ref ab, .ref an, .ref ak, .ref ad, .int 0, .int 0, .long 0])), (au, .inr (10, [.ref t1, .ref t2, .ref t3, .ref t4, .ref t5, .ref t6, .ref t7, .int 0, .int 0])), (t1, .inl (cI, 4, .inl (cn 0))), (t2, .inl (cI, 4, .inl (cn 10))), (t3, .inl (cI, 4, .inl (cn 10))), (t4, .inl (cI, 4, .inl (cn (-1)))), (t5, .inl (cI, 4, .inl (cn 0))), (t6, .inl (cI, 4, .inl (cn 0))), (t7, .inl (cI, 4, .inl (cn 110)))]) (w1 := []) hP hD [] [0, 1, 2, 3, 4, 5, 6, 7, 8, 9] rfl rfl (by decide) (by decide) hk1 hFc hP1 hD1
      generalize H1 = H at hP hS ⊢
      have hP : va_P (dC, dI) vwCl [(xt, .inr (12, [.ref ah, .ref xe, .ref xf])), (ah, .inr (4, [.ref ac, .ref au, .ref ab, .ref an, .ref ak, .ref ad, .int 0, .int 0, .long 0])), (au, .inr (10, [.ref t1, .ref t2, .ref t3, .ref t4, .ref t5, .ref t6, .ref t7, .int 0, .int 0])), (t1, .inl (cI, 4, .inl (cn 0))), (t2, .inl (cI, 4, .inl (cn 10))), (t3, .inl (cI, 4, .inl (cn 10))), (t4, .inl (cI, 4, .inl (cn (-1)))), (t5, .inl (cI, 4, .inl (cn 0))), (t6, .inl (cI, 4, .inl (cn 0))), (t7, .inl (cI, 4, .inl (cn 110)))] H := hP
      have hD : va_D A [(xt, .inr (12, [.ref ah, .ref xe, .ref xf])), (ah, .inr (4, [.ref ac, .ref au, .ref ab, .ref an, .ref ak, .ref ad, .int 0, .int 0, .long 0])), (au, .inr (10, [.ref t1, .ref t2, .ref t3, .ref t4, .ref t5, .ref t6, .ref t7, .int 0, .int 0])), (t1, .inl (cI, 4, .inl (cn 0))), (t2, .inl (cI, 4, .inl (cn 10))), (t3, .inl (cI, 4, .inl (cn 10))), (t4, .inl (cI, 4, .inl (cn (-1)))), (t5, .inl (cI, 4, .inl (cn 0))), (t6, .inl (cI, 4, .inl (cn 0))), (t7, .inl (cI, 4, .inl (cn 110)))] := hD
      refine lt_ci (y := 0) hw ?_
      have hP9 := hP.sub (ws' := []) [] rfl
      have hD9 := hD.sub (ws' := []) [] (by decide) rfl
      have hK9 := hK.sub (tys' := [(cI, .int)]) [0] rfl
      refine W.widen (k := 1) (n := 6) (Nat.le_of_ble_eq_true rfl) (Nat.le_of_ble_eq_true rfl) ?_
      refine vx_ret ?_
      exact W.zret (v := 0) hx hb hr (by first | rfl | decide) (fun t ht hW => ⟨⟨0, (), rfl, ⟨rfl, (by unfold sp_X8_isRunning; rw [if_neg c_1, if_pos c_6])⟩, wOut_at ht hW hP9 hK9 hD9⟩, hS.F ht⟩) hS.2.2 dX8_isRunning_33
    · obtain ⟨sa9, hstr9⟩ := hG.2.2.2.1 _ (List.mem_of_getElem? (i := 16) rfl)
      exact vx_throwS (sa := sa9) hx hb hl9 hown (by decide +kernel) (by decide +kernel) hw0 hw1 hstr9 (vx_hat (fun w hw => hts w (List.mem_cons_of_mem _ (List.mem_append_right _ (hw)))) xh_26 (nw_use hN)) xg_26 hG.2.2.2.2.1 hG.2.2.2.2.2.1 hS (hl.1.trans hml.symm) dX8_isRunning_9 dX8_isRunning_12 dX8_isRunning_13 dX8_isRunning_15 dX8_isRunning_18 (fun x9 hx9 => (htab x9 hx9).elim) (by decide) (by decide) (Nat.le_of_ble_eq_true rfl) (Nat.le_of_ble_eq_true rfl) hlocks (fun t hal hle hq => ⟨(), trivial, ⟨rfl, (by unfold sp_X8_isRunning; rw [if_neg c_1, if_neg c_6])⟩, ⟨Nat.le_trans hS.1 hle, fun q h1 h2 => (hq q (Nat.lt_of_lt_of_le h1 hS.1)).trans (hS.2.1 q h1 h2)⟩⟩) hS.2.2 (Nat.le_of_ble_eq_true rfl) (Nat.le_of_ble_eq_true rfl)

def sp_X8_edgeTime (v1 : Int32) : Int32 := (if v1 < 0 then 1 else 1)
set_option maxHeartbeats 4000000 in
set_option maxRecDepth 100000 in
theorem c_X8_edgeTime (l : Launch) (hl9 : l.stackTraces = false) (dC : Nat → ClassId) (dI : Nat → Nat → Nat) (g : Nat × Nat × Nat) (xt : Nat) (xe : Nat) (xf : Nat) (ah : Nat) (ac : Nat) (au : Nat) (ab : Nat) (b1 : Nat) (b2 : Nat) (an : Nat) (ak : Nat) (ad : Nat) (cI : ClassId) (v1 : Int32) (sz : Nat) : vx_Met l yX8_edgeTime wsX8_edgeTime ({ frames := 6, cells := 1, slots := 6, locals := 100 } : Room) (va_Pc [.ref xt, .int v1] (wIn dC dI g [(xt, .inr (12, [.ref ah, .ref xe, .ref xf])), (ah, .inr (4, [.ref ac, .ref au, .ref ab, .ref an, .ref ak, .ref ad, .int 0, .int 0, .long 0])), (ab, .inr (7, [.ref b1, .ref b2, .int 0, .int 0])), (b1, .inl (cI, 200, .inl (cn 0))), (b2, .inl (cI, 200, .inl (cn 0)))] [(cI, .int)] sz)) (va_Qi (fun (r : Int32) (u : Unit) => False) (fun (u : Unit) (t : State) => wOut dC dI [] [(cI, .int)] (va_A [(xt, .inr (12, [.ref ah, .ref xe, .ref xf])), (ah, .inr (4, [.ref ac, .ref au, .ref ab, .ref an, .ref ak, .ref ad, .int 0, .int 0, .long 0])), (ab, .inr (7, [.ref b1, .ref b2, .int 0, .int 0])), (b1, .inl (cI, 200, .inl (cn 0))), (b2, .inl (cI, 200, .inl (cn 0)))] sz) t) (va_A [(xt, .inr (12, [.ref ah, .ref xe, .ref xf])), (ah, .inr (4, [.ref ac, .ref au, .ref ab, .ref an, .ref ak, .ref ad, .int 0, .int 0, .long 0])), (ab, .inr (7, [.ref b1, .ref b2, .int 0, .int 0])), (b1, .inl (cI, 200, .inl (cn 0))), (b2, .inl (cI, 200, .inl (cn 0)))] sz)) (vx_X (fun (_ : Unit) => True) (fun (E : String) (_ : Unit) (_ : State) => (E = "java/util/NoSuchElementException" ∧ sp_X8_edgeTime v1 = 1)) (va_A [(xt, .inr (12, [.ref ah, .ref xe, .ref xf])), (ah, .inr (4, [.ref ac, .ref au, .ref ab, .ref an, .ref ak, .ref ad, .int 0, .int 0, .long 0])), (ab, .inr (7, [.ref b1, .ref b2, .int 0, .int 0])), (b1, .inl (cI, 200, .inl (cn 0))), (b2, .inl (cI, 200, .inl (cn 0)))] sz)) 1 6 (va_A [(xt, .inr (12, [.ref ah, .ref xe, .ref xf])), (ah, .inr (4, [.ref ac, .ref au, .ref ab, .ref an, .ref ak, .ref ad, .int 0, .int 0, .long 0])), (ab, .inr (7, [.ref b1, .ref b2, .int 0, .int 0])), (b1, .inl (cI, 200, .inl (cn 0))), (b2, .inl (cI, 200, .inl (cn 0)))] sz) := by
  refine vx_ofW (cc := cX8_edgeTime) (maxL := 2) (ret := (some .int)) (by decide) rfl ?_
  intro p e s m args below meth c s₁ B hml htab hv
  obtain ⟨rfl, hsz, hP, hK, hD0, hG⟩ := hv
  have hx := B.exec
  have hb := B.bytes
  have hr := B.returns
  have hts := atoms_spec (ws := wsX8_edgeTime) B.pre
  have hown : s.vm.findClass RX8 = some m.cls := findClass_of_methodNamed B.named
  have hlocks := B.notSynchronized
  subst hsz
  have hD := hD0.self (sz := s.heap.size)
  generalize hAe : va_A [(xt, .inr (12, [.ref ah, .ref xe, .ref xf])), (ah, .inr (4, [.ref ac, .ref au, .ref ab, .ref an, .ref ak, .ref ad, .int 0, .int 0, .long 0])), (ab, .inr (7, [.ref b1, .ref b2, .int 0, .int 0])), (b1, .inl (cI, 200, .inl (cn 0))), (b2, .inl (cI, 200, .inl (cn 0)))] s.heap.size = A at hD hG ⊢
  have hN := hG.1
  have hA : ∀ q : Nat, s.heap.size ≤ q → A q := fun q h => by rw [← hAe]; exact Or.inr h
  have hS : va_S A s.heap s.heap [] := va_S.rf
  have hP : va_P (dC, dI) vwCl [(xt, .inr (12, [.ref ah, .ref xe, .ref xf])), (ah, .inr (4, [.ref ac, .ref au, .ref ab, .ref an, .ref ak, .ref ad, .int 0, .int 0, .long 0])), (ab, .inr (7, [.ref b1, .ref b2, .int 0, .int 0])), (b1, .inl (cI, 200, .inl (cn 0))), (b2, .inl (cI, 200, .inl (cn 0)))] s.heap := hP
  have hw0 : (Cond.classLink RX8 190 "java/util/NoSuchElementException").before _ s = true := hts _ (List.mem_cons_of_mem _ (List.mem_append_left _ (List.mem_append_left _ (List.mem_append_left _ (List.mem_append_left _ (List.mem_append_left _ (List.mem_of_getElem? (i := 0) rfl)))))))
  have hw1 : (Cond.initialized "java/util/NoSuchElementException").before _ s = true := hts _ (List.mem_cons_of_mem _ (List.mem_append_left _ (List.mem_append_left _ (List.mem_append_left _ (List.mem_append_left _ (List.mem_append_left _ (List.mem_of_getElem? (i := 1) rfl)))))))
  have hw2 : (Cond.fieldLink RX8 10 "Tickstation" "chip" "LTickstation$Chip;").before _ s = true := hts _ (List.mem_cons_of_mem _ (List.mem_append_left _ (List.mem_append_left _ (List.mem_append_left _ (List.mem_append_left _ (List.mem_append_left _ (List.mem_of_getElem? (i := 2) rfl)))))))
  have hiX8 : ∀ w ∈ u_ws RX8 TX8 3, w ∈ wsX8_edgeTime := fun _ h => List.mem_cons_of_mem _ (List.mem_append_left _ (List.mem_append_left _ (List.mem_append_left _ (List.mem_append_left _ (List.mem_append_right _ (h))))))
  have hw4 : (Cond.fieldLink RX8 203 "Tickstation$Chip" "probe" "LTickstation$Probe;").before _ s = true := hts _ (List.mem_cons_of_mem _ (List.mem_append_left _ (List.mem_append_left _ (List.mem_append_left _ (List.mem_append_left _ (List.mem_append_left _ (List.mem_of_getElem? (i := 3) rfl)))))))
  have hiX0 : ∀ w ∈ u_ws RX0 TX0 9, w ∈ wsX8_edgeTime := fun _ h => List.mem_cons_of_mem _ (List.mem_append_left _ (List.mem_append_left _ (List.mem_append_left _ (List.mem_append_right _ (h)))))
  have hw6 : (Cond.fieldLink RX8 212 "Tickstation$Probe" "edges" "I").before _ s = true := hts _ (List.mem_cons_of_mem _ (List.mem_append_left _ (List.mem_append_left _ (List.mem_append_left _ (List.mem_append_left _ (List.mem_append_left _ (List.mem_of_getElem? (i := 4) rfl)))))))
  have hiX3 : ∀ w ∈ u_ws RX3 TX3 4, w ∈ wsX8_edgeTime := fun _ h => List.mem_cons_of_mem _ (List.mem_append_left _ (List.mem_append_left _ (List.mem_append_right _ (h))))
  have hl := lv_entry ([.ref xt, .int v1]) (n := 2) (Nat.le_of_ble_eq_true rfl)
  rw [lg_entry_eq]
  generalize (lg_sl ([.ref xt, .int v1]) ++ List.replicate (2 - (lg_sl ([.ref xt, .int v1])).length) Slot.unset).toArray = ls at hl ⊢
  have hl : lv_has ls 2 [(0, .ref xt), (1, .int v1)] := hl
  refine lv_iload_n hx hb dX8_edgeTime_0 rfl (lv_at hl 1 rfl) ?_
  refine lv_if_lt (tgt := 25) hx hb dX8_edgeTime_1 (by decide) (fun c_1 => ?_) (fun c_1 => ?_)
  · obtain ⟨sa9, hstr9⟩ := hG.2.2.2.1 _ (List.mem_of_getElem? (i := 6) rfl)
    exact ns_throw (sa := sa9) hx hb hl9 ns_x0 ns_x1 ns_x2 ns_x5 hown (by decide +kernel) (by decide +kernel) hw0 hw1 hstr9 (vx_hat (fun w hw => hts w (List.mem_cons_of_mem _ (List.mem_append_left _ (List.mem_append_right _ (hw))))) xh_194 (nw_use hN)) xg_194 hG.2.2.2.2.1 hG.2.2.2.2.2.1 hS (hl.1.trans hml.symm) dX8_edgeTime_25 dX8_edgeTime_28 dX8_edgeTime_29 dX8_edgeTime_31 dX8_edgeTime_34 (fun x9 hx9 => (htab x9 hx9).elim) (by decide) (by decide) (Nat.le_of_ble_eq_true rfl) (Nat.le_of_ble_eq_true rfl) hlocks (fun t hal hle hq => ⟨(), trivial, ⟨rfl, (by unfold sp_X8_edgeTime; rw [if_pos c_1])⟩, ⟨Nat.le_trans hS.1 hle, fun q h1 h2 => (hq q (Nat.lt_of_lt_of_le h1 hS.1)).trans (hS.2.1 q h1 h2)⟩⟩) hS.2.2 (Nat.le_of_ble_eq_true rfl) (Nat.le_of_ble_eq_true rfl)
  · refine lv_iload_n hx hb dX8_edgeTime_4 rfl (lv_at hl 1 rfl) ?_
    refine lv_aload_n hx hb dX8_edgeTime_5 rfl (lv_at hl 0 rfl) ?_
    refine va_get (D := (dC, dI)) (ci := 12) (v := .ref ah) (C := RX8) (T := TX8) (N := 3) hx hb hts hiX8 hown hK hP 0 rfl rfl 0 (by decide) (hw2) (fun _ h9 => h9) rfl dX8_edgeTime_6 ?_
    refine va_get (D := (dC, dI)) (ci := 4) (v := .ref ab) (C := RX0) (T := TX0) (N := 9) hx hb hts hiX0 hown hK hP 1 rfl rfl 2 (by decide) (hw4) (fun _ h9 => h9) rfl dX8_edgeTime_9 ?_
    refine va_get (D := (dC, dI)) (ci := 7) (v := .int 0) (C := RX3) (T := TX3) (N := 4) hx hb hts hiX3 hown hK hP 2 rfl rfl 3 (by decide) (hw6) (fun _ h9 => h9) rfl dX8_edgeTime_12 ?_
    refine lv_icmp_ge (tgt := 25) hx hb dX8_edgeTime_15 (by decide) (fun _ => ?_) (fun c => absurd (Int32.not_lt.mp c_1) c)
    obtain ⟨sa9, hstr9⟩ := hG.2.2.2.1 _ (List.mem_of_getElem? (i := 6) rfl)
    exact ns_throw (sa := sa9) hx hb hl9 ns_x0 ns_x1 ns_x2 ns_x5 hown (by decide +kernel) (by decide +kernel) hw0 hw1 hstr9 (vx_hat (fun w hw => hts w (List.mem_cons_of_mem _ (List.mem_append_left _ (List.mem_append_right _ (hw))))) xh_194 (nw_use hN)) xg_194 hG.2.2.2.2.1 hG.2.2.2.2.2.1 hS (hl.1.trans hml.symm) dX8_edgeTime_25 dX8_edgeTime_28 dX8_edgeTime_29 dX8_edgeTime_31 dX8_edgeTime_34 (fun x9 hx9 => (htab x9 hx9).elim) (by decide) (by decide) (Nat.le_of_ble_eq_true rfl) (Nat.le_of_ble_eq_true rfl) hlocks (fun t hal hle hq => ⟨(), trivial, ⟨rfl, (by unfold sp_X8_edgeTime; rw [if_neg c_1])⟩, ⟨Nat.le_trans hS.1 hle, fun q h1 h2 => (hq q (Nat.lt_of_lt_of_le h1 hS.1)).trans (hS.2.1 q h1 h2)⟩⟩) hS.2.2 (Nat.le_of_ble_eq_true rfl) (Nat.le_of_ble_eq_true rfl)

def sp_X8_edgePin (v1 : Int32) : Int32 := (if v1 < 0 then 1 else 1)
set_option maxHeartbeats 4000000 in
set_option maxRecDepth 100000 in
theorem c_X8_edgePin (l : Launch) (hl9 : l.stackTraces = false) (dC : Nat → ClassId) (dI : Nat → Nat → Nat) (g : Nat × Nat × Nat) (xt : Nat) (xe : Nat) (xf : Nat) (ah : Nat) (ac : Nat) (au : Nat) (ab : Nat) (b1 : Nat) (b2 : Nat) (an : Nat) (ak : Nat) (ad : Nat) (cI : ClassId) (v1 : Int32) (sz : Nat) : vx_Met l yX8_edgePin wsX8_edgePin ({ frames := 6, cells := 1, slots := 6, locals := 100 } : Room) (va_Pc [.ref xt, .int v1] (wIn dC dI g [(xt, .inr (12, [.ref ah, .ref xe, .ref xf])), (ah, .inr (4, [.ref ac, .ref au, .ref ab, .ref an, .ref ak, .ref ad, .int 0, .int 0, .long 0])), (ab, .inr (7, [.ref b1, .ref b2, .int 0, .int 0])), (b1, .inl (cI, 200, .inl (cn 0))), (b2, .inl (cI, 200, .inl (cn 0)))] [(cI, .int)] sz)) (va_Qi (fun (r : Int32) (u : Unit) => False) (fun (u : Unit) (t : State) => wOut dC dI [] [(cI, .int)] (va_A [(xt, .inr (12, [.ref ah, .ref xe, .ref xf])), (ah, .inr (4, [.ref ac, .ref au, .ref ab, .ref an, .ref ak, .ref ad, .int 0, .int 0, .long 0])), (ab, .inr (7, [.ref b1, .ref b2, .int 0, .int 0])), (b1, .inl (cI, 200, .inl (cn 0))), (b2, .inl (cI, 200, .inl (cn 0)))] sz) t) (va_A [(xt, .inr (12, [.ref ah, .ref xe, .ref xf])), (ah, .inr (4, [.ref ac, .ref au, .ref ab, .ref an, .ref ak, .ref ad, .int 0, .int 0, .long 0])), (ab, .inr (7, [.ref b1, .ref b2, .int 0, .int 0])), (b1, .inl (cI, 200, .inl (cn 0))), (b2, .inl (cI, 200, .inl (cn 0)))] sz)) (vx_X (fun (_ : Unit) => True) (fun (E : String) (_ : Unit) (_ : State) => (E = "java/util/NoSuchElementException" ∧ sp_X8_edgePin v1 = 1)) (va_A [(xt, .inr (12, [.ref ah, .ref xe, .ref xf])), (ah, .inr (4, [.ref ac, .ref au, .ref ab, .ref an, .ref ak, .ref ad, .int 0, .int 0, .long 0])), (ab, .inr (7, [.ref b1, .ref b2, .int 0, .int 0])), (b1, .inl (cI, 200, .inl (cn 0))), (b2, .inl (cI, 200, .inl (cn 0)))] sz)) 1 6 (va_A [(xt, .inr (12, [.ref ah, .ref xe, .ref xf])), (ah, .inr (4, [.ref ac, .ref au, .ref ab, .ref an, .ref ak, .ref ad, .int 0, .int 0, .long 0])), (ab, .inr (7, [.ref b1, .ref b2, .int 0, .int 0])), (b1, .inl (cI, 200, .inl (cn 0))), (b2, .inl (cI, 200, .inl (cn 0)))] sz) := by
  refine vx_ofW (cc := cX8_edgePin) (maxL := 2) (ret := (some .int)) (by decide) rfl ?_
  intro p e s m args below meth c s₁ B hml htab hv
  obtain ⟨rfl, hsz, hP, hK, hD0, hG⟩ := hv
  have hx := B.exec
  have hb := B.bytes
  have hr := B.returns
  have hts := atoms_spec (ws := wsX8_edgePin) B.pre
  have hown : s.vm.findClass RX8 = some m.cls := findClass_of_methodNamed B.named
  have hlocks := B.notSynchronized
  subst hsz
  have hD := hD0.self (sz := s.heap.size)
  generalize hAe : va_A [(xt, .inr (12, [.ref ah, .ref xe, .ref xf])), (ah, .inr (4, [.ref ac, .ref au, .ref ab, .ref an, .ref ak, .ref ad, .int 0, .int 0, .long 0])), (ab, .inr (7, [.ref b1, .ref b2, .int 0, .int 0])), (b1, .inl (cI, 200, .inl (cn 0))), (b2, .inl (cI, 200, .inl (cn 0)))] s.heap.size = A at hD hG ⊢
  have hN := hG.1
  have hA : ∀ q : Nat, s.heap.size ≤ q → A q := fun q h => by rw [← hAe]; exact Or.inr h
  have hS : va_S A s.heap s.heap [] := va_S.rf
  have hP : va_P (dC, dI) vwCl [(xt, .inr (12, [.ref ah, .ref xe, .ref xf])), (ah, .inr (4, [.ref ac, .ref au, .ref ab, .ref an, .ref ak, .ref ad, .int 0, .int 0, .long 0])), (ab, .inr (7, [.ref b1, .ref b2, .int 0, .int 0])), (b1, .inl (cI, 200, .inl (cn 0))), (b2, .inl (cI, 200, .inl (cn 0)))] s.heap := hP
  have hw0 : (Cond.classLink RX8 190 "java/util/NoSuchElementException").before _ s = true := hts _ (List.mem_cons_of_mem _ (List.mem_append_left _ (List.mem_append_left _ (List.mem_append_left _ (List.mem_append_left _ (List.mem_append_left _ (List.mem_of_getElem? (i := 0) rfl)))))))
  have hw1 : (Cond.initialized "java/util/NoSuchElementException").before _ s = true := hts _ (List.mem_cons_of_mem _ (List.mem_append_left _ (List.mem_append_left _ (List.mem_append_left _ (List.mem_append_left _ (List.mem_append_left _ (List.mem_of_getElem? (i := 1) rfl)))))))
  have hw2 : (Cond.fieldLink RX8 10 "Tickstation" "chip" "LTickstation$Chip;").before _ s = true := hts _ (List.mem_cons_of_mem _ (List.mem_append_left _ (List.mem_append_left _ (List.mem_append_left _ (List.mem_append_left _ (List.mem_append_left _ (List.mem_of_getElem? (i := 2) rfl)))))))
  have hiX8 : ∀ w ∈ u_ws RX8 TX8 3, w ∈ wsX8_edgePin := fun _ h => List.mem_cons_of_mem _ (List.mem_append_left _ (List.mem_append_left _ (List.mem_append_left _ (List.mem_append_left _ (List.mem_append_right _ (h))))))
  have hw4 : (Cond.fieldLink RX8 203 "Tickstation$Chip" "probe" "LTickstation$Probe;").before _ s = true := hts _ (List.mem_cons_of_mem _ (List.mem_append_left _ (List.mem_append_left _ (List.mem_append_left _ (List.mem_append_left _ (List.mem_append_left _ (List.mem_of_getElem? (i := 3) rfl)))))))
  have hiX0 : ∀ w ∈ u_ws RX0 TX0 9, w ∈ wsX8_edgePin := fun _ h => List.mem_cons_of_mem _ (List.mem_append_left _ (List.mem_append_left _ (List.mem_append_left _ (List.mem_append_right _ (h)))))
  have hw6 : (Cond.fieldLink RX8 212 "Tickstation$Probe" "edges" "I").before _ s = true := hts _ (List.mem_cons_of_mem _ (List.mem_append_left _ (List.mem_append_left _ (List.mem_append_left _ (List.mem_append_left _ (List.mem_append_left _ (List.mem_of_getElem? (i := 4) rfl)))))))
  have hiX3 : ∀ w ∈ u_ws RX3 TX3 4, w ∈ wsX8_edgePin := fun _ h => List.mem_cons_of_mem _ (List.mem_append_left _ (List.mem_append_left _ (List.mem_append_right _ (h))))
  have hl := lv_entry ([.ref xt, .int v1]) (n := 2) (Nat.le_of_ble_eq_true rfl)
  rw [lg_entry_eq]
  generalize (lg_sl ([.ref xt, .int v1]) ++ List.replicate (2 - (lg_sl ([.ref xt, .int v1])).length) Slot.unset).toArray = ls at hl ⊢
  have hl : lv_has ls 2 [(0, .ref xt), (1, .int v1)] := hl
  refine lv_iload_n hx hb dX8_edgePin_0 rfl (lv_at hl 1 rfl) ?_
  refine lv_if_lt (tgt := 25) hx hb dX8_edgePin_1 (by decide) (fun c_1 => ?_) (fun c_1 => ?_)
  · obtain ⟨sa9, hstr9⟩ := hG.2.2.2.1 _ (List.mem_of_getElem? (i := 6) rfl)
    exact ns_throw (sa := sa9) hx hb hl9 ns_x0 ns_x1 ns_x2 ns_x5 hown (by decide +kernel) (by decide +kernel) hw0 hw1 hstr9 (vx_hat (fun w hw => hts w (List.mem_cons_of_mem _ (List.mem_append_left _ (List.mem_append_right _ (hw))))) xh_194 (nw_use hN)) xg_194 hG.2.2.2.2.1 hG.2.2.2.2.2.1 hS (hl.1.trans hml.symm) dX8_edgePin_25 dX8_edgePin_28 dX8_edgePin_29 dX8_edgePin_31 dX8_edgePin_34 (fun x9 hx9 => (htab x9 hx9).elim) (by decide) (by decide) (Nat.le_of_ble_eq_true rfl) (Nat.le_of_ble_eq_true rfl) hlocks (fun t hal hle hq => ⟨(), trivial, ⟨rfl, (by unfold sp_X8_edgePin; rw [if_pos c_1])⟩, ⟨Nat.le_trans hS.1 hle, fun q h1 h2 => (hq q (Nat.lt_of_lt_of_le h1 hS.1)).trans (hS.2.1 q h1 h2)⟩⟩) hS.2.2 (Nat.le_of_ble_eq_true rfl) (Nat.le_of_ble_eq_true rfl)
  · refine lv_iload_n hx hb dX8_edgePin_4 rfl (lv_at hl 1 rfl) ?_
    refine lv_aload_n hx hb dX8_edgePin_5 rfl (lv_at hl 0 rfl) ?_
    refine va_get (D := (dC, dI)) (ci := 12) (v := .ref ah) (C := RX8) (T := TX8) (N := 3) hx hb hts hiX8 hown hK hP 0 rfl rfl 0 (by decide) (hw2) (fun _ h9 => h9) rfl dX8_edgePin_6 ?_
    refine va_get (D := (dC, dI)) (ci := 4) (v := .ref ab) (C := RX0) (T := TX0) (N := 9) hx hb hts hiX0 hown hK hP 1 rfl rfl 2 (by decide) (hw4) (fun _ h9 => h9) rfl dX8_edgePin_9 ?_
    refine va_get (D := (dC, dI)) (ci := 7) (v := .int 0) (C := RX3) (T := TX3) (N := 4) hx hb hts hiX3 hown hK hP 2 rfl rfl 3 (by decide) (hw6) (fun _ h9 => h9) rfl dX8_edgePin_12 ?_
    refine lv_icmp_ge (tgt := 25) hx hb dX8_edgePin_15 (by decide) (fun _ => ?_) (fun c => absurd (Int32.not_lt.mp c_1) c)
    obtain ⟨sa9, hstr9⟩ := hG.2.2.2.1 _ (List.mem_of_getElem? (i := 6) rfl)
    exact ns_throw (sa := sa9) hx hb hl9 ns_x0 ns_x1 ns_x2 ns_x5 hown (by decide +kernel) (by decide +kernel) hw0 hw1 hstr9 (vx_hat (fun w hw => hts w (List.mem_cons_of_mem _ (List.mem_append_left _ (List.mem_append_right _ (hw))))) xh_194 (nw_use hN)) xg_194 hG.2.2.2.2.1 hG.2.2.2.2.2.1 hS (hl.1.trans hml.symm) dX8_edgePin_25 dX8_edgePin_28 dX8_edgePin_29 dX8_edgePin_31 dX8_edgePin_34 (fun x9 hx9 => (htab x9 hx9).elim) (by decide) (by decide) (Nat.le_of_ble_eq_true rfl) (Nat.le_of_ble_eq_true rfl) hlocks (fun t hal hle hq => ⟨(), trivial, ⟨rfl, (by unfold sp_X8_edgePin; rw [if_neg c_1])⟩, ⟨Nat.le_trans hS.1 hle, fun q h1 h2 => (hq q (Nat.lt_of_lt_of_le h1 hS.1)).trans (hS.2.1 q h1 h2)⟩⟩) hS.2.2 (Nat.le_of_ble_eq_true rfl) (Nat.le_of_ble_eq_true rfl)

def sp_X8_isRequested (v1 : Int32) : Int32 := (if v1 < 0 then 1 else (if v1 < 8 then 0 else 1))
set_option maxHeartbeats 4000000 in
set_option maxRecDepth 100000 in
theorem c_X8_isRequested (l : Launch) (hl9 : l.stackTraces = false) (dC : Nat → ClassId) (dI : Nat → Nat → Nat) (g : Nat × Nat × Nat) (xt : Nat) (xe : Nat) (xf : Nat) (ah : Nat) (ac : Nat) (au : Nat) (ab : Nat) (an : Nat) (n1 : Nat) (n2 : Nat) (n3 : Nat) (n4 : Nat) (n5 : Nat) (ak : Nat) (ad : Nat) (cI : ClassId) (v1 : Int32) (sz : Nat) : vx_Met l yX8_isRequested wsX8_isRequested ({ frames := 6, cells := 1, slots := 6, locals := 100 } : Room) (va_Pc [.ref xt, .int v1] (wIn dC dI g [(xt, .inr (12, [.ref ah, .ref xe, .ref xf])), (ah, .inr (4, [.ref ac, .ref au, .ref ab, .ref an, .ref ak, .ref ad, .int 0, .int 0, .long 0])), (an, .inr (6, [.ref n1, .ref n2, .ref n3, .ref n4, .ref n5, .int 0, .int 0])), (n1, .inl (cI, 8, .inl (cn 7))), (n2, .inl (cI, 8, .inl (cn 1))), (n3, .inl (cI, 8, .inl (cn 110))), (n4, .inl (cI, 8, .inl (cn 0))), (n5, .inl (cI, 8, .inl (cn 0)))] [(cI, .int)] sz)) (va_Qi (fun (r : Int32) (u : Unit) => r = 0 ∧ sp_X8_isRequested v1 = 0) (fun (u : Unit) (t : State) => wOut dC dI [] [(cI, .int)] (va_A [(xt, .inr (12, [.ref ah, .ref xe, .ref xf])), (ah, .inr (4, [.ref ac, .ref au, .ref ab, .ref an, .ref ak, .ref ad, .int 0, .int 0, .long 0])), (an, .inr (6, [.ref n1, .ref n2, .ref n3, .ref n4, .ref n5, .int 0, .int 0])), (n1, .inl (cI, 8, .inl (cn 7))), (n2, .inl (cI, 8, .inl (cn 1))), (n3, .inl (cI, 8, .inl (cn 110))), (n4, .inl (cI, 8, .inl (cn 0))), (n5, .inl (cI, 8, .inl (cn 0)))] sz) t) (va_A [(xt, .inr (12, [.ref ah, .ref xe, .ref xf])), (ah, .inr (4, [.ref ac, .ref au, .ref ab, .ref an, .ref ak, .ref ad, .int 0, .int 0, .long 0])), (an, .inr (6, [.ref n1, .ref n2, .ref n3, .ref n4, .ref n5, .int 0, .int 0])), (n1, .inl (cI, 8, .inl (cn 7))), (n2, .inl (cI, 8, .inl (cn 1))), (n3, .inl (cI, 8, .inl (cn 110))), (n4, .inl (cI, 8, .inl (cn 0))), (n5, .inl (cI, 8, .inl (cn 0)))] sz)) (vx_X (fun (_ : Unit) => True) (fun (E : String) (_ : Unit) (_ : State) => (E = "java/lang/IndexOutOfBoundsException" ∧ sp_X8_isRequested v1 = 1)) (va_A [(xt, .inr (12, [.ref ah, .ref xe, .ref xf])), (ah, .inr (4, [.ref ac, .ref au, .ref ab, .ref an, .ref ak, .ref ad, .int 0, .int 0, .long 0])), (an, .inr (6, [.ref n1, .ref n2, .ref n3, .ref n4, .ref n5, .int 0, .int 0])), (n1, .inl (cI, 8, .inl (cn 7))), (n2, .inl (cI, 8, .inl (cn 1))), (n3, .inl (cI, 8, .inl (cn 110))), (n4, .inl (cI, 8, .inl (cn 0))), (n5, .inl (cI, 8, .inl (cn 0)))] sz)) 1 6 (va_A [(xt, .inr (12, [.ref ah, .ref xe, .ref xf])), (ah, .inr (4, [.ref ac, .ref au, .ref ab, .ref an, .ref ak, .ref ad, .int 0, .int 0, .long 0])), (an, .inr (6, [.ref n1, .ref n2, .ref n3, .ref n4, .ref n5, .int 0, .int 0])), (n1, .inl (cI, 8, .inl (cn 7))), (n2, .inl (cI, 8, .inl (cn 1))), (n3, .inl (cI, 8, .inl (cn 110))), (n4, .inl (cI, 8, .inl (cn 0))), (n5, .inl (cI, 8, .inl (cn 0)))] sz) := by
  refine vx_ofW (cc := cX8_isRequested) (maxL := 2) (ret := (some .boolean)) (by decide) rfl ?_
  intro p e s m args below meth c s₁ B hml htab hv
  obtain ⟨rfl, hsz, hP, hK, hD0, hG⟩ := hv
  have hx := B.exec
  have hb := B.bytes
  have hr := B.returns
  have hts := atoms_spec (ws := wsX8_isRequested) B.pre
  have hown : s.vm.findClass RX8 = some m.cls := findClass_of_methodNamed B.named
  have hlocks := B.notSynchronized
  subst hsz
  have hD := hD0.self (sz := s.heap.size)
  generalize hAe : va_A [(xt, .inr (12, [.ref ah, .ref xe, .ref xf])), (ah, .inr (4, [.ref ac, .ref au, .ref ab, .ref an, .ref ak, .ref ad, .int 0, .int 0, .long 0])), (an, .inr (6, [.ref n1, .ref n2, .ref n3, .ref n4, .ref n5, .int 0, .int 0])), (n1, .inl (cI, 8, .inl (cn 7))), (n2, .inl (cI, 8, .inl (cn 1))), (n3, .inl (cI, 8, .inl (cn 110))), (n4, .inl (cI, 8, .inl (cn 0))), (n5, .inl (cI, 8, .inl (cn 0)))] s.heap.size = A at hD hG ⊢
  have hN := hG.1
  have hA : ∀ q : Nat, s.heap.size ≤ q → A q := fun q h => by rw [← hAe]; exact Or.inr h
  have hS : va_S A s.heap s.heap [] := va_S.rf
  have hP : va_P (dC, dI) vwCl [(xt, .inr (12, [.ref ah, .ref xe, .ref xf])), (ah, .inr (4, [.ref ac, .ref au, .ref ab, .ref an, .ref ak, .ref ad, .int 0, .int 0, .long 0])), (an, .inr (6, [.ref n1, .ref n2, .ref n3, .ref n4, .ref n5, .int 0, .int 0])), (n1, .inl (cI, 8, .inl (cn 7))), (n2, .inl (cI, 8, .inl (cn 1))), (n3, .inl (cI, 8, .inl (cn 110))), (n4, .inl (cI, 8, .inl (cn 0))), (n5, .inl (cI, 8, .inl (cn 0)))] s.heap := hP
  have hw0 : (Cond.classLink RX8 22 "java/lang/IndexOutOfBoundsException").before _ s = true := hts _ (List.mem_cons_of_mem _ (List.mem_append_left _ (List.mem_append_left _ (List.mem_append_left _ (List.mem_append_left _ (List.mem_of_getElem? (i := 0) rfl))))))
  have hw1 : (Cond.initialized "java/lang/IndexOutOfBoundsException").before _ s = true := hts _ (List.mem_cons_of_mem _ (List.mem_append_left _ (List.mem_append_left _ (List.mem_append_left _ (List.mem_append_left _ (List.mem_of_getElem? (i := 1) rfl))))))
  have hw2 : (Cond.fieldLink RX8 10 "Tickstation" "chip" "LTickstation$Chip;").before _ s = true := hts _ (List.mem_cons_of_mem _ (List.mem_append_left _ (List.mem_append_left _ (List.mem_append_left _ (List.mem_append_left _ (List.mem_of_getElem? (i := 2) rfl))))))
  have hiX8 : ∀ w ∈ u_ws RX8 TX8 3, w ∈ wsX8_isRequested := fun _ h => List.mem_cons_of_mem _ (List.mem_append_left _ (List.mem_append_left _ (List.mem_append_left _ (List.mem_append_right _ (h)))))
  have hw4 : (Cond.fieldLink RX8 109 "Tickstation$Chip" "lines" "LTickstation$Lines;").before _ s = true := hts _ (List.mem_cons_of_mem _ (List.mem_append_left _ (List.mem_append_left _ (List.mem_append_left _ (List.mem_append_left _ (List.mem_of_getElem? (i := 3) rfl))))))
  have hiX0 : ∀ w ∈ u_ws RX0 TX0 9, w ∈ wsX8_isRequested := fun _ h => List.mem_cons_of_mem _ (List.mem_append_left _ (List.mem_append_left _ (List.mem_append_right _ (h))))
  have hw6 : (Cond.fieldLink RX8 168 "Tickstation$Lines" "requested" "I").before _ s = true := hts _ (List.mem_cons_of_mem _ (List.mem_append_left _ (List.mem_append_left _ (List.mem_append_left _ (List.mem_append_left _ (List.mem_of_getElem? (i := 4) rfl))))))
  have hiX2 : ∀ w ∈ u_ws RX2 TX2 7, w ∈ wsX8_isRequested := fun _ h => List.mem_cons_of_mem _ (List.mem_append_left _ (List.mem_append_right _ (h)))
  have hl := lv_entry ([.ref xt, .int v1]) (n := 2) (Nat.le_of_ble_eq_true rfl)
  rw [lg_entry_eq]
  generalize (lg_sl ([.ref xt, .int v1]) ++ List.replicate (2 - (lg_sl ([.ref xt, .int v1])).length) Slot.unset).toArray = ls at hl ⊢
  have hl : lv_has ls 2 [(0, .ref xt), (1, .int v1)] := hl
  refine lv_iload_n hx hb dX8_isRequested_0 rfl (lv_at hl 1 rfl) ?_
  refine lv_if_lt (tgt := 10) hx hb dX8_isRequested_1 (by decide) (fun c_1 => ?_) (fun c_1 => ?_)
  · obtain ⟨sa9, hstr9⟩ := hG.2.2.2.1 _ (List.mem_of_getElem? (i := 0) rfl)
    exact vx_throwS (sa := sa9) hx hb hl9 hown (by decide +kernel) (by decide +kernel) hw0 hw1 hstr9 (vx_hat (fun w hw => hts w (List.mem_cons_of_mem _ (List.mem_append_right _ (hw)))) xh_26 (nw_use hN)) xg_26 hG.2.2.2.2.1 hG.2.2.2.2.2.1 hS (hl.1.trans hml.symm) dX8_isRequested_10 dX8_isRequested_13 dX8_isRequested_14 dX8_isRequested_16 dX8_isRequested_19 (fun x9 hx9 => (htab x9 hx9).elim) (by decide) (by decide) (Nat.le_of_ble_eq_true rfl) (Nat.le_of_ble_eq_true rfl) hlocks (fun t hal hle hq => ⟨(), trivial, ⟨rfl, (by unfold sp_X8_isRequested; rw [if_pos c_1])⟩, ⟨Nat.le_trans hS.1 hle, fun q h1 h2 => (hq q (Nat.lt_of_lt_of_le h1 hS.1)).trans (hS.2.1 q h1 h2)⟩⟩) hS.2.2 (Nat.le_of_ble_eq_true rfl) (Nat.le_of_ble_eq_true rfl)
  · refine lv_iload_n hx hb dX8_isRequested_4 rfl (lv_at hl 1 rfl) ?_
    refine lv_bipush (v := 8) hx hb dX8_isRequested_5 (by decide) ?_
    refine lv_icmp_lt (tgt := 20) hx hb dX8_isRequested_7 (by decide) (fun c_7 => ?_) (fun c_7 => ?_)
    · refine lv_aload_n hx hb dX8_isRequested_20 rfl (lv_at hl 0 rfl) ?_
      refine va_get (D := (dC, dI)) (ci := 12) (v := .ref ah) (C := RX8) (T := TX8) (N := 3) hx hb hts hiX8 hown hK hP 0 rfl rfl 0 (by decide) (hw2) (fun _ h9 => h9) rfl dX8_isRequested_21 ?_
      refine va_get (D := (dC, dI)) (ci := 4) (v := .ref an) (C := RX0) (T := TX0) (N := 9) hx hb hts hiX0 hown hK hP 1 rfl rfl 3 (by decide) (hw4) (fun _ h9 => h9) rfl dX8_isRequested_24 ?_
      refine va_get (D := (dC, dI)) (ci := 6) (v := .int 0) (C := RX2) (T := TX2) (N := 7) hx hb hts hiX2 hown hK hP 2 rfl rfl 6 (by decide) (hw6) (fun _ h9 => h9) rfl dX8_isRequested_27 ?_
      refine lv_iload_n hx hb dX8_isRequested_30 rfl (lv_at hl 1 rfl) ?_
      have hPc := hP.sub (ws' := []) [] rfl
      have hDc := hD.sub (ws' := []) [] (by decide) rfl
      have hKc := hK.sub (tys' := []) [] rfl
      have hFc := va_free (wc := []) hD hS hA [] rfl
      refine va_calli (va_runS (As := [.int 0, .int v1]) (rest := []) ⟨hx, hb, hml, hown, hts⟩ (c_X8_hasBit_0 l dC dI g 0 v1 s.heap.size (zsh _)) (va_cwS 2 hts gX8_isRequested_X8_hasBit rfl rfl rfl (by decide +kernel) ⟨Nat.le_of_ble_eq_true rfl, Nat.le_of_ble_eq_true rfl⟩) ⟨wIn_blind, wIn_at hPc hKc hDc hG hS hFc⟩ rfl rfl hl.1 rfl (lv_room (Nat.le_of_ble_eq_true rfl)) dX8_isRequested_31 ⟨Nat.le_of_ble_eq_true rfl, Nat.le_of_ble_eq_true rfl⟩) hS (fun q _ h => hFc q h) hFc (fun r_1 u t H1 locs ht hvm hw hB hz1 hk1 hS => ?_)
      obtain ⟨hP1, hK1, hD1⟩ := hB
      rw [ht] at hP1
      obtain ⟨hP, hD⟩ := va_join (wr := [(xt, .inr (12, [.ref ah, .ref xe, .ref xf])), (ah, .inr (4, [.ref ac, .ref au, .ref ab, .ref an, .ref ak, .ref ad, .int 0, .int 0, .long 0])), (an, .inr (6, [.ref n1, .ref n2, .ref n3, .ref n4, .ref n5, .int 0, .int 0])), (n1, .inl (cI, 8, .inl (cn 7))), (n2, .inl (cI, 8, .inl (cn 1))), (n3, .inl (cI, 8, .inl (cn 110))), (n4, .inl (cI, 8, .inl (cn 0))), (n5, .inl (cI, 8, .inl (cn 0)))]) (w1 := []) hP hD [] [0, 1, 2, 3, 4, 5, 6, 7] rfl rfl (by decide) (by decide) hk1 hFc hP1 hD1
      generalize H1 = H at hP hS ⊢
      have hP : va_P (dC, dI) vwCl [(xt, .inr (12, [.ref ah, .ref xe, .ref xf])), (ah, .inr (4, [.ref ac, .ref au, .ref ab, .ref an, .ref ak, .ref ad, .int 0, .int 0, .long 0])), (an, .inr (6, [.ref n1, .ref n2, .ref n3, .ref n4, .ref n5, .int 0, .int 0])), (n1, .inl (cI, 8, .inl (cn 7))), (n2, .inl (cI, 8, .inl (cn 1))), (n3, .inl (cI, 8, .inl (cn 110))), (n4, .inl (cI, 8, .inl (cn 0))), (n5, .inl (cI, 8, .inl (cn 0)))] H := hP
      have hD : va_D A [(xt, .inr (12, [.ref ah, .ref xe, .ref xf])), (ah, .inr (4, [.ref ac, .ref au, .ref ab, .ref an, .ref ak, .ref ad, .int 0, .int 0, .long 0])), (an, .inr (6, [.ref n1, .ref n2, .ref n3, .ref n4, .ref n5, .int 0, .int 0])), (n1, .inl (cI, 8, .inl (cn 7))), (n2, .inl (cI, 8, .inl (cn 1))), (n3, .inl (cI, 8, .inl (cn 110))), (n4, .inl (cI, 8, .inl (cn 0))), (n5, .inl (cI, 8, .inl (cn 0)))] := hD
      refine lt_ci (y := 0) hw ?_
      have hP9 := hP.sub (ws' := []) [] rfl
      have hD9 := hD.sub (ws' := []) [] (by decide) rfl
      have hK9 := hK.sub (tys' := [(cI, .int)]) [0] rfl
      refine W.widen (k := 1) (n := 6) (Nat.le_of_ble_eq_true rfl) (Nat.le_of_ble_eq_true rfl) ?_
      refine vx_ret ?_
      exact W.zret (v := 0) hx hb hr (by first | rfl | decide) (fun t ht hW => ⟨⟨0, (), rfl, ⟨rfl, (by unfold sp_X8_isRequested; rw [if_neg c_1, if_pos c_7])⟩, wOut_at ht hW hP9 hK9 hD9⟩, hS.F ht⟩) hS.2.2 dX8_isRequested_34
    · obtain ⟨sa9, hstr9⟩ := hG.2.2.2.1 _ (List.mem_of_getElem? (i := 0) rfl)
      exact vx_throwS (sa := sa9) hx hb hl9 hown (by decide +kernel) (by decide +kernel) hw0 hw1 hstr9 (vx_hat (fun w hw => hts w (List.mem_cons_of_mem _ (List.mem_append_right _ (hw)))) xh_26 (nw_use hN)) xg_26 hG.2.2.2.2.1 hG.2.2.2.2.2.1 hS (hl.1.trans hml.symm) dX8_isRequested_10 dX8_isRequested_13 dX8_isRequested_14 dX8_isRequested_16 dX8_isRequested_19 (fun x9 hx9 => (htab x9 hx9).elim) (by decide) (by decide) (Nat.le_of_ble_eq_true rfl) (Nat.le_of_ble_eq_true rfl) hlocks (fun t hal hle hq => ⟨(), trivial, ⟨rfl, (by unfold sp_X8_isRequested; rw [if_neg c_1, if_neg c_7])⟩, ⟨Nat.le_trans hS.1 hle, fun q h1 h2 => (hq q (Nat.lt_of_lt_of_le h1 hS.1)).trans (hS.2.1 q h1 h2)⟩⟩) hS.2.2 (Nat.le_of_ble_eq_true rfl) (Nat.le_of_ble_eq_true rfl)

def sp_X8_handled (v1 : Int32) : Int32 := (if v1 < 0 then 1 else (if v1 < 8 then 0 else 1))
set_option maxHeartbeats 4000000 in
set_option maxRecDepth 100000 in
theorem c_X8_handled (l : Launch) (hl9 : l.stackTraces = false) (dC : Nat → ClassId) (dI : Nat → Nat → Nat) (g : Nat × Nat × Nat) (xt : Nat) (xe : Nat) (xf : Nat) (ah : Nat) (ac : Nat) (au : Nat) (ab : Nat) (an : Nat) (n1 : Nat) (n2 : Nat) (n3 : Nat) (n4 : Nat) (n5 : Nat) (ak : Nat) (ad : Nat) (cI : ClassId) (v1 : Int32) (sz : Nat) : vx_Met l yX8_handled wsX8_handled ({ frames := 6, cells := 1, slots := 6, locals := 100 } : Room) (va_Pc [.ref xt, .int v1] (wIn dC dI g [(xt, .inr (12, [.ref ah, .ref xe, .ref xf])), (ah, .inr (4, [.ref ac, .ref au, .ref ab, .ref an, .ref ak, .ref ad, .int 0, .int 0, .long 0])), (an, .inr (6, [.ref n1, .ref n2, .ref n3, .ref n4, .ref n5, .int 0, .int 0])), (n1, .inl (cI, 8, .inl (cn 7))), (n2, .inl (cI, 8, .inl (cn 1))), (n3, .inl (cI, 8, .inl (cn 110))), (n4, .inl (cI, 8, .inl (cn 0))), (n5, .inl (cI, 8, .inl (cn 0)))] [(cI, .int)] sz)) (va_Qi (fun (r : Int32) (u : Unit) => r = 0 ∧ sp_X8_handled v1 = 0) (fun (u : Unit) (t : State) => wOut dC dI [] [(cI, .int)] (va_A [(xt, .inr (12, [.ref ah, .ref xe, .ref xf])), (ah, .inr (4, [.ref ac, .ref au, .ref ab, .ref an, .ref ak, .ref ad, .int 0, .int 0, .long 0])), (an, .inr (6, [.ref n1, .ref n2, .ref n3, .ref n4, .ref n5, .int 0, .int 0])), (n1, .inl (cI, 8, .inl (cn 7))), (n2, .inl (cI, 8, .inl (cn 1))), (n3, .inl (cI, 8, .inl (cn 110))), (n4, .inl (cI, 8, .inl (cn 0))), (n5, .inl (cI, 8, .inl (cn 0)))] sz) t) (va_A [(xt, .inr (12, [.ref ah, .ref xe, .ref xf])), (ah, .inr (4, [.ref ac, .ref au, .ref ab, .ref an, .ref ak, .ref ad, .int 0, .int 0, .long 0])), (an, .inr (6, [.ref n1, .ref n2, .ref n3, .ref n4, .ref n5, .int 0, .int 0])), (n1, .inl (cI, 8, .inl (cn 7))), (n2, .inl (cI, 8, .inl (cn 1))), (n3, .inl (cI, 8, .inl (cn 110))), (n4, .inl (cI, 8, .inl (cn 0))), (n5, .inl (cI, 8, .inl (cn 0)))] sz)) (vx_X (fun (_ : Unit) => True) (fun (E : String) (_ : Unit) (_ : State) => (E = "java/lang/IndexOutOfBoundsException" ∧ sp_X8_handled v1 = 1)) (va_A [(xt, .inr (12, [.ref ah, .ref xe, .ref xf])), (ah, .inr (4, [.ref ac, .ref au, .ref ab, .ref an, .ref ak, .ref ad, .int 0, .int 0, .long 0])), (an, .inr (6, [.ref n1, .ref n2, .ref n3, .ref n4, .ref n5, .int 0, .int 0])), (n1, .inl (cI, 8, .inl (cn 7))), (n2, .inl (cI, 8, .inl (cn 1))), (n3, .inl (cI, 8, .inl (cn 110))), (n4, .inl (cI, 8, .inl (cn 0))), (n5, .inl (cI, 8, .inl (cn 0)))] sz)) 1 6 (va_A [(xt, .inr (12, [.ref ah, .ref xe, .ref xf])), (ah, .inr (4, [.ref ac, .ref au, .ref ab, .ref an, .ref ak, .ref ad, .int 0, .int 0, .long 0])), (an, .inr (6, [.ref n1, .ref n2, .ref n3, .ref n4, .ref n5, .int 0, .int 0])), (n1, .inl (cI, 8, .inl (cn 7))), (n2, .inl (cI, 8, .inl (cn 1))), (n3, .inl (cI, 8, .inl (cn 110))), (n4, .inl (cI, 8, .inl (cn 0))), (n5, .inl (cI, 8, .inl (cn 0)))] sz) := by
  refine vx_ofW (cc := cX8_handled) (maxL := 2) (ret := (some .int)) (by decide) rfl ?_
  intro p e s m args below meth c s₁ B hml htab hv
  obtain ⟨rfl, hsz, hP, hK, hD0, hG⟩ := hv
  have hx := B.exec
  have hb := B.bytes
  have hr := B.returns
  have hts := atoms_spec (ws := wsX8_handled) B.pre
  have hown : s.vm.findClass RX8 = some m.cls := findClass_of_methodNamed B.named
  have hlocks := B.notSynchronized
  subst hsz
  have hD := hD0.self (sz := s.heap.size)
  generalize hAe : va_A [(xt, .inr (12, [.ref ah, .ref xe, .ref xf])), (ah, .inr (4, [.ref ac, .ref au, .ref ab, .ref an, .ref ak, .ref ad, .int 0, .int 0, .long 0])), (an, .inr (6, [.ref n1, .ref n2, .ref n3, .ref n4, .ref n5, .int 0, .int 0])), (n1, .inl (cI, 8, .inl (cn 7))), (n2, .inl (cI, 8, .inl (cn 1))), (n3, .inl (cI, 8, .inl (cn 110))), (n4, .inl (cI, 8, .inl (cn 0))), (n5, .inl (cI, 8, .inl (cn 0)))] s.heap.size = A at hD hG ⊢
  have hN := hG.1
  have hA : ∀ q : Nat, s.heap.size ≤ q → A q := fun q h => by rw [← hAe]; exact Or.inr h
  have hS : va_S A s.heap s.heap [] := va_S.rf
  have hP : va_P (dC, dI) vwCl [(xt, .inr (12, [.ref ah, .ref xe, .ref xf])), (ah, .inr (4, [.ref ac, .ref au, .ref ab, .ref an, .ref ak, .ref ad, .int 0, .int 0, .long 0])), (an, .inr (6, [.ref n1, .ref n2, .ref n3, .ref n4, .ref n5, .int 0, .int 0])), (n1, .inl (cI, 8, .inl (cn 7))), (n2, .inl (cI, 8, .inl (cn 1))), (n3, .inl (cI, 8, .inl (cn 110))), (n4, .inl (cI, 8, .inl (cn 0))), (n5, .inl (cI, 8, .inl (cn 0)))] s.heap := hP
  have hw0 : (Cond.classLink RX8 22 "java/lang/IndexOutOfBoundsException").before _ s = true := hts _ (List.mem_cons_of_mem _ (List.mem_append_left _ (List.mem_append_left _ (List.mem_append_left _ (List.mem_append_left _ (List.mem_append_left _ (List.mem_of_getElem? (i := 0) rfl)))))))
  have hw1 : (Cond.initialized "java/lang/IndexOutOfBoundsException").before _ s = true := hts _ (List.mem_cons_of_mem _ (List.mem_append_left _ (List.mem_append_left _ (List.mem_append_left _ (List.mem_append_left _ (List.mem_append_left _ (List.mem_of_getElem? (i := 1) rfl)))))))
  have hw2 : (Cond.fieldLink RX8 10 "Tickstation" "chip" "LTickstation$Chip;").before _ s = true := hts _ (List.mem_cons_of_mem _ (List.mem_append_left _ (List.mem_append_left _ (List.mem_append_left _ (List.mem_append_left _ (List.mem_append_left _ (List.mem_of_getElem? (i := 2) rfl)))))))
  have hiX8 : ∀ w ∈ u_ws RX8 TX8 3, w ∈ wsX8_handled := fun _ h => List.mem_cons_of_mem _ (List.mem_append_left _ (List.mem_append_left _ (List.mem_append_left _ (List.mem_append_left _ (List.mem_append_right _ (h))))))
  have hw4 : (Cond.fieldLink RX8 109 "Tickstation$Chip" "lines" "LTickstation$Lines;").before _ s = true := hts _ (List.mem_cons_of_mem _ (List.mem_append_left _ (List.mem_append_left _ (List.mem_append_left _ (List.mem_append_left _ (List.mem_append_left _ (List.mem_of_getElem? (i := 3) rfl)))))))
  have hiX0 : ∀ w ∈ u_ws RX0 TX0 9, w ∈ wsX8_handled := fun _ h => List.mem_cons_of_mem _ (List.mem_append_left _ (List.mem_append_left _ (List.mem_append_left _ (List.mem_append_right _ (h)))))
  have hw6 : (Cond.fieldLink RX8 237 "Tickstation$Lines" "handled" "[I").before _ s = true := hts _ (List.mem_cons_of_mem _ (List.mem_append_left _ (List.mem_append_left _ (List.mem_append_left _ (List.mem_append_left _ (List.mem_append_left _ (List.mem_of_getElem? (i := 4) rfl)))))))
  have hiX2 : ∀ w ∈ u_ws RX2 TX2 7, w ∈ wsX8_handled := fun _ h => List.mem_cons_of_mem _ (List.mem_append_left _ (List.mem_append_left _ (List.mem_append_right _ (h))))
  have hl := lv_entry ([.ref xt, .int v1]) (n := 2) (Nat.le_of_ble_eq_true rfl)
  rw [lg_entry_eq]
  generalize (lg_sl ([.ref xt, .int v1]) ++ List.replicate (2 - (lg_sl ([.ref xt, .int v1])).length) Slot.unset).toArray = ls at hl ⊢
  have hl : lv_has ls 2 [(0, .ref xt), (1, .int v1)] := hl
  refine lv_iload_n hx hb dX8_handled_0 rfl (lv_at hl 1 rfl) ?_
  refine lv_if_lt (tgt := 10) hx hb dX8_handled_1 (by decide) (fun c_1 => ?_) (fun c_1 => ?_)
  · obtain ⟨sa9, hstr9⟩ := hG.2.2.2.1 _ (List.mem_of_getElem? (i := 0) rfl)
    exact vx_throwS (sa := sa9) hx hb hl9 hown (by decide +kernel) (by decide +kernel) hw0 hw1 hstr9 (vx_hat (fun w hw => hts w (List.mem_cons_of_mem _ (List.mem_append_left _ (List.mem_append_right _ (hw))))) xh_26 (nw_use hN)) xg_26 hG.2.2.2.2.1 hG.2.2.2.2.2.1 hS (hl.1.trans hml.symm) dX8_handled_10 dX8_handled_13 dX8_handled_14 dX8_handled_16 dX8_handled_19 (fun x9 hx9 => (htab x9 hx9).elim) (by decide) (by decide) (Nat.le_of_ble_eq_true rfl) (Nat.le_of_ble_eq_true rfl) hlocks (fun t hal hle hq => ⟨(), trivial, ⟨rfl, (by unfold sp_X8_handled; rw [if_pos c_1])⟩, ⟨Nat.le_trans hS.1 hle, fun q h1 h2 => (hq q (Nat.lt_of_lt_of_le h1 hS.1)).trans (hS.2.1 q h1 h2)⟩⟩) hS.2.2 (Nat.le_of_ble_eq_true rfl) (Nat.le_of_ble_eq_true rfl)
  · refine lv_iload_n hx hb dX8_handled_4 rfl (lv_at hl 1 rfl) ?_
    refine lv_bipush (v := 8) hx hb dX8_handled_5 (by decide) ?_
    refine lv_icmp_lt (tgt := 20) hx hb dX8_handled_7 (by decide) (fun c_7 => ?_) (fun c_7 => ?_)
    · refine lv_aload_n hx hb dX8_handled_20 rfl (lv_at hl 0 rfl) ?_
      refine va_get (D := (dC, dI)) (ci := 12) (v := .ref ah) (C := RX8) (T := TX8) (N := 3) hx hb hts hiX8 hown hK hP 0 rfl rfl 0 (by decide) (hw2) (fun _ h9 => h9) rfl dX8_handled_21 ?_
      refine va_get (D := (dC, dI)) (ci := 4) (v := .ref an) (C := RX0) (T := TX0) (N := 9) hx hb hts hiX0 hown hK hP 1 rfl rfl 3 (by decide) (hw4) (fun _ h9 => h9) rfl dX8_handled_24 ?_
      refine va_get (D := (dC, dI)) (ci := 6) (v := .ref n5) (C := RX2) (T := TX2) (N := 7) hx hb hts hiX2 hown hK hP 2 rfl rfl 4 (by decide) (hw6) (fun _ h9 => h9) rfl dX8_handled_27 ?_
      refine lv_iload_n hx hb dX8_handled_30 rfl (lv_at hl 1 rfl) ?_
      refine va_iald (D := (dC, dI)) hx hb hK hP 7 0 rfl rfl (vp_in_iff.mpr ⟨i_l0 c_1, i_u8 c_7⟩) dX8_handled_31 ?_
      refine lt_ci (y := 0) rfl ?_
      have hP9 := hP.sub (ws' := []) [] rfl
      have hD9 := hD.sub (ws' := []) [] (by decide) rfl
      have hK9 := hK.sub (tys' := [(cI, .int)]) [0] rfl
      refine W.widen (k := 1) (n := 6) (Nat.le_of_ble_eq_true rfl) (Nat.le_of_ble_eq_true rfl) ?_
      refine vx_ret ?_
      exact W.iret (v := 0) hx hb hr (fun t ht hW => ⟨⟨0, (), rfl, ⟨rfl, (by unfold sp_X8_handled; rw [if_neg c_1, if_pos c_7])⟩, wOut_at ht hW hP9 hK9 hD9⟩, hS.F ht⟩) hS.2.2 dX8_handled_32
    · obtain ⟨sa9, hstr9⟩ := hG.2.2.2.1 _ (List.mem_of_getElem? (i := 0) rfl)
      exact vx_throwS (sa := sa9) hx hb hl9 hown (by decide +kernel) (by decide +kernel) hw0 hw1 hstr9 (vx_hat (fun w hw => hts w (List.mem_cons_of_mem _ (List.mem_append_left _ (List.mem_append_right _ (hw))))) xh_26 (nw_use hN)) xg_26 hG.2.2.2.2.1 hG.2.2.2.2.2.1 hS (hl.1.trans hml.symm) dX8_handled_10 dX8_handled_13 dX8_handled_14 dX8_handled_16 dX8_handled_19 (fun x9 hx9 => (htab x9 hx9).elim) (by decide) (by decide) (Nat.le_of_ble_eq_true rfl) (Nat.le_of_ble_eq_true rfl) hlocks (fun t hal hle hq => ⟨(), trivial, ⟨rfl, (by unfold sp_X8_handled; rw [if_neg c_1, if_neg c_7])⟩, ⟨Nat.le_trans hS.1 hle, fun q h1 h2 => (hq q (Nat.lt_of_lt_of_le h1 hS.1)).trans (hS.2.1 q h1 h2)⟩⟩) hS.2.2 (Nat.le_of_ble_eq_true rfl) (Nat.le_of_ble_eq_true rfl)
